set_option maxRecDepth 20000 in
theorem ggX1_init_X3_init : GoodIn wsX1_init wsX3_init := goodIn_r _ [18, 19, 2, 3, 20, 21, 28, 29, 30] (by decide +kernel) (by decide +kernel)
set_option maxRecDepth 20000 in
theorem gX1_init_X3_init : GoodIn wsX1_init (wsX3_init) := ggX1_init_X3_init
theorem dX1_init_0 : decode cX1_init 0 = .ok (.aload_n 0, 1) := by decide +kernel
theorem dX1_init_1 : decode cX1_init 1 = .ok (.invokespecial 3, 3) := by decide +kernel
theorem dX1_init_4 : decode cX1_init 4 = .ok (.aload_n 0, 1) := by decide +kernel
theorem dX1_init_5 : decode cX1_init 5 = .ok (.iconst 4, 1) := by decide +kernel
theorem dX1_init_6 : decode cX1_init 6 = .ok (.anewarray 9, 3) := by decide +kernel
theorem dX1_init_9 : decode cX1_init 9 = .ok (.putfield 11, 3) := by decide +kernel
theorem dX1_init_12 : decode cX1_init 12 = .ok (.iconst 0, 1) := by decide +kernel
theorem dX1_init_13 : decode cX1_init 13 = .ok (.istore_n 1, 1) := by decide +kernel
theorem dX1_init_14 : decode cX1_init 14 = .ok (.iload_n 1, 1) := by decide +kernel
theorem dX1_init_15 : decode cX1_init 15 = .ok (.aload_n 0, 1) := by decide +kernel
theorem dX1_init_16 : decode cX1_init 16 = .ok (.getfield 11, 3) := by decide +kernel
theorem dX1_init_19 : decode cX1_init 19 = .ok (.arraylength, 1) := by decide +kernel
theorem dX1_init_20 : decode cX1_init 20 = .ok (.if_icmp .ge 22, 3) := by decide +kernel
theorem dX1_init_23 : decode cX1_init 23 = .ok (.aload_n 0, 1) := by decide +kernel
theorem dX1_init_24 : decode cX1_init 24 = .ok (.getfield 11, 3) := by decide +kernel
theorem dX1_init_27 : decode cX1_init 27 = .ok (.iload_n 1, 1) := by decide +kernel
theorem dX1_init_28 : decode cX1_init 28 = .ok (.new 9, 3) := by decide +kernel
theorem dX1_init_31 : decode cX1_init 31 = .ok (.dup, 1) := by decide +kernel
theorem dX1_init_32 : decode cX1_init 32 = .ok (.invokespecial 17, 3) := by decide +kernel
theorem dX1_init_35 : decode cX1_init 35 = .ok (.aastore, 1) := by decide +kernel
theorem dX1_init_36 : decode cX1_init 36 = .ok (.iinc 1 1, 3) := by decide +kernel
theorem dX1_init_39 : decode cX1_init 39 = .ok (.goto (-25), 3) := by decide +kernel
theorem dX1_init_42 : decode cX1_init 42 = .ok (.aload_n 0, 1) := by decide +kernel
theorem dX1_init_43 : decode cX1_init 43 = .ok (.new 9, 3) := by decide +kernel
theorem dX1_init_46 : decode cX1_init 46 = .ok (.dup, 1) := by decide +kernel
theorem dX1_init_47 : decode cX1_init 47 = .ok (.invokespecial 17, 3) := by decide +kernel
theorem dX1_init_50 : decode cX1_init 50 = .ok (.putfield 18, 3) := by decide +kernel
theorem dX1_init_53 : decode cX1_init 53 = .ok (.aload_n 0, 1) := by decide +kernel
theorem dX1_init_54 : decode cX1_init 54 = .ok (.getstatic 22, 3) := by decide +kernel
theorem dX1_init_57 : decode cX1_init 57 = .ok (.invokevirtual 26, 3) := by decide +kernel
theorem dX1_init_60 : decode cX1_init 60 = .ok (.checkcast 27, 3) := by decide +kernel
theorem dX1_init_63 : decode cX1_init 63 = .ok (.putfield 31, 3) := by decide +kernel
theorem dX1_init_66 : decode cX1_init 66 = .ok (.return_, 1) := by decide +kernel
set_option maxRecDepth 20000 in
theorem ggX1_copyFrom_X1_strokeAt : GoodIn wsX1_copyFrom wsX1_strokeAt := goodIn_r _ [9, 10, 11, 31, 32, 33, 34, 35, 36] (by decide +kernel) (by decide +kernel)
set_option maxRecDepth 20000 in
theorem gX1_copyFrom_X1_strokeAt : GoodIn wsX1_copyFrom (wsV RX1 38 RX1 yX1_strokeAt wsX1_strokeAt) := goodIn_app (goodIn_of _ (by decide +kernel)) ggX1_copyFrom_X1_strokeAt
set_option maxRecDepth 20000 in
theorem ggX1_copyFrom_X3_copyFrom : GoodIn wsX1_copyFrom wsX3_copyFrom := goodIn_r _ [16, 17, 18, 19, 20, 21, 22, 23, 24, 25, 26, 27, 28, 29, 30, 37, 38, 39] (by decide +kernel) (by decide +kernel)
set_option maxRecDepth 20000 in
theorem gX1_copyFrom_X3_copyFrom : GoodIn wsX1_copyFrom (wsV RX1 42 RX3 yX3_copyFrom wsX3_copyFrom) := goodIn_app (goodIn_of _ (by decide +kernel)) ggX1_copyFrom_X3_copyFrom
set_option maxRecDepth 20000 in
theorem ggX1_copyFrom_X5_copyRow : GoodIn wsX1_copyFrom wsX5_copyRow := goodIn_r _ [22, 23, 24, 25, 26, 27, 28, 29, 30] (by decide +kernel) (by decide +kernel)
set_option maxRecDepth 20000 in
theorem gX1_copyFrom_X5_copyRow_n46 : GoodIn wsX1_copyFrom (wsX5_copyRow) := ggX1_copyFrom_X5_copyRow
theorem dX1_copyFrom_0 : decode cX1_copyFrom 0 = .ok (.iconst 0, 1) := by decide +kernel
theorem dX1_copyFrom_1 : decode cX1_copyFrom 1 = .ok (.istore_n 2, 1) := by decide +kernel
theorem dX1_copyFrom_2 : decode cX1_copyFrom 2 = .ok (.iload_n 2, 1) := by decide +kernel
theorem dX1_copyFrom_3 : decode cX1_copyFrom 3 = .ok (.aload_n 1, 1) := by decide +kernel
theorem dX1_copyFrom_4 : decode cX1_copyFrom 4 = .ok (.getfield 34, 3) := by decide +kernel
theorem dX1_copyFrom_7 : decode cX1_copyFrom 7 = .ok (.if_icmp .ge 22, 3) := by decide +kernel
theorem dX1_copyFrom_10 : decode cX1_copyFrom 10 = .ok (.aload_n 0, 1) := by decide +kernel
theorem dX1_copyFrom_11 : decode cX1_copyFrom 11 = .ok (.iload_n 2, 1) := by decide +kernel
theorem dX1_copyFrom_12 : decode cX1_copyFrom 12 = .ok (.invokevirtual 38, 3) := by decide +kernel
theorem dX1_copyFrom_15 : decode cX1_copyFrom 15 = .ok (.aload_n 1, 1) := by decide +kernel
theorem dX1_copyFrom_16 : decode cX1_copyFrom 16 = .ok (.iload_n 2, 1) := by decide +kernel
theorem dX1_copyFrom_17 : decode cX1_copyFrom 17 = .ok (.invokevirtual 38, 3) := by decide +kernel
theorem dX1_copyFrom_20 : decode cX1_copyFrom 20 = .ok (.invokevirtual 42, 3) := by decide +kernel
theorem dX1_copyFrom_23 : decode cX1_copyFrom 23 = .ok (.iinc 2 1, 3) := by decide +kernel
theorem dX1_copyFrom_26 : decode cX1_copyFrom 26 = .ok (.goto (-24), 3) := by decide +kernel
theorem dX1_copyFrom_29 : decode cX1_copyFrom 29 = .ok (.aload_n 1, 1) := by decide +kernel
theorem dX1_copyFrom_30 : decode cX1_copyFrom 30 = .ok (.getfield 31, 3) := by decide +kernel
theorem dX1_copyFrom_33 : decode cX1_copyFrom 33 = .ok (.aload_n 0, 1) := by decide +kernel
theorem dX1_copyFrom_34 : decode cX1_copyFrom 34 = .ok (.getfield 31, 3) := by decide +kernel
theorem dX1_copyFrom_37 : decode cX1_copyFrom 37 = .ok (.invokestatic 46, 3) := by decide +kernel
theorem dX1_copyFrom_40 : decode cX1_copyFrom 40 = .ok (.aload_n 0, 1) := by decide +kernel
theorem dX1_copyFrom_41 : decode cX1_copyFrom 41 = .ok (.aload_n 1, 1) := by decide +kernel
theorem dX1_copyFrom_42 : decode cX1_copyFrom 42 = .ok (.getfield 34, 3) := by decide +kernel
theorem dX1_copyFrom_45 : decode cX1_copyFrom 45 = .ok (.putfield 34, 3) := by decide +kernel
theorem dX1_copyFrom_48 : decode cX1_copyFrom 48 = .ok (.aload_n 0, 1) := by decide +kernel
theorem dX1_copyFrom_49 : decode cX1_copyFrom 49 = .ok (.aload_n 1, 1) := by decide +kernel
theorem dX1_copyFrom_50 : decode cX1_copyFrom 50 = .ok (.getfield 50, 3) := by decide +kernel
theorem dX1_copyFrom_53 : decode cX1_copyFrom 53 = .ok (.putfield 50, 3) := by decide +kernel
theorem dX1_copyFrom_56 : decode cX1_copyFrom 56 = .ok (.aload_n 0, 1) := by decide +kernel
theorem dX1_copyFrom_57 : decode cX1_copyFrom 57 = .ok (.aload_n 1, 1) := by decide +kernel
theorem dX1_copyFrom_58 : decode cX1_copyFrom 58 = .ok (.getfield 53, 3) := by decide +kernel
theorem dX1_copyFrom_61 : decode cX1_copyFrom 61 = .ok (.putfield 53, 3) := by decide +kernel
theorem dX1_copyFrom_64 : decode cX1_copyFrom 64 = .ok (.return_, 1) := by decide +kernel
theorem dX1_strokeCount_0 : decode cX1_strokeCount 0 = .ok (.aload_n 0, 1) := by decide +kernel
theorem dX1_strokeCount_1 : decode cX1_strokeCount 1 = .ok (.getfield 34, 3) := by decide +kernel
theorem dX1_strokeCount_4 : decode cX1_strokeCount 4 = .ok (.ireturn, 1) := by decide +kernel
theorem dX1_strokeAt_0 : decode cX1_strokeAt 0 = .ok (.iload_n 1, 1) := by decide +kernel
theorem dX1_strokeAt_1 : decode cX1_strokeAt 1 = .ok (.ifCond .lt 21, 3) := by decide +kernel
theorem dX1_strokeAt_4 : decode cX1_strokeAt 4 = .ok (.iload_n 1, 1) := by decide +kernel
theorem dX1_strokeAt_5 : decode cX1_strokeAt 5 = .ok (.aload_n 0, 1) := by decide +kernel
theorem dX1_strokeAt_6 : decode cX1_strokeAt 6 = .ok (.getfield 11, 3) := by decide +kernel
theorem dX1_strokeAt_9 : decode cX1_strokeAt 9 = .ok (.arraylength, 1) := by decide +kernel
theorem dX1_strokeAt_10 : decode cX1_strokeAt 10 = .ok (.if_icmp .ge 12, 3) := by decide +kernel
theorem dX1_strokeAt_13 : decode cX1_strokeAt 13 = .ok (.aload_n 0, 1) := by decide +kernel
theorem dX1_strokeAt_14 : decode cX1_strokeAt 14 = .ok (.getfield 11, 3) := by decide +kernel
theorem dX1_strokeAt_17 : decode cX1_strokeAt 17 = .ok (.iload_n 1, 1) := by decide +kernel
theorem dX1_strokeAt_18 : decode cX1_strokeAt 18 = .ok (.aaload, 1) := by decide +kernel
theorem dX1_strokeAt_19 : decode cX1_strokeAt 19 = .ok (.goto 7, 3) := by decide +kernel
theorem dX1_strokeAt_22 : decode cX1_strokeAt 22 = .ok (.aload_n 0, 1) := by decide +kernel
theorem dX1_strokeAt_23 : decode cX1_strokeAt 23 = .ok (.getfield 18, 3) := by decide +kernel
theorem dX1_strokeAt_26 : decode cX1_strokeAt 26 = .ok (.astore_n 2, 1) := by decide +kernel
theorem dX1_strokeAt_27 : decode cX1_strokeAt 27 = .ok (.aload_n 2, 1) := by decide +kernel
theorem dX1_strokeAt_28 : decode cX1_strokeAt 28 = .ok (.ifnonnull 10, 3) := by decide +kernel
theorem dX1_strokeAt_31 : decode cX1_strokeAt 31 = .ok (.aload_n 0, 1) := by decide +kernel
theorem dX1_strokeAt_32 : decode cX1_strokeAt 32 = .ok (.getfield 18, 3) := by decide +kernel
theorem dX1_strokeAt_35 : decode cX1_strokeAt 35 = .ok (.goto 4, 3) := by decide +kernel
theorem dX1_strokeAt_38 : decode cX1_strokeAt 38 = .ok (.aload_n 2, 1) := by decide +kernel
theorem dX1_strokeAt_39 : decode cX1_strokeAt 39 = .ok (.areturn, 1) := by decide +kernel
set_option maxRecDepth 20000 in
theorem ggX1_openStroke_X1_strokeAt : GoodIn wsX1_openStroke wsX1_strokeAt := goodIn_r _ [6, 7, 8, 16, 17, 18, 19, 20, 21] (by decide +kernel) (by decide +kernel)
set_option maxRecDepth 20000 in
theorem gX1_openStroke_X1_strokeAt : GoodIn wsX1_openStroke (wsV RX1 38 RX1 yX1_strokeAt wsX1_strokeAt) := goodIn_app (goodIn_of _ (by decide +kernel)) ggX1_openStroke_X1_strokeAt
set_option maxRecDepth 20000 in
theorem ggX1_openStroke_X3_removeAll : GoodIn wsX1_openStroke wsX3_removeAll := goodIn_r _ [13, 14, 15, 22, 23, 24] (by decide +kernel) (by decide +kernel)
set_option maxRecDepth 20000 in
theorem gX1_openStroke_X3_removeAll : GoodIn wsX1_openStroke (wsV RX1 56 RX3 yX3_removeAll wsX3_removeAll) := goodIn_app (goodIn_of _ (by decide +kernel)) ggX1_openStroke_X3_removeAll
theorem dX1_openStroke_0 : decode cX1_openStroke 0 = .ok (.aload_n 0, 1) := by decide +kernel
theorem dX1_openStroke_1 : decode cX1_openStroke 1 = .ok (.aload_n 0, 1) := by decide +kernel
theorem dX1_openStroke_2 : decode cX1_openStroke 2 = .ok (.getfield 34, 3) := by decide +kernel
theorem dX1_openStroke_5 : decode cX1_openStroke 5 = .ok (.invokevirtual 38, 3) := by decide +kernel
theorem dX1_openStroke_8 : decode cX1_openStroke 8 = .ok (.astore_n 1, 1) := by decide +kernel
theorem dX1_openStroke_9 : decode cX1_openStroke 9 = .ok (.aload_n 1, 1) := by decide +kernel
theorem dX1_openStroke_10 : decode cX1_openStroke 10 = .ok (.invokevirtual 56, 3) := by decide +kernel
theorem dX1_openStroke_13 : decode cX1_openStroke 13 = .ok (.aload_n 0, 1) := by decide +kernel
theorem dX1_openStroke_14 : decode cX1_openStroke 14 = .ok (.dup, 1) := by decide +kernel
theorem dX1_openStroke_15 : decode cX1_openStroke 15 = .ok (.getfield 34, 3) := by decide +kernel
theorem dX1_openStroke_18 : decode cX1_openStroke 18 = .ok (.iconst 1, 1) := by decide +kernel
theorem dX1_openStroke_19 : decode cX1_openStroke 19 = .ok (.iadd, 1) := by decide +kernel
theorem dX1_openStroke_20 : decode cX1_openStroke 20 = .ok (.putfield 34, 3) := by decide +kernel
theorem dX1_openStroke_23 : decode cX1_openStroke 23 = .ok (.aload_n 1, 1) := by decide +kernel
theorem dX1_openStroke_24 : decode cX1_openStroke 24 = .ok (.areturn, 1) := by decide +kernel
set_option maxRecDepth 20000 in
theorem ggX1_value_X5_cell : GoodIn wsX1_value wsX5_cell := goodIn_r _ [4] (by decide +kernel) (by decide +kernel)
set_option maxRecDepth 20000 in
theorem gX1_value_X5_cell_n59 : GoodIn wsX1_value (wsX5_cell) := ggX1_value_X5_cell
theorem dX1_value_0 : decode cX1_value 0 = .ok (.aload_n 0, 1) := by decide +kernel
theorem dX1_value_1 : decode cX1_value 1 = .ok (.getfield 31, 3) := by decide +kernel
theorem dX1_value_4 : decode cX1_value 4 = .ok (.iload_n 1, 1) := by decide +kernel
theorem dX1_value_5 : decode cX1_value 5 = .ok (.invokestatic 59, 3) := by decide +kernel
theorem dX1_value_8 : decode cX1_value 8 = .ok (.ireturn, 1) := by decide +kernel
set_option maxRecDepth 20000 in
theorem ggX1_putValue_X5_putCell : GoodIn wsX1_putValue wsX5_putCell := goodIn_r _ [4] (by decide +kernel) (by decide +kernel)
set_option maxRecDepth 20000 in
theorem gX1_putValue_X5_putCell_n63 : GoodIn wsX1_putValue (wsX5_putCell) := ggX1_putValue_X5_putCell
theorem dX1_putValue_0 : decode cX1_putValue 0 = .ok (.aload_n 0, 1) := by decide +kernel
theorem dX1_putValue_1 : decode cX1_putValue 1 = .ok (.getfield 31, 3) := by decide +kernel
theorem dX1_putValue_4 : decode cX1_putValue 4 = .ok (.iload_n 1, 1) := by decide +kernel
theorem dX1_putValue_5 : decode cX1_putValue 5 = .ok (.iload_n 2, 1) := by decide +kernel
theorem dX1_putValue_6 : decode cX1_putValue 6 = .ok (.invokestatic 63, 3) := by decide +kernel
theorem dX1_putValue_9 : decode cX1_putValue 9 = .ok (.return_, 1) := by decide +kernel
theorem dX1_noteSimplified_0 : decode cX1_noteSimplified 0 = .ok (.aload_n 0, 1) := by decide +kernel
theorem dX1_noteSimplified_1 : decode cX1_noteSimplified 1 = .ok (.dup, 1) := by decide +kernel
theorem dX1_noteSimplified_2 : decode cX1_noteSimplified 2 = .ok (.getfield 50, 3) := by decide +kernel
theorem dX1_noteSimplified_5 : decode cX1_noteSimplified 5 = .ok (.iconst 1, 1) := by decide +kernel
theorem dX1_noteSimplified_6 : decode cX1_noteSimplified 6 = .ok (.iadd, 1) := by decide +kernel
theorem dX1_noteSimplified_7 : decode cX1_noteSimplified 7 = .ok (.putfield 50, 3) := by decide +kernel
theorem dX1_noteSimplified_10 : decode cX1_noteSimplified 10 = .ok (.aload_n 0, 1) := by decide +kernel
theorem dX1_noteSimplified_11 : decode cX1_noteSimplified 11 = .ok (.dup, 1) := by decide +kernel
theorem dX1_noteSimplified_12 : decode cX1_noteSimplified 12 = .ok (.getfield 53, 3) := by decide +kernel
theorem dX1_noteSimplified_15 : decode cX1_noteSimplified 15 = .ok (.iload_n 1, 1) := by decide +kernel
theorem dX1_noteSimplified_16 : decode cX1_noteSimplified 16 = .ok (.iadd, 1) := by decide +kernel
theorem dX1_noteSimplified_17 : decode cX1_noteSimplified 17 = .ok (.putfield 53, 3) := by decide +kernel
theorem dX1_noteSimplified_20 : decode cX1_noteSimplified 20 = .ok (.return_, 1) := by decide +kernel
set_option maxRecDepth 20000 in
theorem ggX1_fixedPoints_X3_size : GoodIn wsX1_fixedPoints wsX3_size := goodIn_r _ [5, 6, 54, 55, 56] (by decide +kernel) (by decide +kernel)
set_option maxRecDepth 20000 in
theorem gX1_fixedPoints_X3_size : GoodIn wsX1_fixedPoints (wsV RX1 67 RX3 yX3_size wsX3_size) := goodIn_app (goodIn_of _ (by decide +kernel)) ggX1_fixedPoints_X3_size
set_option maxRecDepth 20000 in
theorem ggX1_fixedPoints_X1_value : GoodIn wsX1_fixedPoints wsX1_value := goodIn_r _ [11, 12, 13, 14, 15, 57, 58, 59, 60, 61, 62] (by decide +kernel) (by decide +kernel)
set_option maxRecDepth 20000 in
theorem gX1_fixedPoints_X1_value : GoodIn wsX1_fixedPoints (wsV RX1 71 RX1 yX1_value wsX1_value) := goodIn_app (goodIn_of _ (by decide +kernel)) ggX1_fixedPoints_X1_value
set_option maxRecDepth 20000 in
theorem ggX1_fixedPoints_X3_kind : GoodIn wsX1_fixedPoints wsX3_kind := goodIn_r _ [19, 20, 21, 22, 4, 23, 6, 24, 25, 26, 27, 28, 29, 30, 31, 32, 33, 34, 35, 36, 37, 38, 39, 40, 41, 42, 43, 44, 45, 46, 47, 48, 49, 50, 51, 52, 53, 54, 55, 56] (by decide +kernel) (by decide +kernel)
set_option maxRecDepth 20000 in
theorem gX1_fixedPoints_X3_kind : GoodIn wsX1_fixedPoints (wsV RX1 75 RX3 yX3_kind wsX3_kind) := goodIn_app (goodIn_of _ (by decide +kernel)) ggX1_fixedPoints_X3_kind
theorem dX1_fixedPoints_0 : decode cX1_fixedPoints 0 = .ok (.iconst 0, 1) := by decide +kernel
theorem dX1_fixedPoints_1 : decode cX1_fixedPoints 1 = .ok (.istore_n 2, 1) := by decide +kernel
theorem dX1_fixedPoints_2 : decode cX1_fixedPoints 2 = .ok (.iconst 0, 1) := by decide +kernel
theorem dX1_fixedPoints_3 : decode cX1_fixedPoints 3 = .ok (.istore_n 3, 1) := by decide +kernel
theorem dX1_fixedPoints_4 : decode cX1_fixedPoints 4 = .ok (.iload_n 3, 1) := by decide +kernel
theorem dX1_fixedPoints_5 : decode cX1_fixedPoints 5 = .ok (.aload_n 1, 1) := by decide +kernel
theorem dX1_fixedPoints_6 : decode cX1_fixedPoints 6 = .ok (.invokevirtual 67, 3) := by decide +kernel
theorem dX1_fixedPoints_9 : decode cX1_fixedPoints 9 = .ok (.if_icmp .ge 33, 3) := by decide +kernel
theorem dX1_fixedPoints_12 : decode cX1_fixedPoints 12 = .ok (.aload_n 1, 1) := by decide +kernel
theorem dX1_fixedPoints_13 : decode cX1_fixedPoints 13 = .ok (.iload_n 3, 1) := by decide +kernel
theorem dX1_fixedPoints_14 : decode cX1_fixedPoints 14 = .ok (.aload_n 0, 1) := by decide +kernel
theorem dX1_fixedPoints_15 : decode cX1_fixedPoints 15 = .ok (.iconst 1, 1) := by decide +kernel
theorem dX1_fixedPoints_16 : decode cX1_fixedPoints 16 = .ok (.invokevirtual 71, 3) := by decide +kernel
theorem dX1_fixedPoints_19 : decode cX1_fixedPoints 19 = .ok (.aload_n 0, 1) := by decide +kernel
theorem dX1_fixedPoints_20 : decode cX1_fixedPoints 20 = .ok (.iconst 2, 1) := by decide +kernel
theorem dX1_fixedPoints_21 : decode cX1_fixedPoints 21 = .ok (.invokevirtual 71, 3) := by decide +kernel
theorem dX1_fixedPoints_24 : decode cX1_fixedPoints 24 = .ok (.invokevirtual 75, 3) := by decide +kernel
theorem dX1_fixedPoints_27 : decode cX1_fixedPoints 27 = .ok (.ifCond .eq 9, 3) := by decide +kernel
theorem dX1_fixedPoints_30 : decode cX1_fixedPoints 30 = .ok (.iload_n 2, 1) := by decide +kernel
theorem dX1_fixedPoints_31 : decode cX1_fixedPoints 31 = .ok (.iconst 1, 1) := by decide +kernel
theorem dX1_fixedPoints_32 : decode cX1_fixedPoints 32 = .ok (.iload_n 3, 1) := by decide +kernel
theorem dX1_fixedPoints_33 : decode cX1_fixedPoints 33 = .ok (.ishl, 1) := by decide +kernel
theorem dX1_fixedPoints_34 : decode cX1_fixedPoints 34 = .ok (.ior, 1) := by decide +kernel
theorem dX1_fixedPoints_35 : decode cX1_fixedPoints 35 = .ok (.istore_n 2, 1) := by decide +kernel
theorem dX1_fixedPoints_36 : decode cX1_fixedPoints 36 = .ok (.iinc 3 1, 3) := by decide +kernel
theorem dX1_fixedPoints_39 : decode cX1_fixedPoints 39 = .ok (.goto (-35), 3) := by decide +kernel
theorem dX1_fixedPoints_42 : decode cX1_fixedPoints 42 = .ok (.iload_n 2, 1) := by decide +kernel
theorem dX1_fixedPoints_43 : decode cX1_fixedPoints 43 = .ok (.ireturn, 1) := by decide +kernel
set_option maxRecDepth 20000 in
theorem ggX1_countKind_X3_size : GoodIn wsX1_countKind wsX3_size := goodIn_r _ [5, 6, 54, 55, 56] (by decide +kernel) (by decide +kernel)
set_option maxRecDepth 20000 in
theorem gX1_countKind_X3_size : GoodIn wsX1_countKind (wsV RX1 67 RX3 yX3_size wsX3_size) := goodIn_app (goodIn_of _ (by decide +kernel)) ggX1_countKind_X3_size
set_option maxRecDepth 20000 in
theorem ggX1_countKind_X1_value : GoodIn wsX1_countKind wsX1_value := goodIn_r _ [11, 12, 13, 14, 15, 57, 58, 59, 60, 61, 62] (by decide +kernel) (by decide +kernel)
set_option maxRecDepth 20000 in
theorem gX1_countKind_X1_value : GoodIn wsX1_countKind (wsV RX1 71 RX1 yX1_value wsX1_value) := goodIn_app (goodIn_of _ (by decide +kernel)) ggX1_countKind_X1_value
set_option maxRecDepth 20000 in
theorem ggX1_countKind_X3_kind : GoodIn wsX1_countKind wsX3_kind := goodIn_r _ [19, 20, 21, 22, 4, 23, 6, 24, 25, 26, 27, 28, 29, 30, 31, 32, 33, 34, 35, 36, 37, 38, 39, 40, 41, 42, 43, 44, 45, 46, 47, 48, 49, 50, 51, 52, 53, 54, 55, 56] (by decide +kernel) (by decide +kernel)
set_option maxRecDepth 20000 in
theorem gX1_countKind_X3_kind : GoodIn wsX1_countKind (wsV RX1 75 RX3 yX3_kind wsX3_kind) := goodIn_app (goodIn_of _ (by decide +kernel)) ggX1_countKind_X3_kind
theorem dX1_countKind_0 : decode cX1_countKind 0 = .ok (.iconst 0, 1) := by decide +kernel
theorem dX1_countKind_1 : decode cX1_countKind 1 = .ok (.istore_n 3, 1) := by decide +kernel
theorem dX1_countKind_2 : decode cX1_countKind 2 = .ok (.iconst 0, 1) := by decide +kernel
theorem dX1_countKind_3 : decode cX1_countKind 3 = .ok (.istore 4, 2) := by decide +kernel
theorem dX1_countKind_5 : decode cX1_countKind 5 = .ok (.iload 4, 2) := by decide +kernel
theorem dX1_countKind_7 : decode cX1_countKind 7 = .ok (.aload_n 1, 1) := by decide +kernel
theorem dX1_countKind_8 : decode cX1_countKind 8 = .ok (.invokevirtual 67, 3) := by decide +kernel
theorem dX1_countKind_11 : decode cX1_countKind 11 = .ok (.if_icmp .ge 33, 3) := by decide +kernel
theorem dX1_countKind_14 : decode cX1_countKind 14 = .ok (.aload_n 1, 1) := by decide +kernel
theorem dX1_countKind_15 : decode cX1_countKind 15 = .ok (.iload 4, 2) := by decide +kernel
theorem dX1_countKind_17 : decode cX1_countKind 17 = .ok (.aload_n 0, 1) := by decide +kernel
theorem dX1_countKind_18 : decode cX1_countKind 18 = .ok (.iconst 1, 1) := by decide +kernel
theorem dX1_countKind_19 : decode cX1_countKind 19 = .ok (.invokevirtual 71, 3) := by decide +kernel
theorem dX1_countKind_22 : decode cX1_countKind 22 = .ok (.aload_n 0, 1) := by decide +kernel
theorem dX1_countKind_23 : decode cX1_countKind 23 = .ok (.iconst 2, 1) := by decide +kernel
theorem dX1_countKind_24 : decode cX1_countKind 24 = .ok (.invokevirtual 71, 3) := by decide +kernel
theorem dX1_countKind_27 : decode cX1_countKind 27 = .ok (.invokevirtual 75, 3) := by decide +kernel
theorem dX1_countKind_30 : decode cX1_countKind 30 = .ok (.iload_n 2, 1) := by decide +kernel
theorem dX1_countKind_31 : decode cX1_countKind 31 = .ok (.iand, 1) := by decide +kernel
theorem dX1_countKind_32 : decode cX1_countKind 32 = .ok (.ifCond .eq 6, 3) := by decide +kernel
theorem dX1_countKind_35 : decode cX1_countKind 35 = .ok (.iinc 3 1, 3) := by decide +kernel
theorem dX1_countKind_38 : decode cX1_countKind 38 = .ok (.iinc 4 1, 3) := by decide +kernel
theorem dX1_countKind_41 : decode cX1_countKind 41 = .ok (.goto (-36), 3) := by decide +kernel
theorem dX1_countKind_44 : decode cX1_countKind 44 = .ok (.iload_n 3, 1) := by decide +kernel
theorem dX1_countKind_45 : decode cX1_countKind 45 = .ok (.ireturn, 1) := by decide +kernel
