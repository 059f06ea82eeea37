set_option maxRecDepth 20000 in
theorem ggX4_init_X3_init : GoodIn wsX4_init wsX3_init := goodIn_r _ [12, 13, 2, 3, 4, 14, 23, 24, 25] (by decide +kernel) (by decide +kernel)
set_option maxRecDepth 20000 in
theorem gX4_init_X3_init : GoodIn wsX4_init (wsX3_init) := ggX4_init_X3_init
theorem dX4_init_0 : decode cX4_init 0 = .ok (.aload_n 0, 1) := by decide +kernel
theorem dX4_init_1 : decode cX4_init 1 = .ok (.invokespecial 3, 3) := by decide +kernel
theorem dX4_init_4 : decode cX4_init 4 = .ok (.aload_n 0, 1) := by decide +kernel
theorem dX4_init_5 : decode cX4_init 5 = .ok (.bipush 70, 2) := by decide +kernel
theorem dX4_init_7 : decode cX4_init 7 = .ok (.newarray .int, 2) := by decide +kernel
theorem dX4_init_9 : decode cX4_init 9 = .ok (.putfield 9, 3) := by decide +kernel
theorem dX4_init_12 : decode cX4_init 12 = .ok (.aload_n 0, 1) := by decide +kernel
theorem dX4_init_13 : decode cX4_init 13 = .ok (.new 15, 3) := by decide +kernel
theorem dX4_init_16 : decode cX4_init 16 = .ok (.dup, 1) := by decide +kernel
theorem dX4_init_17 : decode cX4_init 17 = .ok (.invokespecial 17, 3) := by decide +kernel
theorem dX4_init_20 : decode cX4_init 20 = .ok (.putfield 18, 3) := by decide +kernel
theorem dX4_init_23 : decode cX4_init 23 = .ok (.return_, 1) := by decide +kernel
theorem dX4_length_0 : decode cX4_length 0 = .ok (.aload_n 0, 1) := by decide +kernel
theorem dX4_length_1 : decode cX4_length 1 = .ok (.getfield 22, 3) := by decide +kernel
theorem dX4_length_4 : decode cX4_length 4 = .ok (.ireturn, 1) := by decide +kernel
theorem dX4_told_0 : decode cX4_told 0 = .ok (.aload_n 0, 1) := by decide +kernel
theorem dX4_told_1 : decode cX4_told 1 = .ok (.getfield 18, 3) := by decide +kernel
theorem dX4_told_4 : decode cX4_told 4 = .ok (.areturn, 1) := by decide +kernel
theorem dX4_empty_0 : decode cX4_empty 0 = .ok (.aload_n 0, 1) := by decide +kernel
theorem dX4_empty_1 : decode cX4_empty 1 = .ok (.iconst 0, 1) := by decide +kernel
theorem dX4_empty_2 : decode cX4_empty 2 = .ok (.putfield 22, 3) := by decide +kernel
theorem dX4_empty_5 : decode cX4_empty 5 = .ok (.return_, 1) := by decide +kernel
set_option maxRecDepth 20000 in
theorem ggX4_addCode_X5_putCell : GoodIn wsX4_addCode wsX5_putCell := goodIn_r _ [5] (by decide +kernel) (by decide +kernel)
set_option maxRecDepth 20000 in
theorem gX4_addCode_X5_putCell_n26 : GoodIn wsX4_addCode (wsX5_putCell) := ggX4_addCode_X5_putCell
theorem dX4_addCode_0 : decode cX4_addCode 0 = .ok (.aload_n 0, 1) := by decide +kernel
theorem dX4_addCode_1 : decode cX4_addCode 1 = .ok (.getfield 9, 3) := by decide +kernel
theorem dX4_addCode_4 : decode cX4_addCode 4 = .ok (.aload_n 0, 1) := by decide +kernel
theorem dX4_addCode_5 : decode cX4_addCode 5 = .ok (.getfield 22, 3) := by decide +kernel
theorem dX4_addCode_8 : decode cX4_addCode 8 = .ok (.iload_n 1, 1) := by decide +kernel
theorem dX4_addCode_9 : decode cX4_addCode 9 = .ok (.invokestatic 26, 3) := by decide +kernel
theorem dX4_addCode_12 : decode cX4_addCode 12 = .ok (.aload_n 0, 1) := by decide +kernel
theorem dX4_addCode_13 : decode cX4_addCode 13 = .ok (.dup, 1) := by decide +kernel
theorem dX4_addCode_14 : decode cX4_addCode 14 = .ok (.getfield 22, 3) := by decide +kernel
theorem dX4_addCode_17 : decode cX4_addCode 17 = .ok (.iconst 1, 1) := by decide +kernel
theorem dX4_addCode_18 : decode cX4_addCode 18 = .ok (.iadd, 1) := by decide +kernel
theorem dX4_addCode_19 : decode cX4_addCode 19 = .ok (.putfield 22, 3) := by decide +kernel
theorem dX4_addCode_22 : decode cX4_addCode 22 = .ok (.return_, 1) := by decide +kernel
set_option maxRecDepth 20000 in
theorem ggX4_readToError_X3_removeAll : GoodIn wsX4_readToError wsX3_removeAll := goodIn_r _ [8, 9, 10, 61, 62, 63] (by decide +kernel) (by decide +kernel)
set_option maxRecDepth 20000 in
theorem gX4_readToError_X3_removeAll : GoodIn wsX4_readToError (wsV RX4 30 RX3 yX3_removeAll wsX3_removeAll) := goodIn_app (goodIn_of _ (by decide +kernel)) ggX4_readToError_X3_removeAll
set_option maxRecDepth 20000 in
theorem ggX4_readToError_X4_beginPart : GoodIn wsX4_readToError wsX4_beginPart := goodIn_r _ [15, 16, 17, 18, 53, 54, 55, 56, 57, 58, 59, 60] (by decide +kernel) (by decide +kernel)
set_option maxRecDepth 20000 in
theorem gX4_readToError_X4_beginPart : GoodIn wsX4_readToError (wsV RX4 33 RX4 yX4_beginPart wsX4_beginPart) := goodIn_app (goodIn_of _ (by decide +kernel)) ggX4_readToError_X4_beginPart
set_option maxRecDepth 20000 in
theorem ggX4_readToError_X5_cell : GoodIn wsX4_readToError wsX5_cell := goodIn_r _ [21] (by decide +kernel) (by decide +kernel)
set_option maxRecDepth 20000 in
theorem gX4_readToError_X5_cell_n37 : GoodIn wsX4_readToError (wsX5_cell) := ggX4_readToError_X5_cell
set_option maxRecDepth 20000 in
theorem ggX4_readToError_X4_reads : GoodIn wsX4_readToError wsX4_reads := goodIn_r _ [25, 17, 16, 18, 26, 27, 1, 28, 29, 30, 14, 31, 11, 12, 13, 15, 32, 33, 34, 7, 35, 9, 36, 37, 38, 39, 40, 41, 42, 43, 44, 45, 46, 47, 48, 49, 50, 51, 52, 10, 53, 54, 55, 56, 57, 58, 59, 60, 61, 62, 63] (by decide +kernel) (by decide +kernel)
set_option maxRecDepth 20000 in
theorem gX4_readToError_X4_reads : GoodIn wsX4_readToError (wsV RX4 41 RX4 yX4_reads wsX4_reads) := goodIn_app (goodIn_of _ (by decide +kernel)) ggX4_readToError_X4_reads
theorem dX4_readToError_0 : decode cX4_readToError 0 = .ok (.aload_n 0, 1) := by decide +kernel
theorem dX4_readToError_1 : decode cX4_readToError 1 = .ok (.getfield 18, 3) := by decide +kernel
theorem dX4_readToError_4 : decode cX4_readToError 4 = .ok (.invokevirtual 30, 3) := by decide +kernel
theorem dX4_readToError_7 : decode cX4_readToError 7 = .ok (.aload_n 0, 1) := by decide +kernel
theorem dX4_readToError_8 : decode cX4_readToError 8 = .ok (.iconst 0, 1) := by decide +kernel
theorem dX4_readToError_9 : decode cX4_readToError 9 = .ok (.invokevirtual 33, 3) := by decide +kernel
theorem dX4_readToError_12 : decode cX4_readToError 12 = .ok (.iconst 0, 1) := by decide +kernel
theorem dX4_readToError_13 : decode cX4_readToError 13 = .ok (.istore_n 1, 1) := by decide +kernel
theorem dX4_readToError_14 : decode cX4_readToError 14 = .ok (.iload_n 1, 1) := by decide +kernel
theorem dX4_readToError_15 : decode cX4_readToError 15 = .ok (.aload_n 0, 1) := by decide +kernel
theorem dX4_readToError_16 : decode cX4_readToError 16 = .ok (.getfield 22, 3) := by decide +kernel
theorem dX4_readToError_19 : decode cX4_readToError 19 = .ok (.if_icmp .ge 26, 3) := by decide +kernel
theorem dX4_readToError_22 : decode cX4_readToError 22 = .ok (.aload_n 0, 1) := by decide +kernel
theorem dX4_readToError_23 : decode cX4_readToError 23 = .ok (.aload_n 0, 1) := by decide +kernel
theorem dX4_readToError_24 : decode cX4_readToError 24 = .ok (.getfield 9, 3) := by decide +kernel
theorem dX4_readToError_27 : decode cX4_readToError 27 = .ok (.iload_n 1, 1) := by decide +kernel
theorem dX4_readToError_28 : decode cX4_readToError 28 = .ok (.invokestatic 37, 3) := by decide +kernel
theorem dX4_readToError_31 : decode cX4_readToError 31 = .ok (.invokevirtual 41, 3) := by decide +kernel
theorem dX4_readToError_34 : decode cX4_readToError 34 = .ok (.ifCond .ne 5, 3) := by decide +kernel
theorem dX4_readToError_37 : decode cX4_readToError 37 = .ok (.iload_n 1, 1) := by decide +kernel
theorem dX4_readToError_38 : decode cX4_readToError 38 = .ok (.ireturn, 1) := by decide +kernel
theorem dX4_readToError_39 : decode cX4_readToError 39 = .ok (.iinc 1 1, 3) := by decide +kernel
theorem dX4_readToError_42 : decode cX4_readToError 42 = .ok (.goto (-28), 3) := by decide +kernel
theorem dX4_readToError_45 : decode cX4_readToError 45 = .ok (.aload_n 0, 1) := by decide +kernel
theorem dX4_readToError_46 : decode cX4_readToError 46 = .ok (.getfield 22, 3) := by decide +kernel
theorem dX4_readToError_49 : decode cX4_readToError 49 = .ok (.ireturn, 1) := by decide +kernel
set_option maxRecDepth 20000 in
theorem ggX4_tellsStroke_X4_readToError : GoodIn wsX4_tellsStroke wsX4_readToError := goodIn_r _ [9, 4, 1, 10, 11, 12, 13, 14, 15, 16, 17, 18, 19, 20, 8, 21, 3, 2, 22, 23, 24, 25, 26, 27, 28, 29, 30, 31, 32, 33, 34, 35, 36, 37, 38, 39, 40, 41, 42, 43, 44, 45, 46, 47, 48, 49, 50, 51, 52, 53, 54, 55, 56, 57, 58, 59, 60, 61, 62, 63, 64, 65, 66, 67] (by decide +kernel) (by decide +kernel)
set_option maxRecDepth 20000 in
theorem gX4_tellsStroke_X4_readToError : GoodIn wsX4_tellsStroke (wsV RX4 45 RX4 yX4_readToError wsX4_readToError) := goodIn_app (goodIn_of _ (by decide +kernel)) ggX4_tellsStroke_X4_readToError
set_option maxRecDepth 20000 in
theorem ggX4_tellsStroke_X4_endPoint : GoodIn wsX4_tellsStroke wsX4_endPoint := goodIn_r _ [43, 3, 4, 30, 31, 22, 44, 45, 46, 14, 47, 16, 48, 49, 50, 51, 52, 53, 54, 55, 56, 17, 57, 58, 59, 60, 61, 62, 63, 64, 65, 66, 67] (by decide +kernel) (by decide +kernel)
set_option maxRecDepth 20000 in
theorem gX4_tellsStroke_X4_endPoint : GoodIn wsX4_tellsStroke (wsV RX4 55 RX4 yX4_endPoint wsX4_endPoint) := goodIn_app (goodIn_of _ (by decide +kernel)) ggX4_tellsStroke_X4_endPoint
set_option maxRecDepth 20000 in
theorem ggX4_tellsStroke_X3_size : GoodIn wsX4_tellsStroke wsX3_size := goodIn_r _ [39, 16, 65, 66, 67] (by decide +kernel) (by decide +kernel)
set_option maxRecDepth 20000 in
theorem gX4_tellsStroke_X3_size : GoodIn wsX4_tellsStroke (wsV RX4 58 RX3 yX3_size wsX3_size) := goodIn_app (goodIn_of _ (by decide +kernel)) ggX4_tellsStroke_X3_size
theorem dX4_tellsStroke_0 : decode cX4_tellsStroke 0 = .ok (.aload_n 0, 1) := by decide +kernel
theorem dX4_tellsStroke_1 : decode cX4_tellsStroke 1 = .ok (.invokevirtual 45, 3) := by decide +kernel
theorem dX4_tellsStroke_4 : decode cX4_tellsStroke 4 = .ok (.aload_n 0, 1) := by decide +kernel
theorem dX4_tellsStroke_5 : decode cX4_tellsStroke 5 = .ok (.getfield 22, 3) := by decide +kernel
theorem dX4_tellsStroke_8 : decode cX4_tellsStroke 8 = .ok (.if_icmp .lt 17, 3) := by decide +kernel
theorem dX4_tellsStroke_11 : decode cX4_tellsStroke 11 = .ok (.aload_n 0, 1) := by decide +kernel
theorem dX4_tellsStroke_12 : decode cX4_tellsStroke 12 = .ok (.getfield 49, 3) := by decide +kernel
theorem dX4_tellsStroke_15 : decode cX4_tellsStroke 15 = .ok (.ifCond .eq 10, 3) := by decide +kernel
theorem dX4_tellsStroke_18 : decode cX4_tellsStroke 18 = .ok (.aload_n 0, 1) := by decide +kernel
theorem dX4_tellsStroke_19 : decode cX4_tellsStroke 19 = .ok (.getfield 52, 3) := by decide +kernel
theorem dX4_tellsStroke_22 : decode cX4_tellsStroke 22 = .ok (.ifCond .ne 5, 3) := by decide +kernel
theorem dX4_tellsStroke_25 : decode cX4_tellsStroke 25 = .ok (.iconst 0, 1) := by decide +kernel
theorem dX4_tellsStroke_26 : decode cX4_tellsStroke 26 = .ok (.ireturn, 1) := by decide +kernel
theorem dX4_tellsStroke_27 : decode cX4_tellsStroke 27 = .ok (.aload_n 0, 1) := by decide +kernel
theorem dX4_tellsStroke_28 : decode cX4_tellsStroke 28 = .ok (.invokevirtual 55, 3) := by decide +kernel
theorem dX4_tellsStroke_31 : decode cX4_tellsStroke 31 = .ok (.aload_n 0, 1) := by decide +kernel
theorem dX4_tellsStroke_32 : decode cX4_tellsStroke 32 = .ok (.getfield 18, 3) := by decide +kernel
theorem dX4_tellsStroke_35 : decode cX4_tellsStroke 35 = .ok (.invokevirtual 58, 3) := by decide +kernel
theorem dX4_tellsStroke_38 : decode cX4_tellsStroke 38 = .ok (.iconst 2, 1) := by decide +kernel
theorem dX4_tellsStroke_39 : decode cX4_tellsStroke 39 = .ok (.if_icmp .lt 7, 3) := by decide +kernel
theorem dX4_tellsStroke_42 : decode cX4_tellsStroke 42 = .ok (.iconst 1, 1) := by decide +kernel
theorem dX4_tellsStroke_43 : decode cX4_tellsStroke 43 = .ok (.goto 4, 3) := by decide +kernel
theorem dX4_tellsStroke_46 : decode cX4_tellsStroke 46 = .ok (.iconst 0, 1) := by decide +kernel
theorem dX4_tellsStroke_47 : decode cX4_tellsStroke 47 = .ok (.ireturn, 1) := by decide +kernel
theorem dX4_beginPart_0 : decode cX4_beginPart 0 = .ok (.aload_n 0, 1) := by decide +kernel
theorem dX4_beginPart_1 : decode cX4_beginPart 1 = .ok (.iload_n 1, 1) := by decide +kernel
theorem dX4_beginPart_2 : decode cX4_beginPart 2 = .ok (.putfield 52, 3) := by decide +kernel
theorem dX4_beginPart_5 : decode cX4_beginPart 5 = .ok (.aload_n 0, 1) := by decide +kernel
theorem dX4_beginPart_6 : decode cX4_beginPart 6 = .ok (.iconst 0, 1) := by decide +kernel
theorem dX4_beginPart_7 : decode cX4_beginPart 7 = .ok (.putfield 49, 3) := by decide +kernel
theorem dX4_beginPart_10 : decode cX4_beginPart 10 = .ok (.aload_n 0, 1) := by decide +kernel
theorem dX4_beginPart_11 : decode cX4_beginPart 11 = .ok (.iconst 0, 1) := by decide +kernel
theorem dX4_beginPart_12 : decode cX4_beginPart 12 = .ok (.putfield 61, 3) := by decide +kernel
theorem dX4_beginPart_15 : decode cX4_beginPart 15 = .ok (.return_, 1) := by decide +kernel
set_option maxRecDepth 20000 in
theorem ggX4_reads_X4_readsDigit : GoodIn wsX4_reads wsX4_readsDigit := goodIn_r _ [11, 1, 3, 2, 40, 41, 42, 43, 44, 45, 46, 47] (by decide +kernel) (by decide +kernel)
set_option maxRecDepth 20000 in
theorem gX4_reads_X4_readsDigit : GoodIn wsX4_reads (wsV RX4 64 RX4 yX4_readsDigit wsX4_readsDigit) := goodIn_app (goodIn_of _ (by decide +kernel)) ggX4_reads_X4_readsDigit
set_option maxRecDepth 20000 in
theorem ggX4_reads_X4_beginPart : GoodIn wsX4_reads wsX4_beginPart := goodIn_r _ [15, 2, 1, 3, 40, 41, 42, 43, 44, 45, 46, 47] (by decide +kernel) (by decide +kernel)
set_option maxRecDepth 20000 in
theorem gX4_reads_X4_beginPart : GoodIn wsX4_reads (wsV RX4 33 RX4 yX4_beginPart wsX4_beginPart) := goodIn_app (goodIn_of _ (by decide +kernel)) ggX4_reads_X4_beginPart
set_option maxRecDepth 20000 in
theorem ggX4_reads_X3_size : GoodIn wsX4_reads wsX3_size := goodIn_r _ [20, 21, 48, 49, 50] (by decide +kernel) (by decide +kernel)
set_option maxRecDepth 20000 in
theorem gX4_reads_X3_size : GoodIn wsX4_reads (wsV RX4 58 RX3 yX3_size wsX3_size) := goodIn_app (goodIn_of _ (by decide +kernel)) ggX4_reads_X3_size
set_option maxRecDepth 20000 in
theorem ggX4_reads_X4_endPoint : GoodIn wsX4_reads wsX4_endPoint := goodIn_r _ [25, 2, 6, 4, 5, 3, 26, 27, 28, 19, 29, 21, 30, 31, 32, 33, 34, 35, 36, 37, 38, 39, 40, 41, 42, 43, 44, 45, 46, 47, 48, 49, 50] (by decide +kernel) (by decide +kernel)
set_option maxRecDepth 20000 in
theorem gX4_reads_X4_endPoint : GoodIn wsX4_reads (wsV RX4 55 RX4 yX4_endPoint wsX4_endPoint) := goodIn_app (goodIn_of _ (by decide +kernel)) ggX4_reads_X4_endPoint
theorem dX4_reads_0 : decode cX4_reads 0 = .ok (.iload_n 1, 1) := by decide +kernel
theorem dX4_reads_1 : decode cX4_reads 1 = .ok (.bipush 48, 2) := by decide +kernel
theorem dX4_reads_3 : decode cX4_reads 3 = .ok (.if_icmp .lt 18, 3) := by decide +kernel
theorem dX4_reads_6 : decode cX4_reads 6 = .ok (.iload_n 1, 1) := by decide +kernel
theorem dX4_reads_7 : decode cX4_reads 7 = .ok (.bipush 57, 2) := by decide +kernel
theorem dX4_reads_9 : decode cX4_reads 9 = .ok (.if_icmp .gt 12, 3) := by decide +kernel
theorem dX4_reads_12 : decode cX4_reads 12 = .ok (.aload_n 0, 1) := by decide +kernel
theorem dX4_reads_13 : decode cX4_reads 13 = .ok (.iload_n 1, 1) := by decide +kernel
theorem dX4_reads_14 : decode cX4_reads 14 = .ok (.bipush 48, 2) := by decide +kernel
theorem dX4_reads_16 : decode cX4_reads 16 = .ok (.isub, 1) := by decide +kernel
theorem dX4_reads_17 : decode cX4_reads 17 = .ok (.invokevirtual 64, 3) := by decide +kernel
theorem dX4_reads_20 : decode cX4_reads 20 = .ok (.ireturn, 1) := by decide +kernel
theorem dX4_reads_21 : decode cX4_reads 21 = .ok (.aload_n 0, 1) := by decide +kernel
theorem dX4_reads_22 : decode cX4_reads 22 = .ok (.getfield 49, 3) := by decide +kernel
theorem dX4_reads_25 : decode cX4_reads 25 = .ok (.ifCond .ne 5, 3) := by decide +kernel
theorem dX4_reads_28 : decode cX4_reads 28 = .ok (.iconst 0, 1) := by decide +kernel
theorem dX4_reads_29 : decode cX4_reads 29 = .ok (.ireturn, 1) := by decide +kernel
theorem dX4_reads_30 : decode cX4_reads 30 = .ok (.iload_n 1, 1) := by decide +kernel
theorem dX4_reads_31 : decode cX4_reads 31 = .ok (.bipush 44, 2) := by decide +kernel
theorem dX4_reads_33 : decode cX4_reads 33 = .ok (.if_icmp .ne 25, 3) := by decide +kernel
theorem dX4_reads_36 : decode cX4_reads 36 = .ok (.aload_n 0, 1) := by decide +kernel
theorem dX4_reads_37 : decode cX4_reads 37 = .ok (.getfield 52, 3) := by decide +kernel
theorem dX4_reads_40 : decode cX4_reads 40 = .ok (.ifCond .ne 18, 3) := by decide +kernel
theorem dX4_reads_43 : decode cX4_reads 43 = .ok (.aload_n 0, 1) := by decide +kernel
theorem dX4_reads_44 : decode cX4_reads 44 = .ok (.aload_n 0, 1) := by decide +kernel
theorem dX4_reads_45 : decode cX4_reads 45 = .ok (.getfield 61, 3) := by decide +kernel
theorem dX4_reads_48 : decode cX4_reads 48 = .ok (.putfield 67, 3) := by decide +kernel
theorem dX4_reads_51 : decode cX4_reads 51 = .ok (.aload_n 0, 1) := by decide +kernel
theorem dX4_reads_52 : decode cX4_reads 52 = .ok (.iconst 1, 1) := by decide +kernel
theorem dX4_reads_53 : decode cX4_reads 53 = .ok (.invokevirtual 33, 3) := by decide +kernel
theorem dX4_reads_56 : decode cX4_reads 56 = .ok (.iconst 1, 1) := by decide +kernel
theorem dX4_reads_57 : decode cX4_reads 57 = .ok (.ireturn, 1) := by decide +kernel
theorem dX4_reads_58 : decode cX4_reads 58 = .ok (.iload_n 1, 1) := by decide +kernel
theorem dX4_reads_59 : decode cX4_reads 59 = .ok (.bipush 119, 2) := by decide +kernel
theorem dX4_reads_61 : decode cX4_reads 61 = .ok (.if_icmp .ne 26, 3) := by decide +kernel
theorem dX4_reads_64 : decode cX4_reads 64 = .ok (.aload_n 0, 1) := by decide +kernel
theorem dX4_reads_65 : decode cX4_reads 65 = .ok (.getfield 52, 3) := by decide +kernel
theorem dX4_reads_68 : decode cX4_reads 68 = .ok (.iconst 1, 1) := by decide +kernel
theorem dX4_reads_69 : decode cX4_reads 69 = .ok (.if_icmp .ne 18, 3) := by decide +kernel
theorem dX4_reads_72 : decode cX4_reads 72 = .ok (.aload_n 0, 1) := by decide +kernel
theorem dX4_reads_73 : decode cX4_reads 73 = .ok (.aload_n 0, 1) := by decide +kernel
theorem dX4_reads_74 : decode cX4_reads 74 = .ok (.getfield 61, 3) := by decide +kernel
theorem dX4_reads_77 : decode cX4_reads 77 = .ok (.putfield 70, 3) := by decide +kernel
theorem dX4_reads_80 : decode cX4_reads 80 = .ok (.aload_n 0, 1) := by decide +kernel
theorem dX4_reads_81 : decode cX4_reads 81 = .ok (.iconst 2, 1) := by decide +kernel
theorem dX4_reads_82 : decode cX4_reads 82 = .ok (.invokevirtual 33, 3) := by decide +kernel
theorem dX4_reads_85 : decode cX4_reads 85 = .ok (.iconst 1, 1) := by decide +kernel
theorem dX4_reads_86 : decode cX4_reads 86 = .ok (.ireturn, 1) := by decide +kernel
theorem dX4_reads_87 : decode cX4_reads 87 = .ok (.iload_n 1, 1) := by decide +kernel
theorem dX4_reads_88 : decode cX4_reads 88 = .ok (.bipush 59, 2) := by decide +kernel
theorem dX4_reads_90 : decode cX4_reads 90 = .ok (.if_icmp .ne 35, 3) := by decide +kernel
theorem dX4_reads_93 : decode cX4_reads 93 = .ok (.aload_n 0, 1) := by decide +kernel
theorem dX4_reads_94 : decode cX4_reads 94 = .ok (.getfield 52, 3) := by decide +kernel
theorem dX4_reads_97 : decode cX4_reads 97 = .ok (.ifCond .eq 28, 3) := by decide +kernel
theorem dX4_reads_100 : decode cX4_reads 100 = .ok (.aload_n 0, 1) := by decide +kernel
theorem dX4_reads_101 : decode cX4_reads 101 = .ok (.getfield 18, 3) := by decide +kernel
theorem dX4_reads_104 : decode cX4_reads 104 = .ok (.invokevirtual 58, 3) := by decide +kernel
theorem dX4_reads_107 : decode cX4_reads 107 = .ok (.iconst 1, 1) := by decide +kernel
theorem dX4_reads_108 : decode cX4_reads 108 = .ok (.iadd, 1) := by decide +kernel
theorem dX4_reads_109 : decode cX4_reads 109 = .ok (.bipush 24, 2) := by decide +kernel
theorem dX4_reads_111 : decode cX4_reads 111 = .ok (.if_icmp .ge 14, 3) := by decide +kernel
theorem dX4_reads_114 : decode cX4_reads 114 = .ok (.aload_n 0, 1) := by decide +kernel
theorem dX4_reads_115 : decode cX4_reads 115 = .ok (.invokevirtual 55, 3) := by decide +kernel
theorem dX4_reads_118 : decode cX4_reads 118 = .ok (.aload_n 0, 1) := by decide +kernel
theorem dX4_reads_119 : decode cX4_reads 119 = .ok (.iconst 0, 1) := by decide +kernel
theorem dX4_reads_120 : decode cX4_reads 120 = .ok (.invokevirtual 33, 3) := by decide +kernel
theorem dX4_reads_123 : decode cX4_reads 123 = .ok (.iconst 1, 1) := by decide +kernel
theorem dX4_reads_124 : decode cX4_reads 124 = .ok (.ireturn, 1) := by decide +kernel
theorem dX4_reads_125 : decode cX4_reads 125 = .ok (.iconst 0, 1) := by decide +kernel
theorem dX4_reads_126 : decode cX4_reads 126 = .ok (.ireturn, 1) := by decide +kernel
theorem dX4_readsDigit_0 : decode cX4_readsDigit 0 = .ok (.aload_n 0, 1) := by decide +kernel
theorem dX4_readsDigit_1 : decode cX4_readsDigit 1 = .ok (.getfield 49, 3) := by decide +kernel
theorem dX4_readsDigit_4 : decode cX4_readsDigit 4 = .ok (.ifCond .le 14, 3) := by decide +kernel
theorem dX4_readsDigit_7 : decode cX4_readsDigit 7 = .ok (.aload_n 0, 1) := by decide +kernel
theorem dX4_readsDigit_8 : decode cX4_readsDigit 8 = .ok (.getfield 61, 3) := by decide +kernel
theorem dX4_readsDigit_11 : decode cX4_readsDigit 11 = .ok (.ifCond .ne 7, 3) := by decide +kernel
theorem dX4_readsDigit_14 : decode cX4_readsDigit 14 = .ok (.iconst 1, 1) := by decide +kernel
theorem dX4_readsDigit_15 : decode cX4_readsDigit 15 = .ok (.goto 4, 3) := by decide +kernel
theorem dX4_readsDigit_18 : decode cX4_readsDigit 18 = .ok (.iconst 0, 1) := by decide +kernel
theorem dX4_readsDigit_19 : decode cX4_readsDigit 19 = .ok (.istore_n 2, 1) := by decide +kernel
theorem dX4_readsDigit_20 : decode cX4_readsDigit 20 = .ok (.bipush 10, 2) := by decide +kernel
theorem dX4_readsDigit_22 : decode cX4_readsDigit 22 = .ok (.aload_n 0, 1) := by decide +kernel
theorem dX4_readsDigit_23 : decode cX4_readsDigit 23 = .ok (.getfield 61, 3) := by decide +kernel
theorem dX4_readsDigit_26 : decode cX4_readsDigit 26 = .ok (.imul, 1) := by decide +kernel
theorem dX4_readsDigit_27 : decode cX4_readsDigit 27 = .ok (.iload_n 1, 1) := by decide +kernel
theorem dX4_readsDigit_28 : decode cX4_readsDigit 28 = .ok (.iadd, 1) := by decide +kernel
theorem dX4_readsDigit_29 : decode cX4_readsDigit 29 = .ok (.istore_n 3, 1) := by decide +kernel
theorem dX4_readsDigit_30 : decode cX4_readsDigit 30 = .ok (.aload_n 0, 1) := by decide +kernel
theorem dX4_readsDigit_31 : decode cX4_readsDigit 31 = .ok (.getfield 52, 3) := by decide +kernel
theorem dX4_readsDigit_34 : decode cX4_readsDigit 34 = .ok (.iconst 2, 1) := by decide +kernel
theorem dX4_readsDigit_35 : decode cX4_readsDigit 35 = .ok (.if_icmp .ne 7, 3) := by decide +kernel
theorem dX4_readsDigit_38 : decode cX4_readsDigit 38 = .ok (.iconst 1, 1) := by decide +kernel
theorem dX4_readsDigit_39 : decode cX4_readsDigit 39 = .ok (.goto 4, 3) := by decide +kernel
theorem dX4_readsDigit_42 : decode cX4_readsDigit 42 = .ok (.iconst 0, 1) := by decide +kernel
theorem dX4_readsDigit_43 : decode cX4_readsDigit 43 = .ok (.istore 4, 2) := by decide +kernel
theorem dX4_readsDigit_45 : decode cX4_readsDigit 45 = .ok (.aload_n 0, 1) := by decide +kernel
theorem dX4_readsDigit_46 : decode cX4_readsDigit 46 = .ok (.getfield 52, 3) := by decide +kernel
theorem dX4_readsDigit_49 : decode cX4_readsDigit 49 = .ok (.iconst 2, 1) := by decide +kernel
theorem dX4_readsDigit_50 : decode cX4_readsDigit 50 = .ok (.if_icmp .ne 8, 3) := by decide +kernel
theorem dX4_readsDigit_53 : decode cX4_readsDigit 53 = .ok (.bipush 20, 2) := by decide +kernel
theorem dX4_readsDigit_55 : decode cX4_readsDigit 55 = .ok (.goto 5, 3) := by decide +kernel
theorem dX4_readsDigit_58 : decode cX4_readsDigit 58 = .ok (.bipush 99, 2) := by decide +kernel
theorem dX4_readsDigit_60 : decode cX4_readsDigit 60 = .ok (.istore 5, 2) := by decide +kernel
theorem dX4_readsDigit_62 : decode cX4_readsDigit 62 = .ok (.iload_n 2, 1) := by decide +kernel
theorem dX4_readsDigit_63 : decode cX4_readsDigit 63 = .ok (.ifCond .ne 15, 3) := by decide +kernel
theorem dX4_readsDigit_66 : decode cX4_readsDigit 66 = .ok (.iload_n 3, 1) := by decide +kernel
theorem dX4_readsDigit_67 : decode cX4_readsDigit 67 = .ok (.iload 4, 2) := by decide +kernel
theorem dX4_readsDigit_69 : decode cX4_readsDigit 69 = .ok (.if_icmp .lt 9, 3) := by decide +kernel
theorem dX4_readsDigit_72 : decode cX4_readsDigit 72 = .ok (.iload_n 3, 1) := by decide +kernel
theorem dX4_readsDigit_73 : decode cX4_readsDigit 73 = .ok (.iload 5, 2) := by decide +kernel
theorem dX4_readsDigit_75 : decode cX4_readsDigit 75 = .ok (.if_icmp .le 5, 3) := by decide +kernel
theorem dX4_readsDigit_78 : decode cX4_readsDigit 78 = .ok (.iconst 0, 1) := by decide +kernel
theorem dX4_readsDigit_79 : decode cX4_readsDigit 79 = .ok (.ireturn, 1) := by decide +kernel
theorem dX4_readsDigit_80 : decode cX4_readsDigit 80 = .ok (.aload_n 0, 1) := by decide +kernel
theorem dX4_readsDigit_81 : decode cX4_readsDigit 81 = .ok (.iload_n 3, 1) := by decide +kernel
theorem dX4_readsDigit_82 : decode cX4_readsDigit 82 = .ok (.putfield 61, 3) := by decide +kernel
theorem dX4_readsDigit_85 : decode cX4_readsDigit 85 = .ok (.aload_n 0, 1) := by decide +kernel
theorem dX4_readsDigit_86 : decode cX4_readsDigit 86 = .ok (.dup, 1) := by decide +kernel
theorem dX4_readsDigit_87 : decode cX4_readsDigit 87 = .ok (.getfield 49, 3) := by decide +kernel
theorem dX4_readsDigit_90 : decode cX4_readsDigit 90 = .ok (.iconst 1, 1) := by decide +kernel
theorem dX4_readsDigit_91 : decode cX4_readsDigit 91 = .ok (.iadd, 1) := by decide +kernel
theorem dX4_readsDigit_92 : decode cX4_readsDigit 92 = .ok (.putfield 49, 3) := by decide +kernel
theorem dX4_readsDigit_95 : decode cX4_readsDigit 95 = .ok (.iconst 1, 1) := by decide +kernel
theorem dX4_readsDigit_96 : decode cX4_readsDigit 96 = .ok (.ireturn, 1) := by decide +kernel
set_option maxRecDepth 20000 in
theorem ggX4_endPoint_X3_addPoint : GoodIn wsX4_endPoint wsX3_addPoint := goodIn_r _ [10, 11, 12, 13, 14, 9, 15, 16, 17, 18, 19, 20, 21, 30, 31, 32] (by decide +kernel) (by decide +kernel)
set_option maxRecDepth 20000 in
theorem gX4_endPoint_X3_addPoint : GoodIn wsX4_endPoint (wsV RX4 73 RX3 yX3_addPoint wsX3_addPoint) := goodIn_app (goodIn_of _ (by decide +kernel)) ggX4_endPoint_X3_addPoint
theorem dX4_endPoint_0 : decode cX4_endPoint 0 = .ok (.aload_n 0, 1) := by decide +kernel
theorem dX4_endPoint_1 : decode cX4_endPoint 1 = .ok (.getfield 52, 3) := by decide +kernel
theorem dX4_endPoint_4 : decode cX4_endPoint 4 = .ok (.iconst 2, 1) := by decide +kernel
theorem dX4_endPoint_5 : decode cX4_endPoint 5 = .ok (.if_icmp .ne 25, 3) := by decide +kernel
theorem dX4_endPoint_8 : decode cX4_endPoint 8 = .ok (.aload_n 0, 1) := by decide +kernel
theorem dX4_endPoint_9 : decode cX4_endPoint 9 = .ok (.getfield 18, 3) := by decide +kernel
theorem dX4_endPoint_12 : decode cX4_endPoint 12 = .ok (.aload_n 0, 1) := by decide +kernel
theorem dX4_endPoint_13 : decode cX4_endPoint 13 = .ok (.getfield 67, 3) := by decide +kernel
theorem dX4_endPoint_16 : decode cX4_endPoint 16 = .ok (.aload_n 0, 1) := by decide +kernel
theorem dX4_endPoint_17 : decode cX4_endPoint 17 = .ok (.getfield 70, 3) := by decide +kernel
theorem dX4_endPoint_20 : decode cX4_endPoint 20 = .ok (.aload_n 0, 1) := by decide +kernel
theorem dX4_endPoint_21 : decode cX4_endPoint 21 = .ok (.getfield 61, 3) := by decide +kernel
theorem dX4_endPoint_24 : decode cX4_endPoint 24 = .ok (.invokevirtual 73, 3) := by decide +kernel
theorem dX4_endPoint_27 : decode cX4_endPoint 27 = .ok (.goto 19, 3) := by decide +kernel
theorem dX4_endPoint_30 : decode cX4_endPoint 30 = .ok (.aload_n 0, 1) := by decide +kernel
theorem dX4_endPoint_31 : decode cX4_endPoint 31 = .ok (.getfield 18, 3) := by decide +kernel
theorem dX4_endPoint_34 : decode cX4_endPoint 34 = .ok (.aload_n 0, 1) := by decide +kernel
theorem dX4_endPoint_35 : decode cX4_endPoint 35 = .ok (.getfield 67, 3) := by decide +kernel
theorem dX4_endPoint_38 : decode cX4_endPoint 38 = .ok (.aload_n 0, 1) := by decide +kernel
theorem dX4_endPoint_39 : decode cX4_endPoint 39 = .ok (.getfield 61, 3) := by decide +kernel
theorem dX4_endPoint_42 : decode cX4_endPoint 42 = .ok (.iconst 5, 1) := by decide +kernel
theorem dX4_endPoint_43 : decode cX4_endPoint 43 = .ok (.invokevirtual 73, 3) := by decide +kernel
theorem dX4_endPoint_46 : decode cX4_endPoint 46 = .ok (.return_, 1) := by decide +kernel
