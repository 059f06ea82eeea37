theorem dX2_init_0 : decode cX2_init 0 = .ok (.aload_n 0, 1) := by decide +kernel
theorem dX2_init_1 : decode cX2_init 1 = .ok (.invokespecial 3, 3) := by decide +kernel
theorem dX2_init_4 : decode cX2_init 4 = .ok (.aload_n 0, 1) := by decide +kernel
theorem dX2_init_5 : decode cX2_init 5 = .ok (.sipush 576, 3) := by decide +kernel
theorem dX2_init_8 : decode cX2_init 8 = .ok (.newarray .int, 2) := by decide +kernel
theorem dX2_init_10 : decode cX2_init 10 = .ok (.putfield 9, 3) := by decide +kernel
theorem dX2_init_13 : decode cX2_init 13 = .ok (.aload_n 0, 1) := by decide +kernel
theorem dX2_init_14 : decode cX2_init 14 = .ok (.bipush 24, 2) := by decide +kernel
theorem dX2_init_16 : decode cX2_init 16 = .ok (.newarray .int, 2) := by decide +kernel
theorem dX2_init_18 : decode cX2_init 18 = .ok (.putfield 15, 3) := by decide +kernel
theorem dX2_init_21 : decode cX2_init 21 = .ok (.aload_n 0, 1) := by decide +kernel
theorem dX2_init_22 : decode cX2_init 22 = .ok (.bipush 24, 2) := by decide +kernel
theorem dX2_init_24 : decode cX2_init 24 = .ok (.newarray .int, 2) := by decide +kernel
theorem dX2_init_26 : decode cX2_init 26 = .ok (.putfield 18, 3) := by decide +kernel
theorem dX2_init_29 : decode cX2_init 29 = .ok (.return_, 1) := by decide +kernel
set_option maxRecDepth 20000 in
theorem ggX2_keptPoints_X2_split : GoodIn wsX2_keptPoints wsX2_split := goodIn_r _ [5, 6, 7, 8, 9, 10, 11, 12, 13, 14, 4, 15, 16, 17, 18, 19, 20, 21, 22, 23, 24, 25, 26, 27, 28, 29, 30, 31, 32, 33, 34, 35, 36, 37, 38, 39, 40, 41, 42, 43, 44, 45, 46, 47, 48, 49, 50, 51, 71, 72, 73] (by decide +kernel) (by decide +kernel)
set_option maxRecDepth 20000 in
theorem gX2_keptPoints_X2_split : GoodIn wsX2_keptPoints (wsV RX2 21 RX2 yX2_split wsX2_split) := goodIn_app (goodIn_of _ (by decide +kernel)) ggX2_keptPoints_X2_split
set_option maxRecDepth 20000 in
theorem ggX2_keptPoints_X2_measure : GoodIn wsX2_keptPoints wsX2_measure := goodIn_r _ [55, 56, 6, 7, 8, 9, 10, 11, 57, 58, 59, 4, 60, 19, 20, 21, 22, 23, 24, 25, 26, 27, 28, 29, 30, 31, 32, 33, 34, 35, 36, 37, 38, 39, 40, 41, 42, 43, 44, 45, 46, 47, 48, 49, 50, 51, 61, 17, 62, 16, 18, 74, 75, 76, 71, 72, 73] (by decide +kernel) (by decide +kernel)
set_option maxRecDepth 20000 in
theorem gX2_keptPoints_X2_measure : GoodIn wsX2_keptPoints (wsV RX2 25 RX2 yX2_measure wsX2_measure) := goodIn_app (goodIn_of _ (by decide +kernel)) ggX2_keptPoints_X2_measure
set_option maxRecDepth 20000 in
theorem ggX2_keptPoints_X3_size : GoodIn wsX2_keptPoints wsX3_size := goodIn_r _ [10, 11, 71, 72, 73] (by decide +kernel) (by decide +kernel)
set_option maxRecDepth 20000 in
theorem gX2_keptPoints_X3_size : GoodIn wsX2_keptPoints (wsV RX2 29 RX3 yX3_size wsX3_size) := goodIn_app (goodIn_of _ (by decide +kernel)) ggX2_keptPoints_X3_size
set_option maxRecDepth 20000 in
theorem ggX2_keptPoints_X2_fewest : GoodIn wsX2_keptPoints wsX2_fewest := goodIn_r _ [66, 67, 68, 56, 61, 17, 62, 69, 70, 74, 75, 76] (by decide +kernel) (by decide +kernel)
set_option maxRecDepth 20000 in
theorem gX2_keptPoints_X2_fewest : GoodIn wsX2_keptPoints (wsV RX2 35 RX2 yX2_fewest wsX2_fewest) := goodIn_app (goodIn_of _ (by decide +kernel)) ggX2_keptPoints_X2_fewest
theorem dX2_keptPoints_0 : decode cX2_keptPoints 0 = .ok (.iload 4, 2) := by decide +kernel
theorem dX2_keptPoints_2 : decode cX2_keptPoints 2 = .ok (.ifCond .ne 11, 3) := by decide +kernel
theorem dX2_keptPoints_5 : decode cX2_keptPoints 5 = .ok (.aload_n 0, 1) := by decide +kernel
theorem dX2_keptPoints_6 : decode cX2_keptPoints 6 = .ok (.aload_n 1, 1) := by decide +kernel
theorem dX2_keptPoints_7 : decode cX2_keptPoints 7 = .ok (.iload_n 2, 1) := by decide +kernel
theorem dX2_keptPoints_8 : decode cX2_keptPoints 8 = .ok (.iload_n 3, 1) := by decide +kernel
theorem dX2_keptPoints_9 : decode cX2_keptPoints 9 = .ok (.invokevirtual 21, 3) := by decide +kernel
theorem dX2_keptPoints_12 : decode cX2_keptPoints 12 = .ok (.ireturn, 1) := by decide +kernel
theorem dX2_keptPoints_13 : decode cX2_keptPoints 13 = .ok (.aload_n 0, 1) := by decide +kernel
theorem dX2_keptPoints_14 : decode cX2_keptPoints 14 = .ok (.aload_n 1, 1) := by decide +kernel
theorem dX2_keptPoints_15 : decode cX2_keptPoints 15 = .ok (.iload_n 2, 1) := by decide +kernel
theorem dX2_keptPoints_16 : decode cX2_keptPoints 16 = .ok (.invokevirtual 25, 3) := by decide +kernel
theorem dX2_keptPoints_19 : decode cX2_keptPoints 19 = .ok (.aload_n 0, 1) := by decide +kernel
theorem dX2_keptPoints_20 : decode cX2_keptPoints 20 = .ok (.aload_n 1, 1) := by decide +kernel
theorem dX2_keptPoints_21 : decode cX2_keptPoints 21 = .ok (.invokevirtual 29, 3) := by decide +kernel
theorem dX2_keptPoints_24 : decode cX2_keptPoints 24 = .ok (.iload_n 3, 1) := by decide +kernel
theorem dX2_keptPoints_25 : decode cX2_keptPoints 25 = .ok (.invokevirtual 35, 3) := by decide +kernel
theorem dX2_keptPoints_28 : decode cX2_keptPoints 28 = .ok (.ireturn, 1) := by decide +kernel
set_option maxRecDepth 20000 in
theorem ggX2_leastBoundFor_X2_measure : GoodIn wsX2_leastBoundFor wsX2_measure := goodIn_r _ [5, 6, 7, 8, 9, 10, 11, 12, 13, 14, 15, 4, 16, 17, 18, 19, 20, 21, 22, 23, 24, 25, 26, 27, 28, 29, 30, 31, 32, 33, 34, 35, 36, 37, 38, 39, 40, 41, 42, 43, 44, 45, 46, 47, 48, 49, 50, 51, 52, 53, 54, 78, 79, 80, 81, 82, 83] (by decide +kernel) (by decide +kernel)
set_option maxRecDepth 20000 in
theorem gX2_leastBoundFor_X2_measure : GoodIn wsX2_leastBoundFor (wsV RX2 25 RX2 yX2_measure wsX2_measure) := goodIn_app (goodIn_of _ (by decide +kernel)) ggX2_leastBoundFor_X2_measure
set_option maxRecDepth 20000 in
theorem ggX2_leastBoundFor_X3_size : GoodIn wsX2_leastBoundFor wsX3_size := goodIn_r _ [11, 12, 81, 82, 83] (by decide +kernel) (by decide +kernel)
set_option maxRecDepth 20000 in
theorem gX2_leastBoundFor_X3_size : GoodIn wsX2_leastBoundFor (wsV RX2 29 RX3 yX3_size wsX3_size) := goodIn_app (goodIn_of _ (by decide +kernel)) ggX2_leastBoundFor_X3_size
set_option maxRecDepth 20000 in
theorem ggX2_leastBoundFor_X2_fewest : GoodIn wsX2_leastBoundFor wsX2_fewest := goodIn_r _ [58, 59, 60, 6, 50, 51, 52, 61, 62, 78, 79, 80] (by decide +kernel) (by decide +kernel)
set_option maxRecDepth 20000 in
theorem gX2_leastBoundFor_X2_fewest : GoodIn wsX2_leastBoundFor (wsV RX2 35 RX2 yX2_fewest wsX2_fewest) := goodIn_app (goodIn_of _ (by decide +kernel)) ggX2_leastBoundFor_X2_fewest
set_option maxRecDepth 20000 in
theorem ggX2_leastBoundFor_X2_split : GoodIn wsX2_leastBoundFor wsX2_split := goodIn_r _ [66, 7, 8, 9, 10, 11, 12, 67, 68, 69, 4, 70, 53, 51, 54, 17, 18, 19, 20, 21, 22, 23, 24, 25, 26, 27, 28, 29, 30, 31, 32, 33, 34, 35, 36, 37, 38, 39, 40, 41, 42, 43, 44, 45, 46, 47, 48, 49, 81, 82, 83] (by decide +kernel) (by decide +kernel)
set_option maxRecDepth 20000 in
theorem gX2_leastBoundFor_X2_split : GoodIn wsX2_leastBoundFor (wsV RX2 21 RX2 yX2_split wsX2_split) := goodIn_app (goodIn_of _ (by decide +kernel)) ggX2_leastBoundFor_X2_split
set_option maxRecDepth 20000 in
theorem ggX2_leastBoundFor_J6_bitCount_0f7a4 : GoodIn wsX2_leastBoundFor wsJ6_bitCount_0f7a4 := goodIn_r _ [74, 75, 76, 77] (by decide +kernel) (by decide +kernel)
set_option maxRecDepth 20000 in
theorem gX2_leastBoundFor_J6_bitCount_0f7a4 : GoodIn wsX2_leastBoundFor (va_wsS RX2 39 yJ6_bitCount_0f7a4 wsJ6_bitCount_0f7a4) := goodIn_app (goodIn_of _ (by decide +kernel)) ggX2_leastBoundFor_J6_bitCount_0f7a4
theorem dX2_leastBoundFor_0 : decode cX2_leastBoundFor 0 = .ok (.iload 4, 2) := by decide +kernel
theorem dX2_leastBoundFor_2 : decode cX2_leastBoundFor 2 = .ok (.iconst 1, 1) := by decide +kernel
theorem dX2_leastBoundFor_3 : decode cX2_leastBoundFor 3 = .ok (.if_icmp .ne 9, 3) := by decide +kernel
theorem dX2_leastBoundFor_6 : decode cX2_leastBoundFor 6 = .ok (.aload_n 0, 1) := by decide +kernel
theorem dX2_leastBoundFor_7 : decode cX2_leastBoundFor 7 = .ok (.aload_n 1, 1) := by decide +kernel
theorem dX2_leastBoundFor_8 : decode cX2_leastBoundFor 8 = .ok (.iload_n 2, 1) := by decide +kernel
theorem dX2_leastBoundFor_9 : decode cX2_leastBoundFor 9 = .ok (.invokevirtual 25, 3) := by decide +kernel
theorem dX2_leastBoundFor_12 : decode cX2_leastBoundFor 12 = .ok (.iconst 0, 1) := by decide +kernel
theorem dX2_leastBoundFor_13 : decode cX2_leastBoundFor 13 = .ok (.istore 5, 2) := by decide +kernel
theorem dX2_leastBoundFor_15 : decode cX2_leastBoundFor 15 = .ok (.iload 5, 2) := by decide +kernel
theorem dX2_leastBoundFor_17 : decode cX2_leastBoundFor 17 = .ok (.bipush 50, 2) := by decide +kernel
theorem dX2_leastBoundFor_19 : decode cX2_leastBoundFor 19 = .ok (.if_icmp .gt 50, 3) := by decide +kernel
theorem dX2_leastBoundFor_22 : decode cX2_leastBoundFor 22 = .ok (.iload 4, 2) := by decide +kernel
theorem dX2_leastBoundFor_24 : decode cX2_leastBoundFor 24 = .ok (.iconst 1, 1) := by decide +kernel
theorem dX2_leastBoundFor_25 : decode cX2_leastBoundFor 25 = .ok (.if_icmp .ne 16, 3) := by decide +kernel
theorem dX2_leastBoundFor_28 : decode cX2_leastBoundFor 28 = .ok (.aload_n 0, 1) := by decide +kernel
theorem dX2_leastBoundFor_29 : decode cX2_leastBoundFor 29 = .ok (.aload_n 1, 1) := by decide +kernel
theorem dX2_leastBoundFor_30 : decode cX2_leastBoundFor 30 = .ok (.invokevirtual 29, 3) := by decide +kernel
theorem dX2_leastBoundFor_33 : decode cX2_leastBoundFor 33 = .ok (.iload 5, 2) := by decide +kernel
theorem dX2_leastBoundFor_35 : decode cX2_leastBoundFor 35 = .ok (.invokevirtual 35, 3) := by decide +kernel
theorem dX2_leastBoundFor_38 : decode cX2_leastBoundFor 38 = .ok (.goto 11, 3) := by decide +kernel
theorem dX2_leastBoundFor_41 : decode cX2_leastBoundFor 41 = .ok (.aload_n 0, 1) := by decide +kernel
theorem dX2_leastBoundFor_42 : decode cX2_leastBoundFor 42 = .ok (.aload_n 1, 1) := by decide +kernel
theorem dX2_leastBoundFor_43 : decode cX2_leastBoundFor 43 = .ok (.iload_n 2, 1) := by decide +kernel
theorem dX2_leastBoundFor_44 : decode cX2_leastBoundFor 44 = .ok (.iload 5, 2) := by decide +kernel
theorem dX2_leastBoundFor_46 : decode cX2_leastBoundFor 46 = .ok (.invokevirtual 21, 3) := by decide +kernel
theorem dX2_leastBoundFor_49 : decode cX2_leastBoundFor 49 = .ok (.istore 6, 2) := by decide +kernel
theorem dX2_leastBoundFor_51 : decode cX2_leastBoundFor 51 = .ok (.iload 6, 2) := by decide +kernel
theorem dX2_leastBoundFor_53 : decode cX2_leastBoundFor 53 = .ok (.invokestatic 39, 3) := by decide +kernel
theorem dX2_leastBoundFor_56 : decode cX2_leastBoundFor 56 = .ok (.iload_n 3, 1) := by decide +kernel
theorem dX2_leastBoundFor_57 : decode cX2_leastBoundFor 57 = .ok (.if_icmp .gt 6, 3) := by decide +kernel
theorem dX2_leastBoundFor_60 : decode cX2_leastBoundFor 60 = .ok (.iload 5, 2) := by decide +kernel
theorem dX2_leastBoundFor_62 : decode cX2_leastBoundFor 62 = .ok (.ireturn, 1) := by decide +kernel
theorem dX2_leastBoundFor_63 : decode cX2_leastBoundFor 63 = .ok (.iinc 5 1, 3) := by decide +kernel
theorem dX2_leastBoundFor_66 : decode cX2_leastBoundFor 66 = .ok (.goto (-51), 3) := by decide +kernel
theorem dX2_leastBoundFor_69 : decode cX2_leastBoundFor 69 = .ok (.iconst (-1), 1) := by decide +kernel
theorem dX2_leastBoundFor_70 : decode cX2_leastBoundFor 70 = .ok (.ireturn, 1) := by decide +kernel
set_option maxRecDepth 20000 in
theorem ggX2_split_X3_size : GoodIn wsX2_split wsX3_size := goodIn_r _ [5, 6, 48, 49, 50] (by decide +kernel) (by decide +kernel)
set_option maxRecDepth 20000 in
theorem gX2_split_X3_size : GoodIn wsX2_split (wsV RX2 29 RX3 yX3_size wsX3_size) := goodIn_app (goodIn_of _ (by decide +kernel)) ggX2_split_X3_size
set_option maxRecDepth 20000 in
theorem ggX2_split_X2_nextOf : GoodIn wsX2_split wsX2_nextOf := goodIn_r _ [11, 12, 13, 14] (by decide +kernel) (by decide +kernel)
set_option maxRecDepth 20000 in
theorem gX2_split_X2_nextOf : GoodIn wsX2_split (wsV RX2 45 RX2 yX2_nextOf wsX2_nextOf) := goodIn_app (goodIn_of _ (by decide +kernel)) ggX2_split_X2_nextOf
set_option maxRecDepth 20000 in
theorem ggX2_split_X3_farthestBetween : GoodIn wsX2_split wsX3_farthestBetween := goodIn_r _ [18, 19, 20, 21, 4, 22, 23, 24, 25, 26, 27, 28, 29, 30, 31, 32, 33, 34, 35, 48, 49, 50] (by decide +kernel) (by decide +kernel)
set_option maxRecDepth 20000 in
theorem gX2_split_X3_farthestBetween : GoodIn wsX2_split (wsV RX2 49 RX3 yX3_farthestBetween wsX3_farthestBetween) := goodIn_app (goodIn_of _ (by decide +kernel)) ggX2_split_X3_farthestBetween
set_option maxRecDepth 20000 in
theorem ggX2_split_X3_spread : GoodIn wsX2_split wsX3_spread := goodIn_r _ [22, 23, 24, 25, 26, 27, 28, 29, 4, 30, 31, 32, 33, 34, 35, 48, 49, 50] (by decide +kernel) (by decide +kernel)
set_option maxRecDepth 20000 in
theorem gX2_split_X3_spread : GoodIn wsX2_split (wsV RX2 52 RX3 yX3_spread wsX3_spread) := goodIn_app (goodIn_of _ (by decide +kernel)) ggX2_split_X3_spread
set_option maxRecDepth 20000 in
theorem ggX2_split_X3_scale : GoodIn wsX2_split wsX3_scale := goodIn_r _ [40, 23, 24, 25, 26, 41, 42, 43, 4, 44, 27, 28, 29, 30, 31, 32, 33, 34, 35, 48, 49, 50] (by decide +kernel) (by decide +kernel)
set_option maxRecDepth 20000 in
theorem gX2_split_X3_scale : GoodIn wsX2_split (wsV RX2 56 RX3 yX3_scale wsX3_scale) := goodIn_app (goodIn_of _ (by decide +kernel)) ggX2_split_X3_scale
set_option maxRecDepth 20000 in
theorem ggX2_split_X2_isWithin : GoodIn wsX2_split wsX2_isWithin := goodIn_r _ [47] (by decide +kernel) (by decide +kernel)
set_option maxRecDepth 20000 in
theorem gX2_split_X2_isWithin : GoodIn wsX2_split (va_wsS RX2 60 yX2_isWithin wsX2_isWithin) := goodIn_app (goodIn_of _ (by decide +kernel)) ggX2_split_X2_isWithin
theorem dX2_split_0 : decode cX2_split 0 = .ok (.aload_n 1, 1) := by decide +kernel
theorem dX2_split_1 : decode cX2_split 1 = .ok (.invokevirtual 29, 3) := by decide +kernel
theorem dX2_split_4 : decode cX2_split 4 = .ok (.iconst 1, 1) := by decide +kernel
theorem dX2_split_5 : decode cX2_split 5 = .ok (.isub, 1) := by decide +kernel
theorem dX2_split_6 : decode cX2_split 6 = .ok (.istore 4, 2) := by decide +kernel
theorem dX2_split_8 : decode cX2_split 8 = .ok (.iload_n 2, 1) := by decide +kernel
theorem dX2_split_9 : decode cX2_split 9 = .ok (.istore 5, 2) := by decide +kernel
theorem dX2_split_11 : decode cX2_split 11 = .ok (.iconst 0, 1) := by decide +kernel
theorem dX2_split_12 : decode cX2_split 12 = .ok (.istore 6, 2) := by decide +kernel
theorem dX2_split_14 : decode cX2_split 14 = .ok (.iconst 0, 1) := by decide +kernel
theorem dX2_split_15 : decode cX2_split 15 = .ok (.istore 7, 2) := by decide +kernel
theorem dX2_split_17 : decode cX2_split 17 = .ok (.iload 7, 2) := by decide +kernel
theorem dX2_split_19 : decode cX2_split 19 = .ok (.bipush 48, 2) := by decide +kernel
theorem dX2_split_21 : decode cX2_split 21 = .ok (.if_icmp .ge 79, 3) := by decide +kernel
theorem dX2_split_24 : decode cX2_split 24 = .ok (.iload 6, 2) := by decide +kernel
theorem dX2_split_26 : decode cX2_split 26 = .ok (.iload 4, 2) := by decide +kernel
theorem dX2_split_28 : decode cX2_split 28 = .ok (.if_icmp .ge 72, 3) := by decide +kernel
theorem dX2_split_31 : decode cX2_split 31 = .ok (.aload_n 0, 1) := by decide +kernel
theorem dX2_split_32 : decode cX2_split 32 = .ok (.iload 5, 2) := by decide +kernel
theorem dX2_split_34 : decode cX2_split 34 = .ok (.iload 6, 2) := by decide +kernel
theorem dX2_split_36 : decode cX2_split 36 = .ok (.iload 4, 2) := by decide +kernel
theorem dX2_split_38 : decode cX2_split 38 = .ok (.invokevirtual 45, 3) := by decide +kernel
theorem dX2_split_41 : decode cX2_split 41 = .ok (.istore 8, 2) := by decide +kernel
theorem dX2_split_43 : decode cX2_split 43 = .ok (.aload_n 1, 1) := by decide +kernel
theorem dX2_split_44 : decode cX2_split 44 = .ok (.iload 6, 2) := by decide +kernel
theorem dX2_split_46 : decode cX2_split 46 = .ok (.iload 8, 2) := by decide +kernel
theorem dX2_split_48 : decode cX2_split 48 = .ok (.invokevirtual 49, 3) := by decide +kernel
theorem dX2_split_51 : decode cX2_split 51 = .ok (.istore 9, 2) := by decide +kernel
theorem dX2_split_53 : decode cX2_split 53 = .ok (.iload_n 3, 1) := by decide +kernel
theorem dX2_split_54 : decode cX2_split 54 = .ok (.aload_n 1, 1) := by decide +kernel
theorem dX2_split_55 : decode cX2_split 55 = .ok (.iload 9, 2) := by decide +kernel
theorem dX2_split_57 : decode cX2_split 57 = .ok (.iload 6, 2) := by decide +kernel
theorem dX2_split_59 : decode cX2_split 59 = .ok (.iload 8, 2) := by decide +kernel
theorem dX2_split_61 : decode cX2_split 61 = .ok (.invokevirtual 52, 3) := by decide +kernel
theorem dX2_split_64 : decode cX2_split 64 = .ok (.aload_n 1, 1) := by decide +kernel
theorem dX2_split_65 : decode cX2_split 65 = .ok (.iload 6, 2) := by decide +kernel
theorem dX2_split_67 : decode cX2_split 67 = .ok (.iload 8, 2) := by decide +kernel
theorem dX2_split_69 : decode cX2_split 69 = .ok (.invokevirtual 56, 3) := by decide +kernel
theorem dX2_split_72 : decode cX2_split 72 = .ok (.invokestatic 60, 3) := by decide +kernel
theorem dX2_split_75 : decode cX2_split 75 = .ok (.ifCond .eq 10, 3) := by decide +kernel
theorem dX2_split_78 : decode cX2_split 78 = .ok (.iload 8, 2) := by decide +kernel
theorem dX2_split_80 : decode cX2_split 80 = .ok (.istore 6, 2) := by decide +kernel
theorem dX2_split_82 : decode cX2_split 82 = .ok (.goto 12, 3) := by decide +kernel
theorem dX2_split_85 : decode cX2_split 85 = .ok (.iload 5, 2) := by decide +kernel
theorem dX2_split_87 : decode cX2_split 87 = .ok (.iconst 1, 1) := by decide +kernel
theorem dX2_split_88 : decode cX2_split 88 = .ok (.iload 9, 2) := by decide +kernel
theorem dX2_split_90 : decode cX2_split 90 = .ok (.ishl, 1) := by decide +kernel
theorem dX2_split_91 : decode cX2_split 91 = .ok (.ior, 1) := by decide +kernel
theorem dX2_split_92 : decode cX2_split 92 = .ok (.istore 5, 2) := by decide +kernel
theorem dX2_split_94 : decode cX2_split 94 = .ok (.iinc 7 1, 3) := by decide +kernel
theorem dX2_split_97 : decode cX2_split 97 = .ok (.goto (-80), 3) := by decide +kernel
theorem dX2_split_100 : decode cX2_split 100 = .ok (.iload 5, 2) := by decide +kernel
theorem dX2_split_102 : decode cX2_split 102 = .ok (.ireturn, 1) := by decide +kernel
set_option maxRecDepth 20000 in
theorem ggX2_nextOf_X5_hasBit : GoodIn wsX2_nextOf wsX5_hasBit := goodIn_r _ [3] (by decide +kernel) (by decide +kernel)
set_option maxRecDepth 20000 in
theorem gX2_nextOf_X5_hasBit_n64 : GoodIn wsX2_nextOf (wsX5_hasBit) := ggX2_nextOf_X5_hasBit
theorem dX2_nextOf_0 : decode cX2_nextOf 0 = .ok (.iload_n 2, 1) := by decide +kernel
theorem dX2_nextOf_1 : decode cX2_nextOf 1 = .ok (.iconst 1, 1) := by decide +kernel
theorem dX2_nextOf_2 : decode cX2_nextOf 2 = .ok (.iadd, 1) := by decide +kernel
theorem dX2_nextOf_3 : decode cX2_nextOf 3 = .ok (.istore 4, 2) := by decide +kernel
theorem dX2_nextOf_5 : decode cX2_nextOf 5 = .ok (.iload 4, 2) := by decide +kernel
theorem dX2_nextOf_7 : decode cX2_nextOf 7 = .ok (.iload_n 3, 1) := by decide +kernel
theorem dX2_nextOf_8 : decode cX2_nextOf 8 = .ok (.if_icmp .ge 21, 3) := by decide +kernel
theorem dX2_nextOf_11 : decode cX2_nextOf 11 = .ok (.iload_n 1, 1) := by decide +kernel
theorem dX2_nextOf_12 : decode cX2_nextOf 12 = .ok (.iload 4, 2) := by decide +kernel
theorem dX2_nextOf_14 : decode cX2_nextOf 14 = .ok (.invokestatic 64, 3) := by decide +kernel
theorem dX2_nextOf_17 : decode cX2_nextOf 17 = .ok (.ifCond .eq 6, 3) := by decide +kernel
theorem dX2_nextOf_20 : decode cX2_nextOf 20 = .ok (.iload 4, 2) := by decide +kernel
theorem dX2_nextOf_22 : decode cX2_nextOf 22 = .ok (.ireturn, 1) := by decide +kernel
theorem dX2_nextOf_23 : decode cX2_nextOf 23 = .ok (.iinc 4 1, 3) := by decide +kernel
theorem dX2_nextOf_26 : decode cX2_nextOf 26 = .ok (.goto (-21), 3) := by decide +kernel
theorem dX2_nextOf_29 : decode cX2_nextOf 29 = .ok (.iload_n 3, 1) := by decide +kernel
theorem dX2_nextOf_30 : decode cX2_nextOf 30 = .ok (.ireturn, 1) := by decide +kernel
set_option maxRecDepth 20000 in
theorem ggX2_measure_X3_size : GoodIn wsX2_measure wsX3_size := goodIn_r _ [6, 7, 54, 55, 56] (by decide +kernel) (by decide +kernel)
set_option maxRecDepth 20000 in
theorem gX2_measure_X3_size : GoodIn wsX2_measure (wsV RX2 29 RX3 yX3_size wsX3_size) := goodIn_app (goodIn_of _ (by decide +kernel)) ggX2_measure_X3_size
set_option maxRecDepth 20000 in
theorem ggX2_measure_X2_leastWithin : GoodIn wsX2_measure wsX2_leastWithin := goodIn_r _ [12, 13, 14, 15, 5, 16, 17, 18, 19, 20, 21, 22, 23, 24, 25, 26, 27, 28, 29, 30, 31, 32, 33, 34, 35, 36, 37, 38, 39, 40, 41, 42, 43, 44, 11, 45, 54, 55, 56] (by decide +kernel) (by decide +kernel)
set_option maxRecDepth 20000 in
theorem gX2_measure_X2_leastWithin : GoodIn wsX2_measure (wsV RX2 68 RX2 yX2_leastWithin wsX2_leastWithin) := goodIn_app (goodIn_of _ (by decide +kernel)) ggX2_measure_X2_leastWithin
set_option maxRecDepth 20000 in
theorem ggX2_measure_X5_putCell : GoodIn wsX2_measure wsX5_putCell := goodIn_r _ [48] (by decide +kernel) (by decide +kernel)
set_option maxRecDepth 20000 in
theorem gX2_measure_X5_putCell_n71 : GoodIn wsX2_measure (wsX5_putCell) := ggX2_measure_X5_putCell
set_option maxRecDepth 20000 in
theorem ggX2_measure_X5_hasBit : GoodIn wsX2_measure wsX5_hasBit := goodIn_r _ [50] (by decide +kernel) (by decide +kernel)
set_option maxRecDepth 20000 in
theorem gX2_measure_X5_hasBit_n64 : GoodIn wsX2_measure (wsX5_hasBit) := ggX2_measure_X5_hasBit
theorem dX2_measure_0 : decode cX2_measure 0 = .ok (.iconst 1, 1) := by decide +kernel
theorem dX2_measure_1 : decode cX2_measure 1 = .ok (.istore_n 3, 1) := by decide +kernel
theorem dX2_measure_2 : decode cX2_measure 2 = .ok (.iload_n 3, 1) := by decide +kernel
theorem dX2_measure_3 : decode cX2_measure 3 = .ok (.aload_n 1, 1) := by decide +kernel
theorem dX2_measure_4 : decode cX2_measure 4 = .ok (.invokevirtual 29, 3) := by decide +kernel
theorem dX2_measure_7 : decode cX2_measure 7 = .ok (.if_icmp .ge 85, 3) := by decide +kernel
theorem dX2_measure_10 : decode cX2_measure 10 = .ok (.iconst 0, 1) := by decide +kernel
theorem dX2_measure_11 : decode cX2_measure 11 = .ok (.istore 4, 2) := by decide +kernel
theorem dX2_measure_13 : decode cX2_measure 13 = .ok (.iload_n 3, 1) := by decide +kernel
theorem dX2_measure_14 : decode cX2_measure 14 = .ok (.iconst 1, 1) := by decide +kernel
theorem dX2_measure_15 : decode cX2_measure 15 = .ok (.isub, 1) := by decide +kernel
theorem dX2_measure_16 : decode cX2_measure 16 = .ok (.istore 5, 2) := by decide +kernel
theorem dX2_measure_18 : decode cX2_measure 18 = .ok (.iload 5, 2) := by decide +kernel
theorem dX2_measure_20 : decode cX2_measure 20 = .ok (.ifCond .lt 66, 3) := by decide +kernel
theorem dX2_measure_23 : decode cX2_measure 23 = .ok (.iload 4, 2) := by decide +kernel
theorem dX2_measure_25 : decode cX2_measure 25 = .ok (.ifCond .eq 8, 3) := by decide +kernel
theorem dX2_measure_28 : decode cX2_measure 28 = .ok (.bipush 51, 2) := by decide +kernel
theorem dX2_measure_30 : decode cX2_measure 30 = .ok (.goto 11, 3) := by decide +kernel
theorem dX2_measure_33 : decode cX2_measure 33 = .ok (.aload_n 0, 1) := by decide +kernel
theorem dX2_measure_34 : decode cX2_measure 34 = .ok (.aload_n 1, 1) := by decide +kernel
theorem dX2_measure_35 : decode cX2_measure 35 = .ok (.iload 5, 2) := by decide +kernel
theorem dX2_measure_37 : decode cX2_measure 37 = .ok (.iload_n 3, 1) := by decide +kernel
theorem dX2_measure_38 : decode cX2_measure 38 = .ok (.invokevirtual 68, 3) := by decide +kernel
theorem dX2_measure_41 : decode cX2_measure 41 = .ok (.istore 6, 2) := by decide +kernel
theorem dX2_measure_43 : decode cX2_measure 43 = .ok (.aload_n 0, 1) := by decide +kernel
theorem dX2_measure_44 : decode cX2_measure 44 = .ok (.getfield 9, 3) := by decide +kernel
theorem dX2_measure_47 : decode cX2_measure 47 = .ok (.iload 5, 2) := by decide +kernel
theorem dX2_measure_49 : decode cX2_measure 49 = .ok (.bipush 24, 2) := by decide +kernel
theorem dX2_measure_51 : decode cX2_measure 51 = .ok (.imul, 1) := by decide +kernel
theorem dX2_measure_52 : decode cX2_measure 52 = .ok (.iload_n 3, 1) := by decide +kernel
theorem dX2_measure_53 : decode cX2_measure 53 = .ok (.iadd, 1) := by decide +kernel
theorem dX2_measure_54 : decode cX2_measure 54 = .ok (.iload 6, 2) := by decide +kernel
theorem dX2_measure_56 : decode cX2_measure 56 = .ok (.invokestatic 71, 3) := by decide +kernel
theorem dX2_measure_59 : decode cX2_measure 59 = .ok (.iload 4, 2) := by decide +kernel
theorem dX2_measure_61 : decode cX2_measure 61 = .ok (.ifCond .ne 12, 3) := by decide +kernel
theorem dX2_measure_64 : decode cX2_measure 64 = .ok (.iload_n 2, 1) := by decide +kernel
theorem dX2_measure_65 : decode cX2_measure 65 = .ok (.iload 5, 2) := by decide +kernel
theorem dX2_measure_67 : decode cX2_measure 67 = .ok (.invokestatic 64, 3) := by decide +kernel
theorem dX2_measure_70 : decode cX2_measure 70 = .ok (.ifCond .eq 7, 3) := by decide +kernel
theorem dX2_measure_73 : decode cX2_measure 73 = .ok (.iconst 1, 1) := by decide +kernel
theorem dX2_measure_74 : decode cX2_measure 74 = .ok (.goto 4, 3) := by decide +kernel
theorem dX2_measure_77 : decode cX2_measure 77 = .ok (.iconst 0, 1) := by decide +kernel
theorem dX2_measure_78 : decode cX2_measure 78 = .ok (.istore 4, 2) := by decide +kernel
theorem dX2_measure_80 : decode cX2_measure 80 = .ok (.iinc 5 (-1), 3) := by decide +kernel
theorem dX2_measure_83 : decode cX2_measure 83 = .ok (.goto (-65), 3) := by decide +kernel
theorem dX2_measure_86 : decode cX2_measure 86 = .ok (.iinc 3 1, 3) := by decide +kernel
theorem dX2_measure_89 : decode cX2_measure 89 = .ok (.goto (-87), 3) := by decide +kernel
theorem dX2_measure_92 : decode cX2_measure 92 = .ok (.return_, 1) := by decide +kernel
set_option maxRecDepth 20000 in
theorem ggX2_leastWithin_X3_farthestBetween : GoodIn wsX2_leastWithin wsX3_farthestBetween := goodIn_r _ [5, 6, 7, 8, 4, 9, 10, 11, 12, 13, 14, 15, 16, 17, 18, 19, 20, 21, 22, 36, 37, 38] (by decide +kernel) (by decide +kernel)
set_option maxRecDepth 20000 in
theorem gX2_leastWithin_X3_farthestBetween : GoodIn wsX2_leastWithin (wsV RX2 49 RX3 yX3_farthestBetween wsX3_farthestBetween) := goodIn_app (goodIn_of _ (by decide +kernel)) ggX2_leastWithin_X3_farthestBetween
set_option maxRecDepth 20000 in
theorem ggX2_leastWithin_X3_spread : GoodIn wsX2_leastWithin wsX3_spread := goodIn_r _ [9, 10, 11, 12, 13, 14, 15, 16, 4, 17, 18, 19, 20, 21, 22, 36, 37, 38] (by decide +kernel) (by decide +kernel)
set_option maxRecDepth 20000 in
theorem gX2_leastWithin_X3_spread : GoodIn wsX2_leastWithin (wsV RX2 52 RX3 yX3_spread wsX3_spread) := goodIn_app (goodIn_of _ (by decide +kernel)) ggX2_leastWithin_X3_spread
set_option maxRecDepth 20000 in
theorem ggX2_leastWithin_X3_scale : GoodIn wsX2_leastWithin wsX3_scale := goodIn_r _ [27, 10, 11, 12, 13, 28, 29, 30, 4, 31, 14, 15, 16, 17, 18, 19, 20, 21, 22, 36, 37, 38] (by decide +kernel) (by decide +kernel)
set_option maxRecDepth 20000 in
theorem gX2_leastWithin_X3_scale : GoodIn wsX2_leastWithin (wsV RX2 56 RX3 yX3_scale wsX3_scale) := goodIn_app (goodIn_of _ (by decide +kernel)) ggX2_leastWithin_X3_scale
set_option maxRecDepth 20000 in
theorem ggX2_leastWithin_X2_isWithin : GoodIn wsX2_leastWithin wsX2_isWithin := goodIn_r _ [35] (by decide +kernel) (by decide +kernel)
set_option maxRecDepth 20000 in
theorem gX2_leastWithin_X2_isWithin : GoodIn wsX2_leastWithin (va_wsS RX2 60 yX2_isWithin wsX2_isWithin) := goodIn_app (goodIn_of _ (by decide +kernel)) ggX2_leastWithin_X2_isWithin
theorem dX2_leastWithin_0 : decode cX2_leastWithin 0 = .ok (.aload_n 1, 1) := by decide +kernel
theorem dX2_leastWithin_1 : decode cX2_leastWithin 1 = .ok (.aload_n 1, 1) := by decide +kernel
theorem dX2_leastWithin_2 : decode cX2_leastWithin 2 = .ok (.iload_n 2, 1) := by decide +kernel
theorem dX2_leastWithin_3 : decode cX2_leastWithin 3 = .ok (.iload_n 3, 1) := by decide +kernel
theorem dX2_leastWithin_4 : decode cX2_leastWithin 4 = .ok (.invokevirtual 49, 3) := by decide +kernel
theorem dX2_leastWithin_7 : decode cX2_leastWithin 7 = .ok (.iload_n 2, 1) := by decide +kernel
theorem dX2_leastWithin_8 : decode cX2_leastWithin 8 = .ok (.iload_n 3, 1) := by decide +kernel
theorem dX2_leastWithin_9 : decode cX2_leastWithin 9 = .ok (.invokevirtual 52, 3) := by decide +kernel
theorem dX2_leastWithin_12 : decode cX2_leastWithin 12 = .ok (.lstore 4, 2) := by decide +kernel
theorem dX2_leastWithin_14 : decode cX2_leastWithin 14 = .ok (.aload_n 1, 1) := by decide +kernel
theorem dX2_leastWithin_15 : decode cX2_leastWithin 15 = .ok (.iload_n 2, 1) := by decide +kernel
theorem dX2_leastWithin_16 : decode cX2_leastWithin 16 = .ok (.iload_n 3, 1) := by decide +kernel
theorem dX2_leastWithin_17 : decode cX2_leastWithin 17 = .ok (.invokevirtual 56, 3) := by decide +kernel
theorem dX2_leastWithin_20 : decode cX2_leastWithin 20 = .ok (.lstore 6, 2) := by decide +kernel
theorem dX2_leastWithin_22 : decode cX2_leastWithin 22 = .ok (.iconst 0, 1) := by decide +kernel
theorem dX2_leastWithin_23 : decode cX2_leastWithin 23 = .ok (.istore 8, 2) := by decide +kernel
theorem dX2_leastWithin_25 : decode cX2_leastWithin 25 = .ok (.iload 8, 2) := by decide +kernel
theorem dX2_leastWithin_27 : decode cX2_leastWithin 27 = .ok (.bipush 50, 2) := by decide +kernel
theorem dX2_leastWithin_29 : decode cX2_leastWithin 29 = .ok (.if_icmp .gt 21, 3) := by decide +kernel
theorem dX2_leastWithin_32 : decode cX2_leastWithin 32 = .ok (.iload 8, 2) := by decide +kernel
theorem dX2_leastWithin_34 : decode cX2_leastWithin 34 = .ok (.lload 4, 2) := by decide +kernel
theorem dX2_leastWithin_36 : decode cX2_leastWithin 36 = .ok (.lload 6, 2) := by decide +kernel
theorem dX2_leastWithin_38 : decode cX2_leastWithin 38 = .ok (.invokestatic 60, 3) := by decide +kernel
theorem dX2_leastWithin_41 : decode cX2_leastWithin 41 = .ok (.ifCond .ne 9, 3) := by decide +kernel
theorem dX2_leastWithin_44 : decode cX2_leastWithin 44 = .ok (.iinc 8 1, 3) := by decide +kernel
theorem dX2_leastWithin_47 : decode cX2_leastWithin 47 = .ok (.goto (-22), 3) := by decide +kernel
theorem dX2_leastWithin_50 : decode cX2_leastWithin 50 = .ok (.iload 8, 2) := by decide +kernel
theorem dX2_leastWithin_52 : decode cX2_leastWithin 52 = .ok (.ireturn, 1) := by decide +kernel
theorem dX2_isWithin_0 : decode cX2_isWithin 0 = .ok (.lload_n 1, 1) := by decide +kernel
theorem dX2_isWithin_1 : decode cX2_isWithin 1 = .ok (.iload_n 0, 1) := by decide +kernel
theorem dX2_isWithin_2 : decode cX2_isWithin 2 = .ok (.i2l, 1) := by decide +kernel
theorem dX2_isWithin_3 : decode cX2_isWithin 3 = .ok (.iload_n 0, 1) := by decide +kernel
theorem dX2_isWithin_4 : decode cX2_isWithin 4 = .ok (.i2l, 1) := by decide +kernel
theorem dX2_isWithin_5 : decode cX2_isWithin 5 = .ok (.lmul, 1) := by decide +kernel
theorem dX2_isWithin_6 : decode cX2_isWithin 6 = .ok (.lload_n 3, 1) := by decide +kernel
theorem dX2_isWithin_7 : decode cX2_isWithin 7 = .ok (.lmul, 1) := by decide +kernel
theorem dX2_isWithin_8 : decode cX2_isWithin 8 = .ok (.lcmp, 1) := by decide +kernel
theorem dX2_isWithin_9 : decode cX2_isWithin 9 = .ok (.ifCond .gt 7, 3) := by decide +kernel
theorem dX2_isWithin_12 : decode cX2_isWithin 12 = .ok (.iconst 1, 1) := by decide +kernel
theorem dX2_isWithin_13 : decode cX2_isWithin 13 = .ok (.goto 4, 3) := by decide +kernel
theorem dX2_isWithin_16 : decode cX2_isWithin 16 = .ok (.iconst 0, 1) := by decide +kernel
theorem dX2_isWithin_17 : decode cX2_isWithin 17 = .ok (.ireturn, 1) := by decide +kernel
set_option maxRecDepth 20000 in
theorem ggX2_fewest_X5_putCell : GoodIn wsX2_fewest wsX5_putCell := goodIn_r _ [6] (by decide +kernel) (by decide +kernel)
set_option maxRecDepth 20000 in
theorem gX2_fewest_X5_putCell_n71 : GoodIn wsX2_fewest (wsX5_putCell) := ggX2_fewest_X5_putCell
set_option maxRecDepth 20000 in
theorem ggX2_fewest_X5_cell : GoodIn wsX2_fewest wsX5_cell := goodIn_r _ [8] (by decide +kernel) (by decide +kernel)
set_option maxRecDepth 20000 in
theorem gX2_fewest_X5_cell_n75 : GoodIn wsX2_fewest (wsX5_cell) := ggX2_fewest_X5_cell
theorem dX2_fewest_0 : decode cX2_fewest 0 = .ok (.aload_n 0, 1) := by decide +kernel
theorem dX2_fewest_1 : decode cX2_fewest 1 = .ok (.getfield 15, 3) := by decide +kernel
theorem dX2_fewest_4 : decode cX2_fewest 4 = .ok (.iconst 0, 1) := by decide +kernel
theorem dX2_fewest_5 : decode cX2_fewest 5 = .ok (.iconst 1, 1) := by decide +kernel
theorem dX2_fewest_6 : decode cX2_fewest 6 = .ok (.invokestatic 71, 3) := by decide +kernel
theorem dX2_fewest_9 : decode cX2_fewest 9 = .ok (.aload_n 0, 1) := by decide +kernel
theorem dX2_fewest_10 : decode cX2_fewest 10 = .ok (.getfield 18, 3) := by decide +kernel
theorem dX2_fewest_13 : decode cX2_fewest 13 = .ok (.iconst 0, 1) := by decide +kernel
theorem dX2_fewest_14 : decode cX2_fewest 14 = .ok (.iconst 1, 1) := by decide +kernel
theorem dX2_fewest_15 : decode cX2_fewest 15 = .ok (.invokestatic 71, 3) := by decide +kernel
theorem dX2_fewest_18 : decode cX2_fewest 18 = .ok (.iconst 1, 1) := by decide +kernel
theorem dX2_fewest_19 : decode cX2_fewest 19 = .ok (.istore_n 3, 1) := by decide +kernel
theorem dX2_fewest_20 : decode cX2_fewest 20 = .ok (.iload_n 3, 1) := by decide +kernel
theorem dX2_fewest_21 : decode cX2_fewest 21 = .ok (.iload_n 1, 1) := by decide +kernel
theorem dX2_fewest_22 : decode cX2_fewest 22 = .ok (.if_icmp .ge 120, 3) := by decide +kernel
theorem dX2_fewest_25 : decode cX2_fewest 25 = .ok (.iload_n 3, 1) := by decide +kernel
theorem dX2_fewest_26 : decode cX2_fewest 26 = .ok (.iconst 1, 1) := by decide +kernel
theorem dX2_fewest_27 : decode cX2_fewest 27 = .ok (.isub, 1) := by decide +kernel
theorem dX2_fewest_28 : decode cX2_fewest 28 = .ok (.istore 4, 2) := by decide +kernel
theorem dX2_fewest_30 : decode cX2_fewest 30 = .ok (.bipush 25, 2) := by decide +kernel
theorem dX2_fewest_32 : decode cX2_fewest 32 = .ok (.istore 5, 2) := by decide +kernel
theorem dX2_fewest_34 : decode cX2_fewest 34 = .ok (.iconst 0, 1) := by decide +kernel
theorem dX2_fewest_35 : decode cX2_fewest 35 = .ok (.istore 6, 2) := by decide +kernel
theorem dX2_fewest_37 : decode cX2_fewest 37 = .ok (.iload 6, 2) := by decide +kernel
theorem dX2_fewest_39 : decode cX2_fewest 39 = .ok (.iload_n 3, 1) := by decide +kernel
theorem dX2_fewest_40 : decode cX2_fewest 40 = .ok (.if_icmp .ge 56, 3) := by decide +kernel
theorem dX2_fewest_43 : decode cX2_fewest 43 = .ok (.aload_n 0, 1) := by decide +kernel
theorem dX2_fewest_44 : decode cX2_fewest 44 = .ok (.getfield 9, 3) := by decide +kernel
theorem dX2_fewest_47 : decode cX2_fewest 47 = .ok (.iload 6, 2) := by decide +kernel
theorem dX2_fewest_49 : decode cX2_fewest 49 = .ok (.bipush 24, 2) := by decide +kernel
theorem dX2_fewest_51 : decode cX2_fewest 51 = .ok (.imul, 1) := by decide +kernel
theorem dX2_fewest_52 : decode cX2_fewest 52 = .ok (.iload_n 3, 1) := by decide +kernel
theorem dX2_fewest_53 : decode cX2_fewest 53 = .ok (.iadd, 1) := by decide +kernel
theorem dX2_fewest_54 : decode cX2_fewest 54 = .ok (.invokestatic 75, 3) := by decide +kernel
theorem dX2_fewest_57 : decode cX2_fewest 57 = .ok (.iload_n 2, 1) := by decide +kernel
theorem dX2_fewest_58 : decode cX2_fewest 58 = .ok (.if_icmp .gt 32, 3) := by decide +kernel
theorem dX2_fewest_61 : decode cX2_fewest 61 = .ok (.aload_n 0, 1) := by decide +kernel
theorem dX2_fewest_62 : decode cX2_fewest 62 = .ok (.getfield 15, 3) := by decide +kernel
theorem dX2_fewest_65 : decode cX2_fewest 65 = .ok (.iload 6, 2) := by decide +kernel
theorem dX2_fewest_67 : decode cX2_fewest 67 = .ok (.invokestatic 75, 3) := by decide +kernel
theorem dX2_fewest_70 : decode cX2_fewest 70 = .ok (.iload 5, 2) := by decide +kernel
theorem dX2_fewest_72 : decode cX2_fewest 72 = .ok (.if_icmp .ge 18, 3) := by decide +kernel
theorem dX2_fewest_75 : decode cX2_fewest 75 = .ok (.aload_n 0, 1) := by decide +kernel
theorem dX2_fewest_76 : decode cX2_fewest 76 = .ok (.getfield 15, 3) := by decide +kernel
theorem dX2_fewest_79 : decode cX2_fewest 79 = .ok (.iload 6, 2) := by decide +kernel
theorem dX2_fewest_81 : decode cX2_fewest 81 = .ok (.invokestatic 75, 3) := by decide +kernel
theorem dX2_fewest_84 : decode cX2_fewest 84 = .ok (.istore 5, 2) := by decide +kernel
theorem dX2_fewest_86 : decode cX2_fewest 86 = .ok (.iload 6, 2) := by decide +kernel
theorem dX2_fewest_88 : decode cX2_fewest 88 = .ok (.istore 4, 2) := by decide +kernel
theorem dX2_fewest_90 : decode cX2_fewest 90 = .ok (.iinc 6 1, 3) := by decide +kernel
theorem dX2_fewest_93 : decode cX2_fewest 93 = .ok (.goto (-56), 3) := by decide +kernel
theorem dX2_fewest_96 : decode cX2_fewest 96 = .ok (.aload_n 0, 1) := by decide +kernel
theorem dX2_fewest_97 : decode cX2_fewest 97 = .ok (.getfield 15, 3) := by decide +kernel
theorem dX2_fewest_100 : decode cX2_fewest 100 = .ok (.iload_n 3, 1) := by decide +kernel
theorem dX2_fewest_101 : decode cX2_fewest 101 = .ok (.aload_n 0, 1) := by decide +kernel
theorem dX2_fewest_102 : decode cX2_fewest 102 = .ok (.getfield 15, 3) := by decide +kernel
theorem dX2_fewest_105 : decode cX2_fewest 105 = .ok (.iload 4, 2) := by decide +kernel
theorem dX2_fewest_107 : decode cX2_fewest 107 = .ok (.invokestatic 75, 3) := by decide +kernel
theorem dX2_fewest_110 : decode cX2_fewest 110 = .ok (.iconst 1, 1) := by decide +kernel
theorem dX2_fewest_111 : decode cX2_fewest 111 = .ok (.iadd, 1) := by decide +kernel
theorem dX2_fewest_112 : decode cX2_fewest 112 = .ok (.invokestatic 71, 3) := by decide +kernel
theorem dX2_fewest_115 : decode cX2_fewest 115 = .ok (.aload_n 0, 1) := by decide +kernel
theorem dX2_fewest_116 : decode cX2_fewest 116 = .ok (.getfield 18, 3) := by decide +kernel
theorem dX2_fewest_119 : decode cX2_fewest 119 = .ok (.iload_n 3, 1) := by decide +kernel
theorem dX2_fewest_120 : decode cX2_fewest 120 = .ok (.aload_n 0, 1) := by decide +kernel
theorem dX2_fewest_121 : decode cX2_fewest 121 = .ok (.getfield 18, 3) := by decide +kernel
theorem dX2_fewest_124 : decode cX2_fewest 124 = .ok (.iload 4, 2) := by decide +kernel
theorem dX2_fewest_126 : decode cX2_fewest 126 = .ok (.invokestatic 75, 3) := by decide +kernel
theorem dX2_fewest_129 : decode cX2_fewest 129 = .ok (.iconst 1, 1) := by decide +kernel
theorem dX2_fewest_130 : decode cX2_fewest 130 = .ok (.iload_n 3, 1) := by decide +kernel
theorem dX2_fewest_131 : decode cX2_fewest 131 = .ok (.ishl, 1) := by decide +kernel
theorem dX2_fewest_132 : decode cX2_fewest 132 = .ok (.ior, 1) := by decide +kernel
theorem dX2_fewest_133 : decode cX2_fewest 133 = .ok (.invokestatic 71, 3) := by decide +kernel
theorem dX2_fewest_136 : decode cX2_fewest 136 = .ok (.iinc 3 1, 3) := by decide +kernel
theorem dX2_fewest_139 : decode cX2_fewest 139 = .ok (.goto (-119), 3) := by decide +kernel
theorem dX2_fewest_142 : decode cX2_fewest 142 = .ok (.aload_n 0, 1) := by decide +kernel
theorem dX2_fewest_143 : decode cX2_fewest 143 = .ok (.getfield 18, 3) := by decide +kernel
theorem dX2_fewest_146 : decode cX2_fewest 146 = .ok (.iload_n 1, 1) := by decide +kernel
theorem dX2_fewest_147 : decode cX2_fewest 147 = .ok (.iconst 1, 1) := by decide +kernel
theorem dX2_fewest_148 : decode cX2_fewest 148 = .ok (.isub, 1) := by decide +kernel
theorem dX2_fewest_149 : decode cX2_fewest 149 = .ok (.invokestatic 75, 3) := by decide +kernel
theorem dX2_fewest_152 : decode cX2_fewest 152 = .ok (.ireturn, 1) := by decide +kernel
