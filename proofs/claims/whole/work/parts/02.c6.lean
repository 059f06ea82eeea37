theorem dX6_init_0 : decode cX6_init 0 = .ok (.aload_n 0, 1) := by decide +kernel
theorem dX6_init_1 : decode cX6_init 1 = .ok (.invokespecial 1, 3) := by decide +kernel
theorem dX6_init_4 : decode cX6_init 4 = .ok (.aload_n 0, 1) := by decide +kernel
theorem dX6_init_5 : decode cX6_init 5 = .ok (.sipush 303, 3) := by decide +kernel
theorem dX6_init_8 : decode cX6_init 8 = .ok (.newarray .int, 2) := by decide +kernel
theorem dX6_init_10 : decode cX6_init 10 = .ok (.putfield 7, 3) := by decide +kernel
theorem dX6_init_13 : decode cX6_init 13 = .ok (.aload_n 0, 1) := by decide +kernel
theorem dX6_init_14 : decode cX6_init 14 = .ok (.sipush 1818, 3) := by decide +kernel
theorem dX6_init_17 : decode cX6_init 17 = .ok (.newarray .int, 2) := by decide +kernel
theorem dX6_init_19 : decode cX6_init 19 = .ok (.putfield 13, 3) := by decide +kernel
theorem dX6_init_22 : decode cX6_init 22 = .ok (.aload_n 0, 1) := by decide +kernel
theorem dX6_init_23 : decode cX6_init 23 = .ok (.sipush 606, 3) := by decide +kernel
theorem dX6_init_26 : decode cX6_init 26 = .ok (.newarray .int, 2) := by decide +kernel
theorem dX6_init_28 : decode cX6_init 28 = .ok (.putfield 16, 3) := by decide +kernel
theorem dX6_init_31 : decode cX6_init 31 = .ok (.aload_n 0, 1) := by decide +kernel
theorem dX6_init_32 : decode cX6_init 32 = .ok (.iconst 2, 1) := by decide +kernel
theorem dX6_init_33 : decode cX6_init 33 = .ok (.newarray .boolean, 2) := by decide +kernel
theorem dX6_init_35 : decode cX6_init 35 = .ok (.putfield 19, 3) := by decide +kernel
theorem dX6_init_38 : decode cX6_init 38 = .ok (.aload_n 0, 1) := by decide +kernel
theorem dX6_init_39 : decode cX6_init 39 = .ok (.bipush 70, 2) := by decide +kernel
theorem dX6_init_41 : decode cX6_init 41 = .ok (.newarray .int, 2) := by decide +kernel
theorem dX6_init_43 : decode cX6_init 43 = .ok (.putfield 23, 3) := by decide +kernel
theorem dX6_init_46 : decode cX6_init 46 = .ok (.aload_n 0, 1) := by decide +kernel
theorem dX6_init_47 : decode cX6_init 47 = .ok (.bipush 24, 2) := by decide +kernel
theorem dX6_init_49 : decode cX6_init 49 = .ok (.newarray .int, 2) := by decide +kernel
theorem dX6_init_51 : decode cX6_init 51 = .ok (.putfield 26, 3) := by decide +kernel
theorem dX6_init_54 : decode cX6_init 54 = .ok (.aload_n 0, 1) := by decide +kernel
theorem dX6_init_55 : decode cX6_init 55 = .ok (.bipush 24, 2) := by decide +kernel
theorem dX6_init_57 : decode cX6_init 57 = .ok (.newarray .int, 2) := by decide +kernel
theorem dX6_init_59 : decode cX6_init 59 = .ok (.putfield 29, 3) := by decide +kernel
theorem dX6_init_62 : decode cX6_init 62 = .ok (.aload_n 0, 1) := by decide +kernel
theorem dX6_init_63 : decode cX6_init 63 = .ok (.bipush 72, 2) := by decide +kernel
theorem dX6_init_65 : decode cX6_init 65 = .ok (.newarray .int, 2) := by decide +kernel
theorem dX6_init_67 : decode cX6_init 67 = .ok (.putfield 32, 3) := by decide +kernel
theorem dX6_init_70 : decode cX6_init 70 = .ok (.aload_n 0, 1) := by decide +kernel
theorem dX6_init_71 : decode cX6_init 71 = .ok (.getfield 7, 3) := by decide +kernel
theorem dX6_init_74 : decode cX6_init 74 = .ok (.sipush 297, 3) := by decide +kernel
theorem dX6_init_77 : decode cX6_init 77 = .ok (.iconst 3, 1) := by decide +kernel
theorem dX6_init_78 : decode cX6_init 78 = .ok (.iastore, 1) := by decide +kernel
theorem dX6_init_79 : decode cX6_init 79 = .ok (.aload_n 0, 1) := by decide +kernel
theorem dX6_init_80 : decode cX6_init 80 = .ok (.getfield 7, 3) := by decide +kernel
theorem dX6_init_83 : decode cX6_init 83 = .ok (.sipush 298, 3) := by decide +kernel
theorem dX6_init_86 : decode cX6_init 86 = .ok (.bipush 50, 2) := by decide +kernel
theorem dX6_init_88 : decode cX6_init 88 = .ok (.iastore, 1) := by decide +kernel
theorem dX6_init_89 : decode cX6_init 89 = .ok (.aload_n 0, 1) := by decide +kernel
theorem dX6_init_90 : decode cX6_init 90 = .ok (.getfield 7, 3) := by decide +kernel
theorem dX6_init_93 : decode cX6_init 93 = .ok (.sipush 299, 3) := by decide +kernel
theorem dX6_init_96 : decode cX6_init 96 = .ok (.iconst 4, 1) := by decide +kernel
theorem dX6_init_97 : decode cX6_init 97 = .ok (.iastore, 1) := by decide +kernel
theorem dX6_init_98 : decode cX6_init 98 = .ok (.aload_n 0, 1) := by decide +kernel
theorem dX6_init_99 : decode cX6_init 99 = .ok (.getfield 7, 3) := by decide +kernel
theorem dX6_init_102 : decode cX6_init 102 = .ok (.sipush 300, 3) := by decide +kernel
theorem dX6_init_105 : decode cX6_init 105 = .ok (.bipush 20, 2) := by decide +kernel
theorem dX6_init_107 : decode cX6_init 107 = .ok (.iastore, 1) := by decide +kernel
theorem dX6_init_108 : decode cX6_init 108 = .ok (.return_, 1) := by decide +kernel
theorem dX6_thrown_0 : decode cX6_thrown 0 = .ok (.aload_n 0, 1) := by decide +kernel
theorem dX6_thrown_1 : decode cX6_thrown 1 = .ok (.getfield 35, 3) := by decide +kernel
theorem dX6_thrown_4 : decode cX6_thrown 4 = .ok (.ireturn, 1) := by decide +kernel
theorem dX6_in_0 : decode cX6_in 0 = .ok (.iload_n 0, 1) := by decide +kernel
theorem dX6_in_1 : decode cX6_in 1 = .ok (.iload_n 1, 1) := by decide +kernel
theorem dX6_in_2 : decode cX6_in 2 = .ok (.if_icmp .lt 12, 3) := by decide +kernel
theorem dX6_in_5 : decode cX6_in 5 = .ok (.iload_n 0, 1) := by decide +kernel
theorem dX6_in_6 : decode cX6_in 6 = .ok (.iload_n 2, 1) := by decide +kernel
theorem dX6_in_7 : decode cX6_in 7 = .ok (.if_icmp .gt 7, 3) := by decide +kernel
theorem dX6_in_10 : decode cX6_in 10 = .ok (.iconst 1, 1) := by decide +kernel
theorem dX6_in_11 : decode cX6_in 11 = .ok (.goto 4, 3) := by decide +kernel
theorem dX6_in_14 : decode cX6_in 14 = .ok (.iconst 0, 1) := by decide +kernel
theorem dX6_in_15 : decode cX6_in 15 = .ok (.ireturn, 1) := by decide +kernel
set_option maxRecDepth 20000 in
theorem ggX6_isStroke_X6_in : GoodIn wsX6_isStroke wsX6_in := goodIn_r _ [5] (by decide +kernel) (by decide +kernel)
set_option maxRecDepth 20000 in
theorem gX6_isStroke_X6_in : GoodIn wsX6_isStroke (va_wsS RX6 39 yX6_in wsX6_in) := goodIn_app (goodIn_of _ (by decide +kernel)) ggX6_isStroke_X6_in
theorem dX6_isStroke_0 : decode cX6_isStroke 0 = .ok (.iload_n 1, 1) := by decide +kernel
theorem dX6_isStroke_1 : decode cX6_isStroke 1 = .ok (.iconst 0, 1) := by decide +kernel
theorem dX6_isStroke_2 : decode cX6_isStroke 2 = .ok (.aload_n 0, 1) := by decide +kernel
theorem dX6_isStroke_3 : decode cX6_isStroke 3 = .ok (.getfield 7, 3) := by decide +kernel
theorem dX6_isStroke_6 : decode cX6_isStroke 6 = .ok (.sipush 296, 3) := by decide +kernel
theorem dX6_isStroke_9 : decode cX6_isStroke 9 = .ok (.iaload, 1) := by decide +kernel
theorem dX6_isStroke_10 : decode cX6_isStroke 10 = .ok (.iconst 1, 1) := by decide +kernel
theorem dX6_isStroke_11 : decode cX6_isStroke 11 = .ok (.isub, 1) := by decide +kernel
theorem dX6_isStroke_12 : decode cX6_isStroke 12 = .ok (.invokestatic 39, 3) := by decide +kernel
theorem dX6_isStroke_15 : decode cX6_isStroke 15 = .ok (.ireturn, 1) := by decide +kernel
theorem dX6_points_0 : decode cX6_points 0 = .ok (.aload_n 0, 1) := by decide +kernel
theorem dX6_points_1 : decode cX6_points 1 = .ok (.getfield 7, 3) := by decide +kernel
theorem dX6_points_4 : decode cX6_points 4 = .ok (.bipush 74, 2) := by decide +kernel
theorem dX6_points_6 : decode cX6_points 6 = .ok (.iload_n 1, 1) := by decide +kernel
theorem dX6_points_7 : decode cX6_points 7 = .ok (.imul, 1) := by decide +kernel
theorem dX6_points_8 : decode cX6_points 8 = .ok (.iaload, 1) := by decide +kernel
theorem dX6_points_9 : decode cX6_points 9 = .ok (.ireturn, 1) := by decide +kernel
theorem dX6_keptOf_0 : decode cX6_keptOf 0 = .ok (.aload_n 0, 1) := by decide +kernel
theorem dX6_keptOf_1 : decode cX6_keptOf 1 = .ok (.getfield 7, 3) := by decide +kernel
theorem dX6_keptOf_4 : decode cX6_keptOf 4 = .ok (.bipush 74, 2) := by decide +kernel
theorem dX6_keptOf_6 : decode cX6_keptOf 6 = .ok (.iload_n 1, 1) := by decide +kernel
theorem dX6_keptOf_7 : decode cX6_keptOf 7 = .ok (.imul, 1) := by decide +kernel
theorem dX6_keptOf_8 : decode cX6_keptOf 8 = .ok (.iconst 1, 1) := by decide +kernel
theorem dX6_keptOf_9 : decode cX6_keptOf 9 = .ok (.iadd, 1) := by decide +kernel
theorem dX6_keptOf_10 : decode cX6_keptOf 10 = .ok (.iaload, 1) := by decide +kernel
theorem dX6_keptOf_11 : decode cX6_keptOf 11 = .ok (.ireturn, 1) := by decide +kernel
set_option maxRecDepth 20000 in
theorem ggX6_isPoint_X6_isStroke : GoodIn wsX6_isPoint wsX6_isStroke := goodIn_r _ [5, 6, 7, 8, 4, 9, 14, 15, 16, 17, 18, 19, 20, 21, 22, 23, 24, 25, 26, 27, 28, 29] (by decide +kernel) (by decide +kernel)
set_option maxRecDepth 20000 in
theorem gX6_isPoint_X6_isStroke : GoodIn wsX6_isPoint (wsV RX6 43 RX6 yX6_isStroke wsX6_isStroke) := goodIn_app (goodIn_of _ (by decide +kernel)) ggX6_isPoint_X6_isStroke
set_option maxRecDepth 20000 in
theorem ggX6_isPoint_X6_points : GoodIn wsX6_isPoint wsX6_points := goodIn_r _ [13, 6, 14, 15, 16, 17, 18, 19, 20, 21, 22, 23, 24, 25, 26, 27, 28, 29] (by decide +kernel) (by decide +kernel)
set_option maxRecDepth 20000 in
theorem gX6_isPoint_X6_points : GoodIn wsX6_isPoint (wsV RX6 47 RX6 yX6_points wsX6_points) := goodIn_app (goodIn_of _ (by decide +kernel)) ggX6_isPoint_X6_points
set_option maxRecDepth 20000 in
theorem ggX6_isPoint_X6_in : GoodIn wsX6_isPoint wsX6_in := goodIn_r _ [9] (by decide +kernel) (by decide +kernel)
set_option maxRecDepth 20000 in
theorem gX6_isPoint_X6_in : GoodIn wsX6_isPoint (va_wsS RX6 39 yX6_in wsX6_in) := goodIn_app (goodIn_of _ (by decide +kernel)) ggX6_isPoint_X6_in
theorem dX6_isPoint_0 : decode cX6_isPoint 0 = .ok (.aload_n 0, 1) := by decide +kernel
theorem dX6_isPoint_1 : decode cX6_isPoint 1 = .ok (.iload_n 1, 1) := by decide +kernel
theorem dX6_isPoint_2 : decode cX6_isPoint 2 = .ok (.invokevirtual 43, 3) := by decide +kernel
theorem dX6_isPoint_5 : decode cX6_isPoint 5 = .ok (.ifCond .eq 22, 3) := by decide +kernel
theorem dX6_isPoint_8 : decode cX6_isPoint 8 = .ok (.iload_n 2, 1) := by decide +kernel
theorem dX6_isPoint_9 : decode cX6_isPoint 9 = .ok (.iconst 0, 1) := by decide +kernel
theorem dX6_isPoint_10 : decode cX6_isPoint 10 = .ok (.aload_n 0, 1) := by decide +kernel
theorem dX6_isPoint_11 : decode cX6_isPoint 11 = .ok (.iload_n 1, 1) := by decide +kernel
theorem dX6_isPoint_12 : decode cX6_isPoint 12 = .ok (.invokevirtual 47, 3) := by decide +kernel
theorem dX6_isPoint_15 : decode cX6_isPoint 15 = .ok (.iconst 1, 1) := by decide +kernel
theorem dX6_isPoint_16 : decode cX6_isPoint 16 = .ok (.isub, 1) := by decide +kernel
theorem dX6_isPoint_17 : decode cX6_isPoint 17 = .ok (.invokestatic 39, 3) := by decide +kernel
theorem dX6_isPoint_20 : decode cX6_isPoint 20 = .ok (.ifCond .eq 7, 3) := by decide +kernel
theorem dX6_isPoint_23 : decode cX6_isPoint 23 = .ok (.iconst 1, 1) := by decide +kernel
theorem dX6_isPoint_24 : decode cX6_isPoint 24 = .ok (.goto 4, 3) := by decide +kernel
theorem dX6_isPoint_27 : decode cX6_isPoint 27 = .ok (.iconst 0, 1) := by decide +kernel
theorem dX6_isPoint_28 : decode cX6_isPoint 28 = .ok (.ireturn, 1) := by decide +kernel
theorem dX6_of_0 : decode cX6_of 0 = .ok (.aload_n 0, 1) := by decide +kernel
theorem dX6_of_1 : decode cX6_of 1 = .ok (.getfield 7, 3) := by decide +kernel
theorem dX6_of_4 : decode cX6_of 4 = .ok (.bipush 74, 2) := by decide +kernel
theorem dX6_of_6 : decode cX6_of 6 = .ok (.iload_n 1, 1) := by decide +kernel
theorem dX6_of_7 : decode cX6_of 7 = .ok (.imul, 1) := by decide +kernel
theorem dX6_of_8 : decode cX6_of 8 = .ok (.iconst 2, 1) := by decide +kernel
theorem dX6_of_9 : decode cX6_of 9 = .ok (.iadd, 1) := by decide +kernel
theorem dX6_of_10 : decode cX6_of 10 = .ok (.iconst 3, 1) := by decide +kernel
theorem dX6_of_11 : decode cX6_of 11 = .ok (.iload_n 2, 1) := by decide +kernel
theorem dX6_of_12 : decode cX6_of 12 = .ok (.imul, 1) := by decide +kernel
theorem dX6_of_13 : decode cX6_of 13 = .ok (.iadd, 1) := by decide +kernel
theorem dX6_of_14 : decode cX6_of 14 = .ok (.iload_n 3, 1) := by decide +kernel
theorem dX6_of_15 : decode cX6_of 15 = .ok (.iadd, 1) := by decide +kernel
theorem dX6_of_16 : decode cX6_of 16 = .ok (.iaload, 1) := by decide +kernel
theorem dX6_of_17 : decode cX6_of 17 = .ok (.ireturn, 1) := by decide +kernel
theorem dX6_put_0 : decode cX6_put 0 = .ok (.bipush 74, 2) := by decide +kernel
theorem dX6_put_2 : decode cX6_put 2 = .ok (.iload_n 1, 1) := by decide +kernel
theorem dX6_put_3 : decode cX6_put 3 = .ok (.imul, 1) := by decide +kernel
theorem dX6_put_4 : decode cX6_put 4 = .ok (.iconst 2, 1) := by decide +kernel
theorem dX6_put_5 : decode cX6_put 5 = .ok (.iadd, 1) := by decide +kernel
theorem dX6_put_6 : decode cX6_put 6 = .ok (.iconst 3, 1) := by decide +kernel
theorem dX6_put_7 : decode cX6_put 7 = .ok (.iload_n 2, 1) := by decide +kernel
theorem dX6_put_8 : decode cX6_put 8 = .ok (.imul, 1) := by decide +kernel
theorem dX6_put_9 : decode cX6_put 9 = .ok (.iadd, 1) := by decide +kernel
theorem dX6_put_10 : decode cX6_put 10 = .ok (.istore 6, 2) := by decide +kernel
theorem dX6_put_12 : decode cX6_put 12 = .ok (.aload_n 0, 1) := by decide +kernel
theorem dX6_put_13 : decode cX6_put 13 = .ok (.getfield 7, 3) := by decide +kernel
theorem dX6_put_16 : decode cX6_put 16 = .ok (.iload 6, 2) := by decide +kernel
theorem dX6_put_18 : decode cX6_put 18 = .ok (.iload_n 3, 1) := by decide +kernel
theorem dX6_put_19 : decode cX6_put 19 = .ok (.iastore, 1) := by decide +kernel
theorem dX6_put_20 : decode cX6_put 20 = .ok (.aload_n 0, 1) := by decide +kernel
theorem dX6_put_21 : decode cX6_put 21 = .ok (.getfield 7, 3) := by decide +kernel
theorem dX6_put_24 : decode cX6_put 24 = .ok (.iload 6, 2) := by decide +kernel
theorem dX6_put_26 : decode cX6_put 26 = .ok (.iconst 1, 1) := by decide +kernel
theorem dX6_put_27 : decode cX6_put 27 = .ok (.iadd, 1) := by decide +kernel
theorem dX6_put_28 : decode cX6_put 28 = .ok (.iload 4, 2) := by decide +kernel
theorem dX6_put_30 : decode cX6_put 30 = .ok (.iastore, 1) := by decide +kernel
theorem dX6_put_31 : decode cX6_put 31 = .ok (.aload_n 0, 1) := by decide +kernel
theorem dX6_put_32 : decode cX6_put 32 = .ok (.getfield 7, 3) := by decide +kernel
theorem dX6_put_35 : decode cX6_put 35 = .ok (.iload 6, 2) := by decide +kernel
theorem dX6_put_37 : decode cX6_put 37 = .ok (.iconst 2, 1) := by decide +kernel
theorem dX6_put_38 : decode cX6_put 38 = .ok (.iadd, 1) := by decide +kernel
theorem dX6_put_39 : decode cX6_put 39 = .ok (.iload 5, 2) := by decide +kernel
theorem dX6_put_41 : decode cX6_put 41 = .ok (.iastore, 1) := by decide +kernel
theorem dX6_put_42 : decode cX6_put 42 = .ok (.return_, 1) := by decide +kernel
theorem dX6_ones_0 : decode cX6_ones 0 = .ok (.iconst 0, 1) := by decide +kernel
theorem dX6_ones_1 : decode cX6_ones 1 = .ok (.istore_n 1, 1) := by decide +kernel
theorem dX6_ones_2 : decode cX6_ones 2 = .ok (.iconst 0, 1) := by decide +kernel
theorem dX6_ones_3 : decode cX6_ones 3 = .ok (.istore_n 2, 1) := by decide +kernel
theorem dX6_ones_4 : decode cX6_ones 4 = .ok (.iload_n 2, 1) := by decide +kernel
theorem dX6_ones_5 : decode cX6_ones 5 = .ok (.bipush 24, 2) := by decide +kernel
theorem dX6_ones_7 : decode cX6_ones 7 = .ok (.if_icmp .ge 17, 3) := by decide +kernel
theorem dX6_ones_10 : decode cX6_ones 10 = .ok (.iload_n 1, 1) := by decide +kernel
theorem dX6_ones_11 : decode cX6_ones 11 = .ok (.iload_n 0, 1) := by decide +kernel
theorem dX6_ones_12 : decode cX6_ones 12 = .ok (.iload_n 2, 1) := by decide +kernel
theorem dX6_ones_13 : decode cX6_ones 13 = .ok (.ishr, 1) := by decide +kernel
theorem dX6_ones_14 : decode cX6_ones 14 = .ok (.iconst 1, 1) := by decide +kernel
theorem dX6_ones_15 : decode cX6_ones 15 = .ok (.iand, 1) := by decide +kernel
theorem dX6_ones_16 : decode cX6_ones 16 = .ok (.iadd, 1) := by decide +kernel
theorem dX6_ones_17 : decode cX6_ones 17 = .ok (.istore_n 1, 1) := by decide +kernel
theorem dX6_ones_18 : decode cX6_ones 18 = .ok (.iinc 2 1, 3) := by decide +kernel
theorem dX6_ones_21 : decode cX6_ones 21 = .ok (.goto (-17), 3) := by decide +kernel
theorem dX6_ones_24 : decode cX6_ones 24 = .ok (.iload_n 1, 1) := by decide +kernel
theorem dX6_ones_25 : decode cX6_ones 25 = .ok (.ireturn, 1) := by decide +kernel
theorem dX6_has_0 : decode cX6_has 0 = .ok (.iload_n 0, 1) := by decide +kernel
theorem dX6_has_1 : decode cX6_has 1 = .ok (.iload_n 1, 1) := by decide +kernel
theorem dX6_has_2 : decode cX6_has 2 = .ok (.ishr, 1) := by decide +kernel
theorem dX6_has_3 : decode cX6_has 3 = .ok (.iconst 1, 1) := by decide +kernel
theorem dX6_has_4 : decode cX6_has 4 = .ok (.iand, 1) := by decide +kernel
theorem dX6_has_5 : decode cX6_has 5 = .ok (.iconst 1, 1) := by decide +kernel
theorem dX6_has_6 : decode cX6_has 6 = .ok (.if_icmp .ne 7, 3) := by decide +kernel
theorem dX6_has_9 : decode cX6_has 9 = .ok (.iconst 1, 1) := by decide +kernel
theorem dX6_has_10 : decode cX6_has 10 = .ok (.goto 4, 3) := by decide +kernel
theorem dX6_has_13 : decode cX6_has 13 = .ok (.iconst 0, 1) := by decide +kernel
theorem dX6_has_14 : decode cX6_has 14 = .ok (.ireturn, 1) := by decide +kernel
set_option maxRecDepth 20000 in
theorem ggX6_all_X6_points : GoodIn wsX6_all wsX6_points := goodIn_r _ [5, 6, 7, 8, 9, 10, 11, 12, 13, 14, 15, 16, 17, 18, 19, 20, 21, 22] (by decide +kernel) (by decide +kernel)
set_option maxRecDepth 20000 in
theorem gX6_all_X6_points : GoodIn wsX6_all (wsV RX6 47 RX6 yX6_points wsX6_points) := goodIn_app (goodIn_of _ (by decide +kernel)) ggX6_all_X6_points
theorem dX6_all_0 : decode cX6_all 0 = .ok (.iconst 1, 1) := by decide +kernel
theorem dX6_all_1 : decode cX6_all 1 = .ok (.aload_n 0, 1) := by decide +kernel
theorem dX6_all_2 : decode cX6_all 2 = .ok (.iload_n 1, 1) := by decide +kernel
theorem dX6_all_3 : decode cX6_all 3 = .ok (.invokevirtual 47, 3) := by decide +kernel
theorem dX6_all_6 : decode cX6_all 6 = .ok (.ishl, 1) := by decide +kernel
theorem dX6_all_7 : decode cX6_all 7 = .ok (.iconst 1, 1) := by decide +kernel
theorem dX6_all_8 : decode cX6_all 8 = .ok (.isub, 1) := by decide +kernel
theorem dX6_all_9 : decode cX6_all 9 = .ok (.ireturn, 1) := by decide +kernel
set_option maxRecDepth 20000 in
theorem ggX6_keepAll_X6_all : GoodIn wsX6_keepAll wsX6_all := goodIn_r _ [6, 7, 8, 9, 5, 10, 1, 11, 12, 13, 14, 15, 16, 17, 18, 19, 20, 21, 22, 23, 24, 25, 26] (by decide +kernel) (by decide +kernel)
set_option maxRecDepth 20000 in
theorem gX6_keepAll_X6_all : GoodIn wsX6_keepAll (wsV RX6 51 RX6 yX6_all wsX6_all) := goodIn_app (goodIn_of _ (by decide +kernel)) ggX6_keepAll_X6_all
theorem dX6_keepAll_0 : decode cX6_keepAll 0 = .ok (.aload_n 0, 1) := by decide +kernel
theorem dX6_keepAll_1 : decode cX6_keepAll 1 = .ok (.getfield 7, 3) := by decide +kernel
theorem dX6_keepAll_4 : decode cX6_keepAll 4 = .ok (.bipush 74, 2) := by decide +kernel
theorem dX6_keepAll_6 : decode cX6_keepAll 6 = .ok (.iload_n 1, 1) := by decide +kernel
theorem dX6_keepAll_7 : decode cX6_keepAll 7 = .ok (.imul, 1) := by decide +kernel
theorem dX6_keepAll_8 : decode cX6_keepAll 8 = .ok (.iconst 1, 1) := by decide +kernel
theorem dX6_keepAll_9 : decode cX6_keepAll 9 = .ok (.iadd, 1) := by decide +kernel
theorem dX6_keepAll_10 : decode cX6_keepAll 10 = .ok (.aload_n 0, 1) := by decide +kernel
theorem dX6_keepAll_11 : decode cX6_keepAll 11 = .ok (.iload_n 1, 1) := by decide +kernel
theorem dX6_keepAll_12 : decode cX6_keepAll 12 = .ok (.invokevirtual 51, 3) := by decide +kernel
theorem dX6_keepAll_15 : decode cX6_keepAll 15 = .ok (.iastore, 1) := by decide +kernel
theorem dX6_keepAll_16 : decode cX6_keepAll 16 = .ok (.return_, 1) := by decide +kernel
set_option maxRecDepth 20000 in
theorem ggX6_behind_X6_has : GoodIn wsX6_behind wsX6_has := goodIn_r _ [4] (by decide +kernel) (by decide +kernel)
set_option maxRecDepth 20000 in
theorem gX6_behind_X6_has : GoodIn wsX6_behind (va_wsS RX6 54 yX6_has wsX6_has) := goodIn_app (goodIn_of _ (by decide +kernel)) ggX6_behind_X6_has
theorem dX6_behind_0 : decode cX6_behind 0 = .ok (.iload_n 1, 1) := by decide +kernel
theorem dX6_behind_1 : decode cX6_behind 1 = .ok (.iconst 1, 1) := by decide +kernel
theorem dX6_behind_2 : decode cX6_behind 2 = .ok (.iadd, 1) := by decide +kernel
theorem dX6_behind_3 : decode cX6_behind 3 = .ok (.istore_n 2, 1) := by decide +kernel
theorem dX6_behind_4 : decode cX6_behind 4 = .ok (.iload_n 0, 1) := by decide +kernel
theorem dX6_behind_5 : decode cX6_behind 5 = .ok (.iload_n 2, 1) := by decide +kernel
theorem dX6_behind_6 : decode cX6_behind 6 = .ok (.invokestatic 54, 3) := by decide +kernel
theorem dX6_behind_9 : decode cX6_behind 9 = .ok (.ifCond .ne 9, 3) := by decide +kernel
theorem dX6_behind_12 : decode cX6_behind 12 = .ok (.iinc 2 1, 3) := by decide +kernel
theorem dX6_behind_15 : decode cX6_behind 15 = .ok (.goto (-11), 3) := by decide +kernel
theorem dX6_behind_18 : decode cX6_behind 18 = .ok (.iload_n 2, 1) := by decide +kernel
theorem dX6_behind_19 : decode cX6_behind 19 = .ok (.ireturn, 1) := by decide +kernel
set_option maxRecDepth 20000 in
theorem ggX6_ahead_X6_has : GoodIn wsX6_ahead wsX6_has := goodIn_r _ [4] (by decide +kernel) (by decide +kernel)
set_option maxRecDepth 20000 in
theorem gX6_ahead_X6_has : GoodIn wsX6_ahead (va_wsS RX6 54 yX6_has wsX6_has) := goodIn_app (goodIn_of _ (by decide +kernel)) ggX6_ahead_X6_has
theorem dX6_ahead_0 : decode cX6_ahead 0 = .ok (.iload_n 1, 1) := by decide +kernel
theorem dX6_ahead_1 : decode cX6_ahead 1 = .ok (.iconst 1, 1) := by decide +kernel
theorem dX6_ahead_2 : decode cX6_ahead 2 = .ok (.isub, 1) := by decide +kernel
theorem dX6_ahead_3 : decode cX6_ahead 3 = .ok (.istore_n 2, 1) := by decide +kernel
theorem dX6_ahead_4 : decode cX6_ahead 4 = .ok (.iload_n 0, 1) := by decide +kernel
theorem dX6_ahead_5 : decode cX6_ahead 5 = .ok (.iload_n 2, 1) := by decide +kernel
theorem dX6_ahead_6 : decode cX6_ahead 6 = .ok (.invokestatic 54, 3) := by decide +kernel
theorem dX6_ahead_9 : decode cX6_ahead 9 = .ok (.ifCond .ne 9, 3) := by decide +kernel
theorem dX6_ahead_12 : decode cX6_ahead 12 = .ok (.iinc 2 (-1), 3) := by decide +kernel
theorem dX6_ahead_15 : decode cX6_ahead 15 = .ok (.goto (-11), 3) := by decide +kernel
theorem dX6_ahead_18 : decode cX6_ahead 18 = .ok (.iload_n 2, 1) := by decide +kernel
theorem dX6_ahead_19 : decode cX6_ahead 19 = .ok (.ireturn, 1) := by decide +kernel
theorem dX6_root_0 : decode cX6_root 0 = .ok (.iconst 0, 1) := by decide +kernel
theorem dX6_root_1 : decode cX6_root 1 = .ok (.istore_n 2, 1) := by decide +kernel
theorem dX6_root_2 : decode cX6_root 2 = .ok (.ldc 58, 2) := by decide +kernel
theorem dX6_root_4 : decode cX6_root 4 = .ok (.istore_n 3, 1) := by decide +kernel
theorem dX6_root_5 : decode cX6_root 5 = .ok (.iload_n 3, 1) := by decide +kernel
theorem dX6_root_6 : decode cX6_root 6 = .ok (.ifCond .le 34, 3) := by decide +kernel
theorem dX6_root_9 : decode cX6_root 9 = .ok (.iload_n 2, 1) := by decide +kernel
theorem dX6_root_10 : decode cX6_root 10 = .ok (.iload_n 3, 1) := by decide +kernel
theorem dX6_root_11 : decode cX6_root 11 = .ok (.iadd, 1) := by decide +kernel
theorem dX6_root_12 : decode cX6_root 12 = .ok (.i2l, 1) := by decide +kernel
theorem dX6_root_13 : decode cX6_root 13 = .ok (.lstore 4, 2) := by decide +kernel
theorem dX6_root_15 : decode cX6_root 15 = .ok (.iload_n 2, 1) := by decide +kernel
theorem dX6_root_16 : decode cX6_root 16 = .ok (.lload 4, 2) := by decide +kernel
theorem dX6_root_18 : decode cX6_root 18 = .ok (.lload 4, 2) := by decide +kernel
theorem dX6_root_20 : decode cX6_root 20 = .ok (.lmul, 1) := by decide +kernel
theorem dX6_root_21 : decode cX6_root 21 = .ok (.lload_n 0, 1) := by decide +kernel
theorem dX6_root_22 : decode cX6_root 22 = .ok (.lcmp, 1) := by decide +kernel
theorem dX6_root_23 : decode cX6_root 23 = .ok (.ifCond .gt 7, 3) := by decide +kernel
theorem dX6_root_26 : decode cX6_root 26 = .ok (.iload_n 3, 1) := by decide +kernel
theorem dX6_root_27 : decode cX6_root 27 = .ok (.goto 4, 3) := by decide +kernel
theorem dX6_root_30 : decode cX6_root 30 = .ok (.iconst 0, 1) := by decide +kernel
theorem dX6_root_31 : decode cX6_root 31 = .ok (.iadd, 1) := by decide +kernel
theorem dX6_root_32 : decode cX6_root 32 = .ok (.istore_n 2, 1) := by decide +kernel
theorem dX6_root_33 : decode cX6_root 33 = .ok (.iload_n 3, 1) := by decide +kernel
theorem dX6_root_34 : decode cX6_root 34 = .ok (.iconst 1, 1) := by decide +kernel
theorem dX6_root_35 : decode cX6_root 35 = .ok (.ishr, 1) := by decide +kernel
theorem dX6_root_36 : decode cX6_root 36 = .ok (.istore_n 3, 1) := by decide +kernel
theorem dX6_root_37 : decode cX6_root 37 = .ok (.goto (-32), 3) := by decide +kernel
theorem dX6_root_40 : decode cX6_root 40 = .ok (.iload_n 2, 1) := by decide +kernel
theorem dX6_root_41 : decode cX6_root 41 = .ok (.ireturn, 1) := by decide +kernel
theorem dX6_record_0 : decode cX6_record 0 = .ok (.aload_n 0, 1) := by decide +kernel
theorem dX6_record_1 : decode cX6_record 1 = .ok (.getfield 59, 3) := by decide +kernel
theorem dX6_record_4 : decode cX6_record 4 = .ok (.bipush 6, 2) := by decide +kernel
theorem dX6_record_6 : decode cX6_record 6 = .ok (.if_icmp .ne 44, 3) := by decide +kernel
theorem dX6_record_9 : decode cX6_record 9 = .ok (.iconst 0, 1) := by decide +kernel
theorem dX6_record_10 : decode cX6_record 10 = .ok (.istore_n 1, 1) := by decide +kernel
theorem dX6_record_11 : decode cX6_record 11 = .ok (.iload_n 1, 1) := by decide +kernel
theorem dX6_record_12 : decode cX6_record 12 = .ok (.sipush 1515, 3) := by decide +kernel
theorem dX6_record_15 : decode cX6_record 15 = .ok (.if_icmp .ge 25, 3) := by decide +kernel
theorem dX6_record_18 : decode cX6_record 18 = .ok (.aload_n 0, 1) := by decide +kernel
theorem dX6_record_19 : decode cX6_record 19 = .ok (.getfield 13, 3) := by decide +kernel
theorem dX6_record_22 : decode cX6_record 22 = .ok (.iload_n 1, 1) := by decide +kernel
theorem dX6_record_23 : decode cX6_record 23 = .ok (.aload_n 0, 1) := by decide +kernel
theorem dX6_record_24 : decode cX6_record 24 = .ok (.getfield 13, 3) := by decide +kernel
theorem dX6_record_27 : decode cX6_record 27 = .ok (.sipush 303, 3) := by decide +kernel
theorem dX6_record_30 : decode cX6_record 30 = .ok (.iload_n 1, 1) := by decide +kernel
theorem dX6_record_31 : decode cX6_record 31 = .ok (.iadd, 1) := by decide +kernel
theorem dX6_record_32 : decode cX6_record 32 = .ok (.iaload, 1) := by decide +kernel
theorem dX6_record_33 : decode cX6_record 33 = .ok (.iastore, 1) := by decide +kernel
theorem dX6_record_34 : decode cX6_record 34 = .ok (.iinc 1 1, 3) := by decide +kernel
theorem dX6_record_37 : decode cX6_record 37 = .ok (.goto (-26), 3) := by decide +kernel
theorem dX6_record_40 : decode cX6_record 40 = .ok (.aload_n 0, 1) := by decide +kernel
theorem dX6_record_41 : decode cX6_record 41 = .ok (.dup, 1) := by decide +kernel
theorem dX6_record_42 : decode cX6_record 42 = .ok (.getfield 59, 3) := by decide +kernel
theorem dX6_record_45 : decode cX6_record 45 = .ok (.iconst 1, 1) := by decide +kernel
theorem dX6_record_46 : decode cX6_record 46 = .ok (.isub, 1) := by decide +kernel
theorem dX6_record_47 : decode cX6_record 47 = .ok (.putfield 59, 3) := by decide +kernel
theorem dX6_record_50 : decode cX6_record 50 = .ok (.iconst 0, 1) := by decide +kernel
theorem dX6_record_51 : decode cX6_record 51 = .ok (.istore_n 1, 1) := by decide +kernel
theorem dX6_record_52 : decode cX6_record 52 = .ok (.iload_n 1, 1) := by decide +kernel
theorem dX6_record_53 : decode cX6_record 53 = .ok (.sipush 303, 3) := by decide +kernel
theorem dX6_record_56 : decode cX6_record 56 = .ok (.if_icmp .ge 30, 3) := by decide +kernel
theorem dX6_record_59 : decode cX6_record 59 = .ok (.aload_n 0, 1) := by decide +kernel
theorem dX6_record_60 : decode cX6_record 60 = .ok (.getfield 13, 3) := by decide +kernel
theorem dX6_record_63 : decode cX6_record 63 = .ok (.sipush 303, 3) := by decide +kernel
theorem dX6_record_66 : decode cX6_record 66 = .ok (.aload_n 0, 1) := by decide +kernel
theorem dX6_record_67 : decode cX6_record 67 = .ok (.getfield 59, 3) := by decide +kernel
theorem dX6_record_70 : decode cX6_record 70 = .ok (.imul, 1) := by decide +kernel
theorem dX6_record_71 : decode cX6_record 71 = .ok (.iload_n 1, 1) := by decide +kernel
theorem dX6_record_72 : decode cX6_record 72 = .ok (.iadd, 1) := by decide +kernel
theorem dX6_record_73 : decode cX6_record 73 = .ok (.aload_n 0, 1) := by decide +kernel
theorem dX6_record_74 : decode cX6_record 74 = .ok (.getfield 7, 3) := by decide +kernel
theorem dX6_record_77 : decode cX6_record 77 = .ok (.iload_n 1, 1) := by decide +kernel
theorem dX6_record_78 : decode cX6_record 78 = .ok (.iaload, 1) := by decide +kernel
theorem dX6_record_79 : decode cX6_record 79 = .ok (.iastore, 1) := by decide +kernel
theorem dX6_record_80 : decode cX6_record 80 = .ok (.iinc 1 1, 3) := by decide +kernel
theorem dX6_record_83 : decode cX6_record 83 = .ok (.goto (-31), 3) := by decide +kernel
theorem dX6_record_86 : decode cX6_record 86 = .ok (.aload_n 0, 1) := by decide +kernel
theorem dX6_record_87 : decode cX6_record 87 = .ok (.dup, 1) := by decide +kernel
theorem dX6_record_88 : decode cX6_record 88 = .ok (.getfield 59, 3) := by decide +kernel
theorem dX6_record_91 : decode cX6_record 91 = .ok (.iconst 1, 1) := by decide +kernel
theorem dX6_record_92 : decode cX6_record 92 = .ok (.iadd, 1) := by decide +kernel
theorem dX6_record_93 : decode cX6_record 93 = .ok (.putfield 59, 3) := by decide +kernel
theorem dX6_record_96 : decode cX6_record 96 = .ok (.return_, 1) := by decide +kernel
theorem dX6_undo_0 : decode cX6_undo 0 = .ok (.aload_n 0, 1) := by decide +kernel
theorem dX6_undo_1 : decode cX6_undo 1 = .ok (.aload_n 0, 1) := by decide +kernel
theorem dX6_undo_2 : decode cX6_undo 2 = .ok (.getfield 59, 3) := by decide +kernel
theorem dX6_undo_5 : decode cX6_undo 5 = .ok (.ifCond .ne 7, 3) := by decide +kernel
theorem dX6_undo_8 : decode cX6_undo 8 = .ok (.iconst 1, 1) := by decide +kernel
theorem dX6_undo_9 : decode cX6_undo 9 = .ok (.goto 4, 3) := by decide +kernel
theorem dX6_undo_12 : decode cX6_undo 12 = .ok (.iconst 0, 1) := by decide +kernel
theorem dX6_undo_13 : decode cX6_undo 13 = .ok (.putfield 35, 3) := by decide +kernel
theorem dX6_undo_16 : decode cX6_undo 16 = .ok (.aload_n 0, 1) := by decide +kernel
theorem dX6_undo_17 : decode cX6_undo 17 = .ok (.getfield 35, 3) := by decide +kernel
theorem dX6_undo_20 : decode cX6_undo 20 = .ok (.ifCond .le 5, 3) := by decide +kernel
theorem dX6_undo_23 : decode cX6_undo 23 = .ok (.iconst 0, 1) := by decide +kernel
theorem dX6_undo_24 : decode cX6_undo 24 = .ok (.ireturn, 1) := by decide +kernel
theorem dX6_undo_25 : decode cX6_undo 25 = .ok (.aload_n 0, 1) := by decide +kernel
theorem dX6_undo_26 : decode cX6_undo 26 = .ok (.dup, 1) := by decide +kernel
theorem dX6_undo_27 : decode cX6_undo 27 = .ok (.getfield 59, 3) := by decide +kernel
theorem dX6_undo_30 : decode cX6_undo 30 = .ok (.iconst 1, 1) := by decide +kernel
theorem dX6_undo_31 : decode cX6_undo 31 = .ok (.isub, 1) := by decide +kernel
theorem dX6_undo_32 : decode cX6_undo 32 = .ok (.putfield 59, 3) := by decide +kernel
theorem dX6_undo_35 : decode cX6_undo 35 = .ok (.iconst 0, 1) := by decide +kernel
theorem dX6_undo_36 : decode cX6_undo 36 = .ok (.istore_n 1, 1) := by decide +kernel
theorem dX6_undo_37 : decode cX6_undo 37 = .ok (.iload_n 1, 1) := by decide +kernel
theorem dX6_undo_38 : decode cX6_undo 38 = .ok (.sipush 303, 3) := by decide +kernel
theorem dX6_undo_41 : decode cX6_undo 41 = .ok (.if_icmp .ge 30, 3) := by decide +kernel
theorem dX6_undo_44 : decode cX6_undo 44 = .ok (.aload_n 0, 1) := by decide +kernel
theorem dX6_undo_45 : decode cX6_undo 45 = .ok (.getfield 7, 3) := by decide +kernel
theorem dX6_undo_48 : decode cX6_undo 48 = .ok (.iload_n 1, 1) := by decide +kernel
theorem dX6_undo_49 : decode cX6_undo 49 = .ok (.aload_n 0, 1) := by decide +kernel
theorem dX6_undo_50 : decode cX6_undo 50 = .ok (.getfield 13, 3) := by decide +kernel
theorem dX6_undo_53 : decode cX6_undo 53 = .ok (.sipush 303, 3) := by decide +kernel
theorem dX6_undo_56 : decode cX6_undo 56 = .ok (.aload_n 0, 1) := by decide +kernel
theorem dX6_undo_57 : decode cX6_undo 57 = .ok (.getfield 59, 3) := by decide +kernel
theorem dX6_undo_60 : decode cX6_undo 60 = .ok (.imul, 1) := by decide +kernel
theorem dX6_undo_61 : decode cX6_undo 61 = .ok (.iload_n 1, 1) := by decide +kernel
theorem dX6_undo_62 : decode cX6_undo 62 = .ok (.iadd, 1) := by decide +kernel
theorem dX6_undo_63 : decode cX6_undo 63 = .ok (.iaload, 1) := by decide +kernel
theorem dX6_undo_64 : decode cX6_undo 64 = .ok (.iastore, 1) := by decide +kernel
theorem dX6_undo_65 : decode cX6_undo 65 = .ok (.iinc 1 1, 3) := by decide +kernel
theorem dX6_undo_68 : decode cX6_undo 68 = .ok (.goto (-31), 3) := by decide +kernel
theorem dX6_undo_71 : decode cX6_undo 71 = .ok (.aload_n 0, 1) := by decide +kernel
theorem dX6_undo_72 : decode cX6_undo 72 = .ok (.getfield 59, 3) := by decide +kernel
theorem dX6_undo_75 : decode cX6_undo 75 = .ok (.ireturn, 1) := by decide +kernel
set_option maxRecDepth 20000 in
theorem ggX6_keep_X6_in : GoodIn wsX6_keep wsX6_in := goodIn_r _ [8] (by decide +kernel) (by decide +kernel)
set_option maxRecDepth 20000 in
theorem gX6_keep_X6_in : GoodIn wsX6_keep (va_wsS RX6 39 yX6_in wsX6_in) := goodIn_app (goodIn_of _ (by decide +kernel)) ggX6_keep_X6_in
theorem dX6_keep_0 : decode cX6_keep 0 = .ok (.aload_n 0, 1) := by decide +kernel
theorem dX6_keep_1 : decode cX6_keep 1 = .ok (.iload_n 1, 1) := by decide +kernel
theorem dX6_keep_2 : decode cX6_keep 2 = .ok (.iconst 0, 1) := by decide +kernel
theorem dX6_keep_3 : decode cX6_keep 3 = .ok (.iconst 1, 1) := by decide +kernel
theorem dX6_keep_4 : decode cX6_keep 4 = .ok (.invokestatic 39, 3) := by decide +kernel
theorem dX6_keep_7 : decode cX6_keep 7 = .ok (.ifCond .eq 7, 3) := by decide +kernel
theorem dX6_keep_10 : decode cX6_keep 10 = .ok (.iconst 0, 1) := by decide +kernel
theorem dX6_keep_11 : decode cX6_keep 11 = .ok (.goto 4, 3) := by decide +kernel
theorem dX6_keep_14 : decode cX6_keep 14 = .ok (.iconst 1, 1) := by decide +kernel
theorem dX6_keep_15 : decode cX6_keep 15 = .ok (.putfield 35, 3) := by decide +kernel
theorem dX6_keep_18 : decode cX6_keep 18 = .ok (.aload_n 0, 1) := by decide +kernel
theorem dX6_keep_19 : decode cX6_keep 19 = .ok (.getfield 35, 3) := by decide +kernel
theorem dX6_keep_22 : decode cX6_keep 22 = .ok (.ifCond .le 5, 3) := by decide +kernel
theorem dX6_keep_25 : decode cX6_keep 25 = .ok (.iconst 0, 1) := by decide +kernel
theorem dX6_keep_26 : decode cX6_keep 26 = .ok (.ireturn, 1) := by decide +kernel
theorem dX6_keep_27 : decode cX6_keep 27 = .ok (.iconst 0, 1) := by decide +kernel
theorem dX6_keep_28 : decode cX6_keep 28 = .ok (.istore_n 2, 1) := by decide +kernel
theorem dX6_keep_29 : decode cX6_keep 29 = .ok (.iload_n 2, 1) := by decide +kernel
theorem dX6_keep_30 : decode cX6_keep 30 = .ok (.sipush 303, 3) := by decide +kernel
theorem dX6_keep_33 : decode cX6_keep 33 = .ok (.if_icmp .ge 27, 3) := by decide +kernel
theorem dX6_keep_36 : decode cX6_keep 36 = .ok (.aload_n 0, 1) := by decide +kernel
theorem dX6_keep_37 : decode cX6_keep 37 = .ok (.getfield 16, 3) := by decide +kernel
theorem dX6_keep_40 : decode cX6_keep 40 = .ok (.sipush 303, 3) := by decide +kernel
theorem dX6_keep_43 : decode cX6_keep 43 = .ok (.iload_n 1, 1) := by decide +kernel
theorem dX6_keep_44 : decode cX6_keep 44 = .ok (.imul, 1) := by decide +kernel
theorem dX6_keep_45 : decode cX6_keep 45 = .ok (.iload_n 2, 1) := by decide +kernel
theorem dX6_keep_46 : decode cX6_keep 46 = .ok (.iadd, 1) := by decide +kernel
theorem dX6_keep_47 : decode cX6_keep 47 = .ok (.aload_n 0, 1) := by decide +kernel
theorem dX6_keep_48 : decode cX6_keep 48 = .ok (.getfield 7, 3) := by decide +kernel
theorem dX6_keep_51 : decode cX6_keep 51 = .ok (.iload_n 2, 1) := by decide +kernel
theorem dX6_keep_52 : decode cX6_keep 52 = .ok (.iaload, 1) := by decide +kernel
theorem dX6_keep_53 : decode cX6_keep 53 = .ok (.iastore, 1) := by decide +kernel
theorem dX6_keep_54 : decode cX6_keep 54 = .ok (.iinc 2 1, 3) := by decide +kernel
theorem dX6_keep_57 : decode cX6_keep 57 = .ok (.goto (-28), 3) := by decide +kernel
theorem dX6_keep_60 : decode cX6_keep 60 = .ok (.aload_n 0, 1) := by decide +kernel
theorem dX6_keep_61 : decode cX6_keep 61 = .ok (.getfield 19, 3) := by decide +kernel
theorem dX6_keep_64 : decode cX6_keep 64 = .ok (.iload_n 1, 1) := by decide +kernel
theorem dX6_keep_65 : decode cX6_keep 65 = .ok (.iconst 1, 1) := by decide +kernel
theorem dX6_keep_66 : decode cX6_keep 66 = .ok (.bastore, 1) := by decide +kernel
theorem dX6_keep_67 : decode cX6_keep 67 = .ok (.aload_n 0, 1) := by decide +kernel
theorem dX6_keep_68 : decode cX6_keep 68 = .ok (.getfield 7, 3) := by decide +kernel
theorem dX6_keep_71 : decode cX6_keep 71 = .ok (.sipush 296, 3) := by decide +kernel
theorem dX6_keep_74 : decode cX6_keep 74 = .ok (.iaload, 1) := by decide +kernel
theorem dX6_keep_75 : decode cX6_keep 75 = .ok (.ireturn, 1) := by decide +kernel
set_option maxRecDepth 20000 in
theorem ggX6_goBack_X6_in : GoodIn wsX6_goBack wsX6_in := goodIn_r _ [8] (by decide +kernel) (by decide +kernel)
set_option maxRecDepth 20000 in
theorem gX6_goBack_X6_in : GoodIn wsX6_goBack (va_wsS RX6 39 yX6_in wsX6_in) := goodIn_app (goodIn_of _ (by decide +kernel)) ggX6_goBack_X6_in
set_option maxRecDepth 20000 in
theorem ggX6_goBack_X6_record : GoodIn wsX6_goBack wsX6_record := goodIn_r _ [12, 13, 14, 3, 15, 16, 17, 18, 19, 20, 21, 22, 23, 24, 25, 26, 27, 28, 29, 30] (by decide +kernel) (by decide +kernel)
set_option maxRecDepth 20000 in
theorem gX6_goBack_X6_record : GoodIn wsX6_goBack (wsV RX6 62 RX6 yX6_record wsX6_record) := goodIn_app (goodIn_of _ (by decide +kernel)) ggX6_goBack_X6_record
theorem dX6_goBack_0 : decode cX6_goBack 0 = .ok (.aload_n 0, 1) := by decide +kernel
theorem dX6_goBack_1 : decode cX6_goBack 1 = .ok (.iload_n 1, 1) := by decide +kernel
theorem dX6_goBack_2 : decode cX6_goBack 2 = .ok (.iconst 0, 1) := by decide +kernel
theorem dX6_goBack_3 : decode cX6_goBack 3 = .ok (.iconst 1, 1) := by decide +kernel
theorem dX6_goBack_4 : decode cX6_goBack 4 = .ok (.invokestatic 39, 3) := by decide +kernel
theorem dX6_goBack_7 : decode cX6_goBack 7 = .ok (.ifCond .ne 7, 3) := by decide +kernel
theorem dX6_goBack_10 : decode cX6_goBack 10 = .ok (.iconst 1, 1) := by decide +kernel
theorem dX6_goBack_11 : decode cX6_goBack 11 = .ok (.goto 17, 3) := by decide +kernel
theorem dX6_goBack_14 : decode cX6_goBack 14 = .ok (.aload_n 0, 1) := by decide +kernel
theorem dX6_goBack_15 : decode cX6_goBack 15 = .ok (.getfield 19, 3) := by decide +kernel
theorem dX6_goBack_18 : decode cX6_goBack 18 = .ok (.iload_n 1, 1) := by decide +kernel
theorem dX6_goBack_19 : decode cX6_goBack 19 = .ok (.baload, 1) := by decide +kernel
theorem dX6_goBack_20 : decode cX6_goBack 20 = .ok (.ifCond .eq 7, 3) := by decide +kernel
theorem dX6_goBack_23 : decode cX6_goBack 23 = .ok (.iconst 0, 1) := by decide +kernel
theorem dX6_goBack_24 : decode cX6_goBack 24 = .ok (.goto 4, 3) := by decide +kernel
theorem dX6_goBack_27 : decode cX6_goBack 27 = .ok (.iconst 2, 1) := by decide +kernel
theorem dX6_goBack_28 : decode cX6_goBack 28 = .ok (.putfield 35, 3) := by decide +kernel
theorem dX6_goBack_31 : decode cX6_goBack 31 = .ok (.aload_n 0, 1) := by decide +kernel
theorem dX6_goBack_32 : decode cX6_goBack 32 = .ok (.getfield 35, 3) := by decide +kernel
theorem dX6_goBack_35 : decode cX6_goBack 35 = .ok (.ifCond .le 5, 3) := by decide +kernel
theorem dX6_goBack_38 : decode cX6_goBack 38 = .ok (.iconst 0, 1) := by decide +kernel
theorem dX6_goBack_39 : decode cX6_goBack 39 = .ok (.ireturn, 1) := by decide +kernel
theorem dX6_goBack_40 : decode cX6_goBack 40 = .ok (.aload_n 0, 1) := by decide +kernel
theorem dX6_goBack_41 : decode cX6_goBack 41 = .ok (.invokevirtual 62, 3) := by decide +kernel
theorem dX6_goBack_44 : decode cX6_goBack 44 = .ok (.iconst 0, 1) := by decide +kernel
theorem dX6_goBack_45 : decode cX6_goBack 45 = .ok (.istore_n 2, 1) := by decide +kernel
theorem dX6_goBack_46 : decode cX6_goBack 46 = .ok (.iload_n 2, 1) := by decide +kernel
theorem dX6_goBack_47 : decode cX6_goBack 47 = .ok (.sipush 303, 3) := by decide +kernel
theorem dX6_goBack_50 : decode cX6_goBack 50 = .ok (.if_icmp .ge 27, 3) := by decide +kernel
theorem dX6_goBack_53 : decode cX6_goBack 53 = .ok (.aload_n 0, 1) := by decide +kernel
theorem dX6_goBack_54 : decode cX6_goBack 54 = .ok (.getfield 7, 3) := by decide +kernel
theorem dX6_goBack_57 : decode cX6_goBack 57 = .ok (.iload_n 2, 1) := by decide +kernel
theorem dX6_goBack_58 : decode cX6_goBack 58 = .ok (.aload_n 0, 1) := by decide +kernel
theorem dX6_goBack_59 : decode cX6_goBack 59 = .ok (.getfield 16, 3) := by decide +kernel
theorem dX6_goBack_62 : decode cX6_goBack 62 = .ok (.sipush 303, 3) := by decide +kernel
theorem dX6_goBack_65 : decode cX6_goBack 65 = .ok (.iload_n 1, 1) := by decide +kernel
theorem dX6_goBack_66 : decode cX6_goBack 66 = .ok (.imul, 1) := by decide +kernel
theorem dX6_goBack_67 : decode cX6_goBack 67 = .ok (.iload_n 2, 1) := by decide +kernel
theorem dX6_goBack_68 : decode cX6_goBack 68 = .ok (.iadd, 1) := by decide +kernel
theorem dX6_goBack_69 : decode cX6_goBack 69 = .ok (.iaload, 1) := by decide +kernel
theorem dX6_goBack_70 : decode cX6_goBack 70 = .ok (.iastore, 1) := by decide +kernel
theorem dX6_goBack_71 : decode cX6_goBack 71 = .ok (.iinc 2 1, 3) := by decide +kernel
theorem dX6_goBack_74 : decode cX6_goBack 74 = .ok (.goto (-28), 3) := by decide +kernel
theorem dX6_goBack_77 : decode cX6_goBack 77 = .ok (.aload_n 0, 1) := by decide +kernel
theorem dX6_goBack_78 : decode cX6_goBack 78 = .ok (.getfield 7, 3) := by decide +kernel
theorem dX6_goBack_81 : decode cX6_goBack 81 = .ok (.sipush 296, 3) := by decide +kernel
theorem dX6_goBack_84 : decode cX6_goBack 84 = .ok (.iaload, 1) := by decide +kernel
theorem dX6_goBack_85 : decode cX6_goBack 85 = .ok (.ireturn, 1) := by decide +kernel
set_option maxRecDepth 20000 in
theorem ggX6_square_X6_of : GoodIn wsX6_square wsX6_of := goodIn_r _ [5, 6, 7, 8, 9, 10, 11, 12, 13, 14, 15, 16, 17, 18, 19, 20, 21, 22] (by decide +kernel) (by decide +kernel)
set_option maxRecDepth 20000 in
theorem gX6_square_X6_of : GoodIn wsX6_square (wsV RX6 65 RX6 yX6_of wsX6_of) := goodIn_app (goodIn_of _ (by decide +kernel)) ggX6_square_X6_of
theorem dX6_square_0 : decode cX6_square 0 = .ok (.aload_n 0, 1) := by decide +kernel
theorem dX6_square_1 : decode cX6_square 1 = .ok (.iload_n 1, 1) := by decide +kernel
theorem dX6_square_2 : decode cX6_square 2 = .ok (.iload_n 3, 1) := by decide +kernel
theorem dX6_square_3 : decode cX6_square 3 = .ok (.iconst 0, 1) := by decide +kernel
theorem dX6_square_4 : decode cX6_square 4 = .ok (.invokevirtual 65, 3) := by decide +kernel
theorem dX6_square_7 : decode cX6_square 7 = .ok (.aload_n 0, 1) := by decide +kernel
theorem dX6_square_8 : decode cX6_square 8 = .ok (.iload_n 1, 1) := by decide +kernel
theorem dX6_square_9 : decode cX6_square 9 = .ok (.iload_n 2, 1) := by decide +kernel
theorem dX6_square_10 : decode cX6_square 10 = .ok (.iconst 0, 1) := by decide +kernel
theorem dX6_square_11 : decode cX6_square 11 = .ok (.invokevirtual 65, 3) := by decide +kernel
theorem dX6_square_14 : decode cX6_square 14 = .ok (.isub, 1) := by decide +kernel
theorem dX6_square_15 : decode cX6_square 15 = .ok (.i2l, 1) := by decide +kernel
theorem dX6_square_16 : decode cX6_square 16 = .ok (.lstore 4, 2) := by decide +kernel
theorem dX6_square_18 : decode cX6_square 18 = .ok (.aload_n 0, 1) := by decide +kernel
theorem dX6_square_19 : decode cX6_square 19 = .ok (.iload_n 1, 1) := by decide +kernel
theorem dX6_square_20 : decode cX6_square 20 = .ok (.iload_n 3, 1) := by decide +kernel
theorem dX6_square_21 : decode cX6_square 21 = .ok (.iconst 1, 1) := by decide +kernel
theorem dX6_square_22 : decode cX6_square 22 = .ok (.invokevirtual 65, 3) := by decide +kernel
theorem dX6_square_25 : decode cX6_square 25 = .ok (.aload_n 0, 1) := by decide +kernel
theorem dX6_square_26 : decode cX6_square 26 = .ok (.iload_n 1, 1) := by decide +kernel
theorem dX6_square_27 : decode cX6_square 27 = .ok (.iload_n 2, 1) := by decide +kernel
theorem dX6_square_28 : decode cX6_square 28 = .ok (.iconst 1, 1) := by decide +kernel
theorem dX6_square_29 : decode cX6_square 29 = .ok (.invokevirtual 65, 3) := by decide +kernel
theorem dX6_square_32 : decode cX6_square 32 = .ok (.isub, 1) := by decide +kernel
theorem dX6_square_33 : decode cX6_square 33 = .ok (.i2l, 1) := by decide +kernel
theorem dX6_square_34 : decode cX6_square 34 = .ok (.lstore 6, 2) := by decide +kernel
theorem dX6_square_36 : decode cX6_square 36 = .ok (.lload 4, 2) := by decide +kernel
theorem dX6_square_38 : decode cX6_square 38 = .ok (.lload 4, 2) := by decide +kernel
theorem dX6_square_40 : decode cX6_square 40 = .ok (.lmul, 1) := by decide +kernel
theorem dX6_square_41 : decode cX6_square 41 = .ok (.lload 6, 2) := by decide +kernel
theorem dX6_square_43 : decode cX6_square 43 = .ok (.lload 6, 2) := by decide +kernel
theorem dX6_square_45 : decode cX6_square 45 = .ok (.lmul, 1) := by decide +kernel
theorem dX6_square_46 : decode cX6_square 46 = .ok (.ladd, 1) := by decide +kernel
theorem dX6_square_47 : decode cX6_square 47 = .ok (.lreturn, 1) := by decide +kernel
set_option maxRecDepth 20000 in
theorem ggX6_findDistance_X6_of : GoodIn wsX6_findDistance wsX6_of := goodIn_r _ [7, 8, 13, 14, 15, 16, 17, 18, 19, 20, 21, 22, 23, 24, 25, 26, 27, 28] (by decide +kernel) (by decide +kernel)
set_option maxRecDepth 20000 in
theorem gX6_findDistance_X6_of : GoodIn wsX6_findDistance (wsV RX6 65 RX6 yX6_of wsX6_of) := goodIn_app (goodIn_of _ (by decide +kernel)) ggX6_findDistance_X6_of
set_option maxRecDepth 20000 in
theorem ggX6_findDistance_X6_square : GoodIn wsX6_findDistance wsX6_square := goodIn_r _ [12, 3, 4, 5, 6, 7, 8, 13, 14, 15, 16, 17, 18, 19, 20, 21, 22, 23, 24, 25, 26, 27, 28] (by decide +kernel) (by decide +kernel)
set_option maxRecDepth 20000 in
theorem gX6_findDistance_X6_square : GoodIn wsX6_findDistance (wsV RX6 76 RX6 yX6_square wsX6_square) := goodIn_app (goodIn_of _ (by decide +kernel)) ggX6_findDistance_X6_square
theorem dX6_findDistance_0 : decode cX6_findDistance 0 = .ok (.aload_n 0, 1) := by decide +kernel
theorem dX6_findDistance_1 : decode cX6_findDistance 1 = .ok (.iload_n 1, 1) := by decide +kernel
theorem dX6_findDistance_2 : decode cX6_findDistance 2 = .ok (.iload_n 2, 1) := by decide +kernel
theorem dX6_findDistance_3 : decode cX6_findDistance 3 = .ok (.iconst 0, 1) := by decide +kernel
theorem dX6_findDistance_4 : decode cX6_findDistance 4 = .ok (.invokevirtual 65, 3) := by decide +kernel
theorem dX6_findDistance_7 : decode cX6_findDistance 7 = .ok (.aload_n 0, 1) := by decide +kernel
theorem dX6_findDistance_8 : decode cX6_findDistance 8 = .ok (.iload_n 1, 1) := by decide +kernel
theorem dX6_findDistance_9 : decode cX6_findDistance 9 = .ok (.iload_n 3, 1) := by decide +kernel
theorem dX6_findDistance_10 : decode cX6_findDistance 10 = .ok (.iconst 0, 1) := by decide +kernel
theorem dX6_findDistance_11 : decode cX6_findDistance 11 = .ok (.invokevirtual 65, 3) := by decide +kernel
theorem dX6_findDistance_14 : decode cX6_findDistance 14 = .ok (.isub, 1) := by decide +kernel
theorem dX6_findDistance_15 : decode cX6_findDistance 15 = .ok (.i2l, 1) := by decide +kernel
theorem dX6_findDistance_16 : decode cX6_findDistance 16 = .ok (.lstore 5, 2) := by decide +kernel
theorem dX6_findDistance_18 : decode cX6_findDistance 18 = .ok (.aload_n 0, 1) := by decide +kernel
theorem dX6_findDistance_19 : decode cX6_findDistance 19 = .ok (.iload_n 1, 1) := by decide +kernel
theorem dX6_findDistance_20 : decode cX6_findDistance 20 = .ok (.iload_n 2, 1) := by decide +kernel
theorem dX6_findDistance_21 : decode cX6_findDistance 21 = .ok (.iconst 1, 1) := by decide +kernel
theorem dX6_findDistance_22 : decode cX6_findDistance 22 = .ok (.invokevirtual 65, 3) := by decide +kernel
theorem dX6_findDistance_25 : decode cX6_findDistance 25 = .ok (.aload_n 0, 1) := by decide +kernel
theorem dX6_findDistance_26 : decode cX6_findDistance 26 = .ok (.iload_n 1, 1) := by decide +kernel
theorem dX6_findDistance_27 : decode cX6_findDistance 27 = .ok (.iload_n 3, 1) := by decide +kernel
theorem dX6_findDistance_28 : decode cX6_findDistance 28 = .ok (.iconst 1, 1) := by decide +kernel
theorem dX6_findDistance_29 : decode cX6_findDistance 29 = .ok (.invokevirtual 65, 3) := by decide +kernel
theorem dX6_findDistance_32 : decode cX6_findDistance 32 = .ok (.isub, 1) := by decide +kernel
theorem dX6_findDistance_33 : decode cX6_findDistance 33 = .ok (.i2l, 1) := by decide +kernel
theorem dX6_findDistance_34 : decode cX6_findDistance 34 = .ok (.lstore 7, 2) := by decide +kernel
theorem dX6_findDistance_36 : decode cX6_findDistance 36 = .ok (.aload_n 0, 1) := by decide +kernel
theorem dX6_findDistance_37 : decode cX6_findDistance 37 = .ok (.iload_n 1, 1) := by decide +kernel
theorem dX6_findDistance_38 : decode cX6_findDistance 38 = .ok (.iload 4, 2) := by decide +kernel
theorem dX6_findDistance_40 : decode cX6_findDistance 40 = .ok (.iconst 0, 1) := by decide +kernel
theorem dX6_findDistance_41 : decode cX6_findDistance 41 = .ok (.invokevirtual 65, 3) := by decide +kernel
theorem dX6_findDistance_44 : decode cX6_findDistance 44 = .ok (.aload_n 0, 1) := by decide +kernel
theorem dX6_findDistance_45 : decode cX6_findDistance 45 = .ok (.iload_n 1, 1) := by decide +kernel
theorem dX6_findDistance_46 : decode cX6_findDistance 46 = .ok (.iload_n 3, 1) := by decide +kernel
theorem dX6_findDistance_47 : decode cX6_findDistance 47 = .ok (.iconst 0, 1) := by decide +kernel
theorem dX6_findDistance_48 : decode cX6_findDistance 48 = .ok (.invokevirtual 65, 3) := by decide +kernel
theorem dX6_findDistance_51 : decode cX6_findDistance 51 = .ok (.isub, 1) := by decide +kernel
theorem dX6_findDistance_52 : decode cX6_findDistance 52 = .ok (.i2l, 1) := by decide +kernel
theorem dX6_findDistance_53 : decode cX6_findDistance 53 = .ok (.lstore 9, 2) := by decide +kernel
theorem dX6_findDistance_55 : decode cX6_findDistance 55 = .ok (.aload_n 0, 1) := by decide +kernel
theorem dX6_findDistance_56 : decode cX6_findDistance 56 = .ok (.iload_n 1, 1) := by decide +kernel
theorem dX6_findDistance_57 : decode cX6_findDistance 57 = .ok (.iload 4, 2) := by decide +kernel
theorem dX6_findDistance_59 : decode cX6_findDistance 59 = .ok (.iconst 1, 1) := by decide +kernel
theorem dX6_findDistance_60 : decode cX6_findDistance 60 = .ok (.invokevirtual 65, 3) := by decide +kernel
theorem dX6_findDistance_63 : decode cX6_findDistance 63 = .ok (.aload_n 0, 1) := by decide +kernel
theorem dX6_findDistance_64 : decode cX6_findDistance 64 = .ok (.iload_n 1, 1) := by decide +kernel
theorem dX6_findDistance_65 : decode cX6_findDistance 65 = .ok (.iload_n 3, 1) := by decide +kernel
theorem dX6_findDistance_66 : decode cX6_findDistance 66 = .ok (.iconst 1, 1) := by decide +kernel
theorem dX6_findDistance_67 : decode cX6_findDistance 67 = .ok (.invokevirtual 65, 3) := by decide +kernel
theorem dX6_findDistance_70 : decode cX6_findDistance 70 = .ok (.isub, 1) := by decide +kernel
theorem dX6_findDistance_71 : decode cX6_findDistance 71 = .ok (.i2l, 1) := by decide +kernel
theorem dX6_findDistance_72 : decode cX6_findDistance 72 = .ok (.lstore 11, 2) := by decide +kernel
theorem dX6_findDistance_74 : decode cX6_findDistance 74 = .ok (.lload 5, 2) := by decide +kernel
theorem dX6_findDistance_76 : decode cX6_findDistance 76 = .ok (.lload 9, 2) := by decide +kernel
theorem dX6_findDistance_78 : decode cX6_findDistance 78 = .ok (.lmul, 1) := by decide +kernel
theorem dX6_findDistance_79 : decode cX6_findDistance 79 = .ok (.lload 7, 2) := by decide +kernel
theorem dX6_findDistance_81 : decode cX6_findDistance 81 = .ok (.lload 11, 2) := by decide +kernel
theorem dX6_findDistance_83 : decode cX6_findDistance 83 = .ok (.lmul, 1) := by decide +kernel
theorem dX6_findDistance_84 : decode cX6_findDistance 84 = .ok (.ladd, 1) := by decide +kernel
theorem dX6_findDistance_85 : decode cX6_findDistance 85 = .ok (.lstore 13, 2) := by decide +kernel
theorem dX6_findDistance_87 : decode cX6_findDistance 87 = .ok (.lload 9, 2) := by decide +kernel
theorem dX6_findDistance_89 : decode cX6_findDistance 89 = .ok (.lload 9, 2) := by decide +kernel
theorem dX6_findDistance_91 : decode cX6_findDistance 91 = .ok (.lmul, 1) := by decide +kernel
theorem dX6_findDistance_92 : decode cX6_findDistance 92 = .ok (.lload 11, 2) := by decide +kernel
theorem dX6_findDistance_94 : decode cX6_findDistance 94 = .ok (.lload 11, 2) := by decide +kernel
theorem dX6_findDistance_96 : decode cX6_findDistance 96 = .ok (.lmul, 1) := by decide +kernel
theorem dX6_findDistance_97 : decode cX6_findDistance 97 = .ok (.ladd, 1) := by decide +kernel
theorem dX6_findDistance_98 : decode cX6_findDistance 98 = .ok (.lstore 15, 2) := by decide +kernel
theorem dX6_findDistance_100 : decode cX6_findDistance 100 = .ok (.aload_n 0, 1) := by decide +kernel
theorem dX6_findDistance_101 : decode cX6_findDistance 101 = .ok (.lconst 1, 1) := by decide +kernel
theorem dX6_findDistance_102 : decode cX6_findDistance 102 = .ok (.putfield 69, 3) := by decide +kernel
theorem dX6_findDistance_105 : decode cX6_findDistance 105 = .ok (.lload 13, 2) := by decide +kernel
theorem dX6_findDistance_107 : decode cX6_findDistance 107 = .ok (.lconst 0, 1) := by decide +kernel
theorem dX6_findDistance_108 : decode cX6_findDistance 108 = .ok (.lcmp, 1) := by decide +kernel
theorem dX6_findDistance_109 : decode cX6_findDistance 109 = .ok (.ifCond .gt 21, 3) := by decide +kernel
theorem dX6_findDistance_112 : decode cX6_findDistance 112 = .ok (.aload_n 0, 1) := by decide +kernel
theorem dX6_findDistance_113 : decode cX6_findDistance 113 = .ok (.lload 5, 2) := by decide +kernel
theorem dX6_findDistance_115 : decode cX6_findDistance 115 = .ok (.lload 5, 2) := by decide +kernel
theorem dX6_findDistance_117 : decode cX6_findDistance 117 = .ok (.lmul, 1) := by decide +kernel
theorem dX6_findDistance_118 : decode cX6_findDistance 118 = .ok (.lload 7, 2) := by decide +kernel
theorem dX6_findDistance_120 : decode cX6_findDistance 120 = .ok (.lload 7, 2) := by decide +kernel
theorem dX6_findDistance_122 : decode cX6_findDistance 122 = .ok (.lmul, 1) := by decide +kernel
theorem dX6_findDistance_123 : decode cX6_findDistance 123 = .ok (.ladd, 1) := by decide +kernel
theorem dX6_findDistance_124 : decode cX6_findDistance 124 = .ok (.putfield 73, 3) := by decide +kernel
theorem dX6_findDistance_127 : decode cX6_findDistance 127 = .ok (.goto 59, 3) := by decide +kernel
theorem dX6_findDistance_130 : decode cX6_findDistance 130 = .ok (.lload 13, 2) := by decide +kernel
theorem dX6_findDistance_132 : decode cX6_findDistance 132 = .ok (.lload 15, 2) := by decide +kernel
theorem dX6_findDistance_134 : decode cX6_findDistance 134 = .ok (.lcmp, 1) := by decide +kernel
theorem dX6_findDistance_135 : decode cX6_findDistance 135 = .ok (.ifCond .lt 18, 3) := by decide +kernel
theorem dX6_findDistance_138 : decode cX6_findDistance 138 = .ok (.aload_n 0, 1) := by decide +kernel
theorem dX6_findDistance_139 : decode cX6_findDistance 139 = .ok (.aload_n 0, 1) := by decide +kernel
theorem dX6_findDistance_140 : decode cX6_findDistance 140 = .ok (.iload_n 1, 1) := by decide +kernel
theorem dX6_findDistance_141 : decode cX6_findDistance 141 = .ok (.iload 4, 2) := by decide +kernel
theorem dX6_findDistance_143 : decode cX6_findDistance 143 = .ok (.iload_n 2, 1) := by decide +kernel
theorem dX6_findDistance_144 : decode cX6_findDistance 144 = .ok (.invokevirtual 76, 3) := by decide +kernel
theorem dX6_findDistance_147 : decode cX6_findDistance 147 = .ok (.putfield 73, 3) := by decide +kernel
theorem dX6_findDistance_150 : decode cX6_findDistance 150 = .ok (.goto 36, 3) := by decide +kernel
theorem dX6_findDistance_153 : decode cX6_findDistance 153 = .ok (.aload_n 0, 1) := by decide +kernel
theorem dX6_findDistance_154 : decode cX6_findDistance 154 = .ok (.lload 5, 2) := by decide +kernel
theorem dX6_findDistance_156 : decode cX6_findDistance 156 = .ok (.lload 11, 2) := by decide +kernel
theorem dX6_findDistance_158 : decode cX6_findDistance 158 = .ok (.lmul, 1) := by decide +kernel
theorem dX6_findDistance_159 : decode cX6_findDistance 159 = .ok (.lload 7, 2) := by decide +kernel
theorem dX6_findDistance_161 : decode cX6_findDistance 161 = .ok (.lload 9, 2) := by decide +kernel
theorem dX6_findDistance_163 : decode cX6_findDistance 163 = .ok (.lmul, 1) := by decide +kernel
theorem dX6_findDistance_164 : decode cX6_findDistance 164 = .ok (.lsub, 1) := by decide +kernel
theorem dX6_findDistance_165 : decode cX6_findDistance 165 = .ok (.lload 5, 2) := by decide +kernel
theorem dX6_findDistance_167 : decode cX6_findDistance 167 = .ok (.lload 11, 2) := by decide +kernel
theorem dX6_findDistance_169 : decode cX6_findDistance 169 = .ok (.lmul, 1) := by decide +kernel
theorem dX6_findDistance_170 : decode cX6_findDistance 170 = .ok (.lload 7, 2) := by decide +kernel
theorem dX6_findDistance_172 : decode cX6_findDistance 172 = .ok (.lload 9, 2) := by decide +kernel
theorem dX6_findDistance_174 : decode cX6_findDistance 174 = .ok (.lmul, 1) := by decide +kernel
theorem dX6_findDistance_175 : decode cX6_findDistance 175 = .ok (.lsub, 1) := by decide +kernel
theorem dX6_findDistance_176 : decode cX6_findDistance 176 = .ok (.lmul, 1) := by decide +kernel
theorem dX6_findDistance_177 : decode cX6_findDistance 177 = .ok (.putfield 73, 3) := by decide +kernel
theorem dX6_findDistance_180 : decode cX6_findDistance 180 = .ok (.aload_n 0, 1) := by decide +kernel
theorem dX6_findDistance_181 : decode cX6_findDistance 181 = .ok (.lload 15, 2) := by decide +kernel
theorem dX6_findDistance_183 : decode cX6_findDistance 183 = .ok (.putfield 69, 3) := by decide +kernel
theorem dX6_findDistance_186 : decode cX6_findDistance 186 = .ok (.return_, 1) := by decide +kernel
set_option maxRecDepth 20000 in
theorem ggX6_hundredths_X6_findDistance : GoodIn wsX6_hundredths wsX6_findDistance := goodIn_r _ [8, 3, 2, 9, 10, 11, 7, 12, 13, 14, 15, 16, 17, 22, 23, 24, 25, 26, 27, 28, 29, 30, 31, 32, 33, 34, 35, 36, 37] (by decide +kernel) (by decide +kernel)
set_option maxRecDepth 20000 in
theorem gX6_hundredths_X6_findDistance : GoodIn wsX6_hundredths (wsV RX6 80 RX6 yX6_findDistance wsX6_findDistance) := goodIn_app (goodIn_of _ (by decide +kernel)) ggX6_hundredths_X6_findDistance
set_option maxRecDepth 20000 in
theorem ggX6_hundredths_X6_root : GoodIn wsX6_hundredths wsX6_root := goodIn_r _ [20, 21] (by decide +kernel) (by decide +kernel)
set_option maxRecDepth 20000 in
theorem gX6_hundredths_X6_root : GoodIn wsX6_hundredths (va_wsS RX6 86 yX6_root wsX6_root) := goodIn_app (goodIn_of _ (by decide +kernel)) ggX6_hundredths_X6_root
theorem dX6_hundredths_0 : decode cX6_hundredths 0 = .ok (.aload_n 0, 1) := by decide +kernel
theorem dX6_hundredths_1 : decode cX6_hundredths 1 = .ok (.iload_n 1, 1) := by decide +kernel
theorem dX6_hundredths_2 : decode cX6_hundredths 2 = .ok (.iload_n 2, 1) := by decide +kernel
theorem dX6_hundredths_3 : decode cX6_hundredths 3 = .ok (.iload_n 3, 1) := by decide +kernel
theorem dX6_hundredths_4 : decode cX6_hundredths 4 = .ok (.iload 4, 2) := by decide +kernel
theorem dX6_hundredths_6 : decode cX6_hundredths 6 = .ok (.invokevirtual 80, 3) := by decide +kernel
theorem dX6_hundredths_9 : decode cX6_hundredths 9 = .ok (.ldc2_w 84, 3) := by decide +kernel
theorem dX6_hundredths_12 : decode cX6_hundredths 12 = .ok (.aload_n 0, 1) := by decide +kernel
theorem dX6_hundredths_13 : decode cX6_hundredths 13 = .ok (.getfield 73, 3) := by decide +kernel
theorem dX6_hundredths_16 : decode cX6_hundredths 16 = .ok (.lmul, 1) := by decide +kernel
theorem dX6_hundredths_17 : decode cX6_hundredths 17 = .ok (.aload_n 0, 1) := by decide +kernel
theorem dX6_hundredths_18 : decode cX6_hundredths 18 = .ok (.getfield 69, 3) := by decide +kernel
theorem dX6_hundredths_21 : decode cX6_hundredths 21 = .ok (.ldiv, 1) := by decide +kernel
theorem dX6_hundredths_22 : decode cX6_hundredths 22 = .ok (.invokestatic 86, 3) := by decide +kernel
theorem dX6_hundredths_25 : decode cX6_hundredths 25 = .ok (.ireturn, 1) := by decide +kernel
set_option maxRecDepth 20000 in
theorem ggX6_isWithin_X6_findDistance : GoodIn wsX6_isWithin wsX6_findDistance := goodIn_r _ [7, 2, 1, 8, 9, 10, 6, 11, 12, 13, 14, 15, 16, 17, 18, 19, 20, 21, 22, 23, 24, 25, 26, 27, 28, 29, 30, 31, 32] (by decide +kernel) (by decide +kernel)
set_option maxRecDepth 20000 in
theorem gX6_isWithin_X6_findDistance : GoodIn wsX6_isWithin (wsV RX6 80 RX6 yX6_findDistance wsX6_findDistance) := goodIn_app (goodIn_of _ (by decide +kernel)) ggX6_isWithin_X6_findDistance
theorem dX6_isWithin_0 : decode cX6_isWithin 0 = .ok (.aload_n 0, 1) := by decide +kernel
theorem dX6_isWithin_1 : decode cX6_isWithin 1 = .ok (.iload_n 1, 1) := by decide +kernel
theorem dX6_isWithin_2 : decode cX6_isWithin 2 = .ok (.iload_n 2, 1) := by decide +kernel
theorem dX6_isWithin_3 : decode cX6_isWithin 3 = .ok (.iload_n 3, 1) := by decide +kernel
theorem dX6_isWithin_4 : decode cX6_isWithin 4 = .ok (.iload 4, 2) := by decide +kernel
theorem dX6_isWithin_6 : decode cX6_isWithin 6 = .ok (.invokevirtual 80, 3) := by decide +kernel
theorem dX6_isWithin_9 : decode cX6_isWithin 9 = .ok (.aload_n 0, 1) := by decide +kernel
theorem dX6_isWithin_10 : decode cX6_isWithin 10 = .ok (.getfield 73, 3) := by decide +kernel
theorem dX6_isWithin_13 : decode cX6_isWithin 13 = .ok (.iload 5, 2) := by decide +kernel
theorem dX6_isWithin_15 : decode cX6_isWithin 15 = .ok (.i2l, 1) := by decide +kernel
theorem dX6_isWithin_16 : decode cX6_isWithin 16 = .ok (.iload 5, 2) := by decide +kernel
theorem dX6_isWithin_18 : decode cX6_isWithin 18 = .ok (.i2l, 1) := by decide +kernel
theorem dX6_isWithin_19 : decode cX6_isWithin 19 = .ok (.lmul, 1) := by decide +kernel
theorem dX6_isWithin_20 : decode cX6_isWithin 20 = .ok (.aload_n 0, 1) := by decide +kernel
theorem dX6_isWithin_21 : decode cX6_isWithin 21 = .ok (.getfield 69, 3) := by decide +kernel
theorem dX6_isWithin_24 : decode cX6_isWithin 24 = .ok (.lmul, 1) := by decide +kernel
theorem dX6_isWithin_25 : decode cX6_isWithin 25 = .ok (.lcmp, 1) := by decide +kernel
theorem dX6_isWithin_26 : decode cX6_isWithin 26 = .ok (.ifCond .gt 7, 3) := by decide +kernel
theorem dX6_isWithin_29 : decode cX6_isWithin 29 = .ok (.iconst 1, 1) := by decide +kernel
theorem dX6_isWithin_30 : decode cX6_isWithin 30 = .ok (.goto 4, 3) := by decide +kernel
theorem dX6_isWithin_33 : decode cX6_isWithin 33 = .ok (.iconst 0, 1) := by decide +kernel
theorem dX6_isWithin_34 : decode cX6_isWithin 34 = .ok (.ireturn, 1) := by decide +kernel
set_option maxRecDepth 20000 in
theorem ggX6_isSharp_X6_of : GoodIn wsX6_isSharp wsX6_of := goodIn_r _ [6, 7, 8, 9, 10, 11, 12, 13, 14, 15, 16, 17, 18, 19, 20, 21, 22, 23] (by decide +kernel) (by decide +kernel)
set_option maxRecDepth 20000 in
theorem gX6_isSharp_X6_of : GoodIn wsX6_isSharp (wsV RX6 65 RX6 yX6_of wsX6_of) := goodIn_app (goodIn_of _ (by decide +kernel)) ggX6_isSharp_X6_of
theorem dX6_isSharp_0 : decode cX6_isSharp 0 = .ok (.aload_n 0, 1) := by decide +kernel
theorem dX6_isSharp_1 : decode cX6_isSharp 1 = .ok (.iload_n 1, 1) := by decide +kernel
theorem dX6_isSharp_2 : decode cX6_isSharp 2 = .ok (.iload_n 3, 1) := by decide +kernel
theorem dX6_isSharp_3 : decode cX6_isSharp 3 = .ok (.iconst 0, 1) := by decide +kernel
theorem dX6_isSharp_4 : decode cX6_isSharp 4 = .ok (.invokevirtual 65, 3) := by decide +kernel
theorem dX6_isSharp_7 : decode cX6_isSharp 7 = .ok (.aload_n 0, 1) := by decide +kernel
theorem dX6_isSharp_8 : decode cX6_isSharp 8 = .ok (.iload_n 1, 1) := by decide +kernel
theorem dX6_isSharp_9 : decode cX6_isSharp 9 = .ok (.iload_n 2, 1) := by decide +kernel
theorem dX6_isSharp_10 : decode cX6_isSharp 10 = .ok (.iconst 0, 1) := by decide +kernel
theorem dX6_isSharp_11 : decode cX6_isSharp 11 = .ok (.invokevirtual 65, 3) := by decide +kernel
theorem dX6_isSharp_14 : decode cX6_isSharp 14 = .ok (.isub, 1) := by decide +kernel
theorem dX6_isSharp_15 : decode cX6_isSharp 15 = .ok (.i2l, 1) := by decide +kernel
theorem dX6_isSharp_16 : decode cX6_isSharp 16 = .ok (.lstore 6, 2) := by decide +kernel
theorem dX6_isSharp_18 : decode cX6_isSharp 18 = .ok (.aload_n 0, 1) := by decide +kernel
theorem dX6_isSharp_19 : decode cX6_isSharp 19 = .ok (.iload_n 1, 1) := by decide +kernel
theorem dX6_isSharp_20 : decode cX6_isSharp 20 = .ok (.iload_n 3, 1) := by decide +kernel
theorem dX6_isSharp_21 : decode cX6_isSharp 21 = .ok (.iconst 1, 1) := by decide +kernel
theorem dX6_isSharp_22 : decode cX6_isSharp 22 = .ok (.invokevirtual 65, 3) := by decide +kernel
theorem dX6_isSharp_25 : decode cX6_isSharp 25 = .ok (.aload_n 0, 1) := by decide +kernel
theorem dX6_isSharp_26 : decode cX6_isSharp 26 = .ok (.iload_n 1, 1) := by decide +kernel
theorem dX6_isSharp_27 : decode cX6_isSharp 27 = .ok (.iload_n 2, 1) := by decide +kernel
theorem dX6_isSharp_28 : decode cX6_isSharp 28 = .ok (.iconst 1, 1) := by decide +kernel
theorem dX6_isSharp_29 : decode cX6_isSharp 29 = .ok (.invokevirtual 65, 3) := by decide +kernel
theorem dX6_isSharp_32 : decode cX6_isSharp 32 = .ok (.isub, 1) := by decide +kernel
theorem dX6_isSharp_33 : decode cX6_isSharp 33 = .ok (.i2l, 1) := by decide +kernel
theorem dX6_isSharp_34 : decode cX6_isSharp 34 = .ok (.lstore 8, 2) := by decide +kernel
theorem dX6_isSharp_36 : decode cX6_isSharp 36 = .ok (.aload_n 0, 1) := by decide +kernel
theorem dX6_isSharp_37 : decode cX6_isSharp 37 = .ok (.iload_n 1, 1) := by decide +kernel
theorem dX6_isSharp_38 : decode cX6_isSharp 38 = .ok (.iload 4, 2) := by decide +kernel
theorem dX6_isSharp_40 : decode cX6_isSharp 40 = .ok (.iconst 0, 1) := by decide +kernel
theorem dX6_isSharp_41 : decode cX6_isSharp 41 = .ok (.invokevirtual 65, 3) := by decide +kernel
theorem dX6_isSharp_44 : decode cX6_isSharp 44 = .ok (.aload_n 0, 1) := by decide +kernel
theorem dX6_isSharp_45 : decode cX6_isSharp 45 = .ok (.iload_n 1, 1) := by decide +kernel
theorem dX6_isSharp_46 : decode cX6_isSharp 46 = .ok (.iload_n 3, 1) := by decide +kernel
theorem dX6_isSharp_47 : decode cX6_isSharp 47 = .ok (.iconst 0, 1) := by decide +kernel
theorem dX6_isSharp_48 : decode cX6_isSharp 48 = .ok (.invokevirtual 65, 3) := by decide +kernel
theorem dX6_isSharp_51 : decode cX6_isSharp 51 = .ok (.isub, 1) := by decide +kernel
theorem dX6_isSharp_52 : decode cX6_isSharp 52 = .ok (.i2l, 1) := by decide +kernel
theorem dX6_isSharp_53 : decode cX6_isSharp 53 = .ok (.lstore 10, 2) := by decide +kernel
theorem dX6_isSharp_55 : decode cX6_isSharp 55 = .ok (.aload_n 0, 1) := by decide +kernel
theorem dX6_isSharp_56 : decode cX6_isSharp 56 = .ok (.iload_n 1, 1) := by decide +kernel
theorem dX6_isSharp_57 : decode cX6_isSharp 57 = .ok (.iload 4, 2) := by decide +kernel
theorem dX6_isSharp_59 : decode cX6_isSharp 59 = .ok (.iconst 1, 1) := by decide +kernel
theorem dX6_isSharp_60 : decode cX6_isSharp 60 = .ok (.invokevirtual 65, 3) := by decide +kernel
theorem dX6_isSharp_63 : decode cX6_isSharp 63 = .ok (.aload_n 0, 1) := by decide +kernel
theorem dX6_isSharp_64 : decode cX6_isSharp 64 = .ok (.iload_n 1, 1) := by decide +kernel
theorem dX6_isSharp_65 : decode cX6_isSharp 65 = .ok (.iload_n 3, 1) := by decide +kernel
theorem dX6_isSharp_66 : decode cX6_isSharp 66 = .ok (.iconst 1, 1) := by decide +kernel
theorem dX6_isSharp_67 : decode cX6_isSharp 67 = .ok (.invokevirtual 65, 3) := by decide +kernel
theorem dX6_isSharp_70 : decode cX6_isSharp 70 = .ok (.isub, 1) := by decide +kernel
theorem dX6_isSharp_71 : decode cX6_isSharp 71 = .ok (.i2l, 1) := by decide +kernel
theorem dX6_isSharp_72 : decode cX6_isSharp 72 = .ok (.lstore 12, 2) := by decide +kernel
theorem dX6_isSharp_74 : decode cX6_isSharp 74 = .ok (.lload 6, 2) := by decide +kernel
theorem dX6_isSharp_76 : decode cX6_isSharp 76 = .ok (.lload 10, 2) := by decide +kernel
theorem dX6_isSharp_78 : decode cX6_isSharp 78 = .ok (.lmul, 1) := by decide +kernel
theorem dX6_isSharp_79 : decode cX6_isSharp 79 = .ok (.lload 8, 2) := by decide +kernel
theorem dX6_isSharp_81 : decode cX6_isSharp 81 = .ok (.lload 12, 2) := by decide +kernel
theorem dX6_isSharp_83 : decode cX6_isSharp 83 = .ok (.lmul, 1) := by decide +kernel
theorem dX6_isSharp_84 : decode cX6_isSharp 84 = .ok (.ladd, 1) := by decide +kernel
theorem dX6_isSharp_85 : decode cX6_isSharp 85 = .ok (.lstore 14, 2) := by decide +kernel
theorem dX6_isSharp_87 : decode cX6_isSharp 87 = .ok (.lload 6, 2) := by decide +kernel
theorem dX6_isSharp_89 : decode cX6_isSharp 89 = .ok (.lload 6, 2) := by decide +kernel
theorem dX6_isSharp_91 : decode cX6_isSharp 91 = .ok (.lmul, 1) := by decide +kernel
theorem dX6_isSharp_92 : decode cX6_isSharp 92 = .ok (.lload 8, 2) := by decide +kernel
theorem dX6_isSharp_94 : decode cX6_isSharp 94 = .ok (.lload 8, 2) := by decide +kernel
theorem dX6_isSharp_96 : decode cX6_isSharp 96 = .ok (.lmul, 1) := by decide +kernel
theorem dX6_isSharp_97 : decode cX6_isSharp 97 = .ok (.ladd, 1) := by decide +kernel
theorem dX6_isSharp_98 : decode cX6_isSharp 98 = .ok (.lload 10, 2) := by decide +kernel
theorem dX6_isSharp_100 : decode cX6_isSharp 100 = .ok (.lload 10, 2) := by decide +kernel
theorem dX6_isSharp_102 : decode cX6_isSharp 102 = .ok (.lmul, 1) := by decide +kernel
theorem dX6_isSharp_103 : decode cX6_isSharp 103 = .ok (.lload 12, 2) := by decide +kernel
theorem dX6_isSharp_105 : decode cX6_isSharp 105 = .ok (.lload 12, 2) := by decide +kernel
theorem dX6_isSharp_107 : decode cX6_isSharp 107 = .ok (.lmul, 1) := by decide +kernel
theorem dX6_isSharp_108 : decode cX6_isSharp 108 = .ok (.ladd, 1) := by decide +kernel
theorem dX6_isSharp_109 : decode cX6_isSharp 109 = .ok (.lmul, 1) := by decide +kernel
theorem dX6_isSharp_110 : decode cX6_isSharp 110 = .ok (.lstore 16, 2) := by decide +kernel
theorem dX6_isSharp_112 : decode cX6_isSharp 112 = .ok (.lload 14, 2) := by decide +kernel
theorem dX6_isSharp_114 : decode cX6_isSharp 114 = .ok (.lconst 0, 1) := by decide +kernel
theorem dX6_isSharp_115 : decode cX6_isSharp 115 = .ok (.lcmp, 1) := by decide +kernel
theorem dX6_isSharp_116 : decode cX6_isSharp 116 = .ok (.ifCond .lt 33, 3) := by decide +kernel
theorem dX6_isSharp_119 : decode cX6_isSharp 119 = .ok (.lload 16, 2) := by decide +kernel
theorem dX6_isSharp_121 : decode cX6_isSharp 121 = .ok (.lconst 0, 1) := by decide +kernel
theorem dX6_isSharp_122 : decode cX6_isSharp 122 = .ok (.lcmp, 1) := by decide +kernel
theorem dX6_isSharp_123 : decode cX6_isSharp 123 = .ok (.ifCond .eq 30, 3) := by decide +kernel
theorem dX6_isSharp_126 : decode cX6_isSharp 126 = .ok (.lload 14, 2) := by decide +kernel
theorem dX6_isSharp_128 : decode cX6_isSharp 128 = .ok (.lload 14, 2) := by decide +kernel
theorem dX6_isSharp_130 : decode cX6_isSharp 130 = .ok (.lmul, 1) := by decide +kernel
theorem dX6_isSharp_131 : decode cX6_isSharp 131 = .ok (.ldc2_w 84, 3) := by decide +kernel
theorem dX6_isSharp_134 : decode cX6_isSharp 134 = .ok (.lmul, 1) := by decide +kernel
theorem dX6_isSharp_135 : decode cX6_isSharp 135 = .ok (.iload 5, 2) := by decide +kernel
theorem dX6_isSharp_137 : decode cX6_isSharp 137 = .ok (.i2l, 1) := by decide +kernel
theorem dX6_isSharp_138 : decode cX6_isSharp 138 = .ok (.iload 5, 2) := by decide +kernel
theorem dX6_isSharp_140 : decode cX6_isSharp 140 = .ok (.i2l, 1) := by decide +kernel
theorem dX6_isSharp_141 : decode cX6_isSharp 141 = .ok (.lmul, 1) := by decide +kernel
theorem dX6_isSharp_142 : decode cX6_isSharp 142 = .ok (.lload 16, 2) := by decide +kernel
theorem dX6_isSharp_144 : decode cX6_isSharp 144 = .ok (.lmul, 1) := by decide +kernel
theorem dX6_isSharp_145 : decode cX6_isSharp 145 = .ok (.lcmp, 1) := by decide +kernel
theorem dX6_isSharp_146 : decode cX6_isSharp 146 = .ok (.ifCond .ge 7, 3) := by decide +kernel
theorem dX6_isSharp_149 : decode cX6_isSharp 149 = .ok (.iconst 1, 1) := by decide +kernel
theorem dX6_isSharp_150 : decode cX6_isSharp 150 = .ok (.goto 4, 3) := by decide +kernel
theorem dX6_isSharp_153 : decode cX6_isSharp 153 = .ok (.iconst 0, 1) := by decide +kernel
theorem dX6_isSharp_154 : decode cX6_isSharp 154 = .ok (.ireturn, 1) := by decide +kernel
set_option maxRecDepth 20000 in
theorem ggX6_fixedBy_X6_points : GoodIn wsX6_fixedBy wsX6_points := goodIn_r _ [6, 1, 16, 17, 18, 19, 20, 21, 22, 23, 24, 25, 26, 27, 28, 29, 30, 31] (by decide +kernel) (by decide +kernel)
set_option maxRecDepth 20000 in
theorem gX6_fixedBy_X6_points : GoodIn wsX6_fixedBy (wsV RX6 47 RX6 yX6_points wsX6_points) := goodIn_app (goodIn_of _ (by decide +kernel)) ggX6_fixedBy_X6_points
set_option maxRecDepth 20000 in
theorem ggX6_fixedBy_X6_of : GoodIn wsX6_fixedBy wsX6_of := goodIn_r _ [10, 1, 16, 17, 18, 19, 20, 21, 22, 23, 24, 25, 26, 27, 28, 29, 30, 31] (by decide +kernel) (by decide +kernel)
set_option maxRecDepth 20000 in
theorem gX6_fixedBy_X6_of : GoodIn wsX6_fixedBy (wsV RX6 65 RX6 yX6_of wsX6_of) := goodIn_app (goodIn_of _ (by decide +kernel)) ggX6_fixedBy_X6_of
set_option maxRecDepth 20000 in
theorem ggX6_fixedBy_X6_isSharp : GoodIn wsX6_fixedBy wsX6_isSharp := goodIn_r _ [14, 15, 7, 8, 9, 5, 10, 1, 16, 17, 18, 19, 20, 21, 22, 23, 24, 25, 26, 27, 28, 29, 30, 31] (by decide +kernel) (by decide +kernel)
set_option maxRecDepth 20000 in
theorem gX6_fixedBy_X6_isSharp : GoodIn wsX6_fixedBy (wsV RX6 90 RX6 yX6_isSharp wsX6_isSharp) := goodIn_app (goodIn_of _ (by decide +kernel)) ggX6_fixedBy_X6_isSharp
theorem dX6_fixedBy_0 : decode cX6_fixedBy 0 = .ok (.iload_n 2, 1) := by decide +kernel
theorem dX6_fixedBy_1 : decode cX6_fixedBy 1 = .ok (.ifCond .eq 14, 3) := by decide +kernel
theorem dX6_fixedBy_4 : decode cX6_fixedBy 4 = .ok (.iload_n 2, 1) := by decide +kernel
theorem dX6_fixedBy_5 : decode cX6_fixedBy 5 = .ok (.aload_n 0, 1) := by decide +kernel
theorem dX6_fixedBy_6 : decode cX6_fixedBy 6 = .ok (.iload_n 1, 1) := by decide +kernel
theorem dX6_fixedBy_7 : decode cX6_fixedBy 7 = .ok (.invokevirtual 47, 3) := by decide +kernel
theorem dX6_fixedBy_10 : decode cX6_fixedBy 10 = .ok (.iconst 1, 1) := by decide +kernel
theorem dX6_fixedBy_11 : decode cX6_fixedBy 11 = .ok (.isub, 1) := by decide +kernel
theorem dX6_fixedBy_12 : decode cX6_fixedBy 12 = .ok (.if_icmp .ne 5, 3) := by decide +kernel
theorem dX6_fixedBy_15 : decode cX6_fixedBy 15 = .ok (.iconst 1, 1) := by decide +kernel
theorem dX6_fixedBy_16 : decode cX6_fixedBy 16 = .ok (.ireturn, 1) := by decide +kernel
theorem dX6_fixedBy_17 : decode cX6_fixedBy 17 = .ok (.aload_n 0, 1) := by decide +kernel
theorem dX6_fixedBy_18 : decode cX6_fixedBy 18 = .ok (.iload_n 1, 1) := by decide +kernel
theorem dX6_fixedBy_19 : decode cX6_fixedBy 19 = .ok (.iload_n 2, 1) := by decide +kernel
theorem dX6_fixedBy_20 : decode cX6_fixedBy 20 = .ok (.iconst 2, 1) := by decide +kernel
theorem dX6_fixedBy_21 : decode cX6_fixedBy 21 = .ok (.invokevirtual 65, 3) := by decide +kernel
theorem dX6_fixedBy_24 : decode cX6_fixedBy 24 = .ok (.aload_n 0, 1) := by decide +kernel
theorem dX6_fixedBy_25 : decode cX6_fixedBy 25 = .ok (.getfield 7, 3) := by decide +kernel
theorem dX6_fixedBy_28 : decode cX6_fixedBy 28 = .ok (.sipush 299, 3) := by decide +kernel
theorem dX6_fixedBy_31 : decode cX6_fixedBy 31 = .ok (.iaload, 1) := by decide +kernel
theorem dX6_fixedBy_32 : decode cX6_fixedBy 32 = .ok (.iadd, 1) := by decide +kernel
theorem dX6_fixedBy_33 : decode cX6_fixedBy 33 = .ok (.istore_n 3, 1) := by decide +kernel
theorem dX6_fixedBy_34 : decode cX6_fixedBy 34 = .ok (.iload_n 3, 1) := by decide +kernel
theorem dX6_fixedBy_35 : decode cX6_fixedBy 35 = .ok (.aload_n 0, 1) := by decide +kernel
theorem dX6_fixedBy_36 : decode cX6_fixedBy 36 = .ok (.iload_n 1, 1) := by decide +kernel
theorem dX6_fixedBy_37 : decode cX6_fixedBy 37 = .ok (.iload_n 2, 1) := by decide +kernel
theorem dX6_fixedBy_38 : decode cX6_fixedBy 38 = .ok (.iconst 1, 1) := by decide +kernel
theorem dX6_fixedBy_39 : decode cX6_fixedBy 39 = .ok (.isub, 1) := by decide +kernel
theorem dX6_fixedBy_40 : decode cX6_fixedBy 40 = .ok (.iconst 2, 1) := by decide +kernel
theorem dX6_fixedBy_41 : decode cX6_fixedBy 41 = .ok (.invokevirtual 65, 3) := by decide +kernel
theorem dX6_fixedBy_44 : decode cX6_fixedBy 44 = .ok (.if_icmp .gt 20, 3) := by decide +kernel
theorem dX6_fixedBy_47 : decode cX6_fixedBy 47 = .ok (.iload_n 3, 1) := by decide +kernel
theorem dX6_fixedBy_48 : decode cX6_fixedBy 48 = .ok (.aload_n 0, 1) := by decide +kernel
theorem dX6_fixedBy_49 : decode cX6_fixedBy 49 = .ok (.iload_n 1, 1) := by decide +kernel
theorem dX6_fixedBy_50 : decode cX6_fixedBy 50 = .ok (.iload_n 2, 1) := by decide +kernel
theorem dX6_fixedBy_51 : decode cX6_fixedBy 51 = .ok (.iconst 1, 1) := by decide +kernel
theorem dX6_fixedBy_52 : decode cX6_fixedBy 52 = .ok (.iadd, 1) := by decide +kernel
theorem dX6_fixedBy_53 : decode cX6_fixedBy 53 = .ok (.iconst 2, 1) := by decide +kernel
theorem dX6_fixedBy_54 : decode cX6_fixedBy 54 = .ok (.invokevirtual 65, 3) := by decide +kernel
theorem dX6_fixedBy_57 : decode cX6_fixedBy 57 = .ok (.if_icmp .gt 7, 3) := by decide +kernel
theorem dX6_fixedBy_60 : decode cX6_fixedBy 60 = .ok (.iconst 1, 1) := by decide +kernel
theorem dX6_fixedBy_61 : decode cX6_fixedBy 61 = .ok (.goto 4, 3) := by decide +kernel
theorem dX6_fixedBy_64 : decode cX6_fixedBy 64 = .ok (.iconst 0, 1) := by decide +kernel
theorem dX6_fixedBy_65 : decode cX6_fixedBy 65 = .ok (.istore 4, 2) := by decide +kernel
theorem dX6_fixedBy_67 : decode cX6_fixedBy 67 = .ok (.aload_n 0, 1) := by decide +kernel
theorem dX6_fixedBy_68 : decode cX6_fixedBy 68 = .ok (.iload_n 1, 1) := by decide +kernel
theorem dX6_fixedBy_69 : decode cX6_fixedBy 69 = .ok (.iload_n 2, 1) := by decide +kernel
theorem dX6_fixedBy_70 : decode cX6_fixedBy 70 = .ok (.iconst 1, 1) := by decide +kernel
theorem dX6_fixedBy_71 : decode cX6_fixedBy 71 = .ok (.isub, 1) := by decide +kernel
theorem dX6_fixedBy_72 : decode cX6_fixedBy 72 = .ok (.iload_n 2, 1) := by decide +kernel
theorem dX6_fixedBy_73 : decode cX6_fixedBy 73 = .ok (.iload_n 2, 1) := by decide +kernel
theorem dX6_fixedBy_74 : decode cX6_fixedBy 74 = .ok (.iconst 1, 1) := by decide +kernel
theorem dX6_fixedBy_75 : decode cX6_fixedBy 75 = .ok (.iadd, 1) := by decide +kernel
theorem dX6_fixedBy_76 : decode cX6_fixedBy 76 = .ok (.aload_n 0, 1) := by decide +kernel
theorem dX6_fixedBy_77 : decode cX6_fixedBy 77 = .ok (.getfield 7, 3) := by decide +kernel
theorem dX6_fixedBy_80 : decode cX6_fixedBy 80 = .ok (.sipush 298, 3) := by decide +kernel
theorem dX6_fixedBy_83 : decode cX6_fixedBy 83 = .ok (.iaload, 1) := by decide +kernel
theorem dX6_fixedBy_84 : decode cX6_fixedBy 84 = .ok (.invokevirtual 90, 3) := by decide +kernel
theorem dX6_fixedBy_87 : decode cX6_fixedBy 87 = .ok (.ifCond .eq 7, 3) := by decide +kernel
theorem dX6_fixedBy_90 : decode cX6_fixedBy 90 = .ok (.iconst 2, 1) := by decide +kernel
theorem dX6_fixedBy_91 : decode cX6_fixedBy 91 = .ok (.goto 4, 3) := by decide +kernel
theorem dX6_fixedBy_94 : decode cX6_fixedBy 94 = .ok (.iconst 0, 1) := by decide +kernel
theorem dX6_fixedBy_95 : decode cX6_fixedBy 95 = .ok (.iload 4, 2) := by decide +kernel
theorem dX6_fixedBy_97 : decode cX6_fixedBy 97 = .ok (.ifCond .eq 7, 3) := by decide +kernel
theorem dX6_fixedBy_100 : decode cX6_fixedBy 100 = .ok (.iconst 4, 1) := by decide +kernel
theorem dX6_fixedBy_101 : decode cX6_fixedBy 101 = .ok (.goto 4, 3) := by decide +kernel
theorem dX6_fixedBy_104 : decode cX6_fixedBy 104 = .ok (.iconst 0, 1) := by decide +kernel
theorem dX6_fixedBy_105 : decode cX6_fixedBy 105 = .ok (.iadd, 1) := by decide +kernel
theorem dX6_fixedBy_106 : decode cX6_fixedBy 106 = .ok (.ireturn, 1) := by decide +kernel
set_option maxRecDepth 20000 in
theorem ggX6_fixedSet_X6_points : GoodIn wsX6_fixedSet wsX6_points := goodIn_r _ [5, 6, 20, 21, 22, 23, 24, 25, 26, 27, 28, 29, 30, 31, 32, 33, 34, 35] (by decide +kernel) (by decide +kernel)
set_option maxRecDepth 20000 in
theorem gX6_fixedSet_X6_points : GoodIn wsX6_fixedSet (wsV RX6 47 RX6 yX6_points wsX6_points) := goodIn_app (goodIn_of _ (by decide +kernel)) ggX6_fixedSet_X6_points
set_option maxRecDepth 20000 in
theorem ggX6_fixedSet_X6_fixedBy : GoodIn wsX6_fixedSet wsX6_fixedBy := goodIn_r _ [10, 6, 1, 2, 3, 4, 5, 11, 12, 13, 14, 15, 16, 17, 18, 19, 20, 21, 22, 23, 24, 25, 26, 27, 28, 29, 30, 31, 32, 33, 34, 35] (by decide +kernel) (by decide +kernel)
set_option maxRecDepth 20000 in
theorem gX6_fixedSet_X6_fixedBy : GoodIn wsX6_fixedSet (wsV RX6 94 RX6 yX6_fixedBy wsX6_fixedBy) := goodIn_app (goodIn_of _ (by decide +kernel)) ggX6_fixedSet_X6_fixedBy
theorem dX6_fixedSet_0 : decode cX6_fixedSet 0 = .ok (.iconst 0, 1) := by decide +kernel
theorem dX6_fixedSet_1 : decode cX6_fixedSet 1 = .ok (.istore_n 2, 1) := by decide +kernel
theorem dX6_fixedSet_2 : decode cX6_fixedSet 2 = .ok (.iconst 0, 1) := by decide +kernel
theorem dX6_fixedSet_3 : decode cX6_fixedSet 3 = .ok (.istore_n 3, 1) := by decide +kernel
theorem dX6_fixedSet_4 : decode cX6_fixedSet 4 = .ok (.iload_n 3, 1) := by decide +kernel
theorem dX6_fixedSet_5 : decode cX6_fixedSet 5 = .ok (.aload_n 0, 1) := by decide +kernel
theorem dX6_fixedSet_6 : decode cX6_fixedSet 6 = .ok (.iload_n 1, 1) := by decide +kernel
theorem dX6_fixedSet_7 : decode cX6_fixedSet 7 = .ok (.invokevirtual 47, 3) := by decide +kernel
theorem dX6_fixedSet_10 : decode cX6_fixedSet 10 = .ok (.if_icmp .ge 28, 3) := by decide +kernel
theorem dX6_fixedSet_13 : decode cX6_fixedSet 13 = .ok (.iload_n 2, 1) := by decide +kernel
theorem dX6_fixedSet_14 : decode cX6_fixedSet 14 = .ok (.aload_n 0, 1) := by decide +kernel
theorem dX6_fixedSet_15 : decode cX6_fixedSet 15 = .ok (.iload_n 1, 1) := by decide +kernel
theorem dX6_fixedSet_16 : decode cX6_fixedSet 16 = .ok (.iload_n 3, 1) := by decide +kernel
theorem dX6_fixedSet_17 : decode cX6_fixedSet 17 = .ok (.invokevirtual 94, 3) := by decide +kernel
theorem dX6_fixedSet_20 : decode cX6_fixedSet 20 = .ok (.ifCond .le 9, 3) := by decide +kernel
theorem dX6_fixedSet_23 : decode cX6_fixedSet 23 = .ok (.iconst 1, 1) := by decide +kernel
theorem dX6_fixedSet_24 : decode cX6_fixedSet 24 = .ok (.iload_n 3, 1) := by decide +kernel
theorem dX6_fixedSet_25 : decode cX6_fixedSet 25 = .ok (.ishl, 1) := by decide +kernel
theorem dX6_fixedSet_26 : decode cX6_fixedSet 26 = .ok (.goto 4, 3) := by decide +kernel
theorem dX6_fixedSet_29 : decode cX6_fixedSet 29 = .ok (.iconst 0, 1) := by decide +kernel
theorem dX6_fixedSet_30 : decode cX6_fixedSet 30 = .ok (.ior, 1) := by decide +kernel
theorem dX6_fixedSet_31 : decode cX6_fixedSet 31 = .ok (.istore_n 2, 1) := by decide +kernel
theorem dX6_fixedSet_32 : decode cX6_fixedSet 32 = .ok (.iinc 3 1, 3) := by decide +kernel
theorem dX6_fixedSet_35 : decode cX6_fixedSet 35 = .ok (.goto (-31), 3) := by decide +kernel
theorem dX6_fixedSet_38 : decode cX6_fixedSet 38 = .ok (.iload_n 2, 1) := by decide +kernel
theorem dX6_fixedSet_39 : decode cX6_fixedSet 39 = .ok (.ireturn, 1) := by decide +kernel
set_option maxRecDepth 20000 in
theorem ggX6_farthest_X6_findDistance : GoodIn wsX6_farthest wsX6_findDistance := goodIn_r _ [7, 2, 1, 8, 9, 10, 6, 11, 12, 13, 14, 15, 16, 17, 18, 19, 20, 21, 22, 23, 24, 25, 26, 27, 28, 29, 30, 31, 32] (by decide +kernel) (by decide +kernel)
set_option maxRecDepth 20000 in
theorem gX6_farthest_X6_findDistance : GoodIn wsX6_farthest (wsV RX6 80 RX6 yX6_findDistance wsX6_findDistance) := goodIn_app (goodIn_of _ (by decide +kernel)) ggX6_farthest_X6_findDistance
theorem dX6_farthest_0 : decode cX6_farthest 0 = .ok (.iconst (-1), 1) := by decide +kernel
theorem dX6_farthest_1 : decode cX6_farthest 1 = .ok (.istore 5, 2) := by decide +kernel
theorem dX6_farthest_3 : decode cX6_farthest 3 = .ok (.iload 4, 2) := by decide +kernel
theorem dX6_farthest_5 : decode cX6_farthest 5 = .ok (.i2l, 1) := by decide +kernel
theorem dX6_farthest_6 : decode cX6_farthest 6 = .ok (.iload 4, 2) := by decide +kernel
theorem dX6_farthest_8 : decode cX6_farthest 8 = .ok (.i2l, 1) := by decide +kernel
theorem dX6_farthest_9 : decode cX6_farthest 9 = .ok (.lmul, 1) := by decide +kernel
theorem dX6_farthest_10 : decode cX6_farthest 10 = .ok (.lstore 6, 2) := by decide +kernel
theorem dX6_farthest_12 : decode cX6_farthest 12 = .ok (.lconst 1, 1) := by decide +kernel
theorem dX6_farthest_13 : decode cX6_farthest 13 = .ok (.lstore 8, 2) := by decide +kernel
theorem dX6_farthest_15 : decode cX6_farthest 15 = .ok (.iload_n 2, 1) := by decide +kernel
theorem dX6_farthest_16 : decode cX6_farthest 16 = .ok (.iconst 1, 1) := by decide +kernel
theorem dX6_farthest_17 : decode cX6_farthest 17 = .ok (.iadd, 1) := by decide +kernel
theorem dX6_farthest_18 : decode cX6_farthest 18 = .ok (.istore 10, 2) := by decide +kernel
theorem dX6_farthest_20 : decode cX6_farthest 20 = .ok (.iload 10, 2) := by decide +kernel
theorem dX6_farthest_22 : decode cX6_farthest 22 = .ok (.iload_n 3, 1) := by decide +kernel
theorem dX6_farthest_23 : decode cX6_farthest 23 = .ok (.if_icmp .ge 52, 3) := by decide +kernel
theorem dX6_farthest_26 : decode cX6_farthest 26 = .ok (.aload_n 0, 1) := by decide +kernel
theorem dX6_farthest_27 : decode cX6_farthest 27 = .ok (.iload_n 1, 1) := by decide +kernel
theorem dX6_farthest_28 : decode cX6_farthest 28 = .ok (.iload 10, 2) := by decide +kernel
theorem dX6_farthest_30 : decode cX6_farthest 30 = .ok (.iload_n 2, 1) := by decide +kernel
theorem dX6_farthest_31 : decode cX6_farthest 31 = .ok (.iload_n 3, 1) := by decide +kernel
theorem dX6_farthest_32 : decode cX6_farthest 32 = .ok (.invokevirtual 80, 3) := by decide +kernel
theorem dX6_farthest_35 : decode cX6_farthest 35 = .ok (.aload_n 0, 1) := by decide +kernel
theorem dX6_farthest_36 : decode cX6_farthest 36 = .ok (.getfield 73, 3) := by decide +kernel
theorem dX6_farthest_39 : decode cX6_farthest 39 = .ok (.lload 8, 2) := by decide +kernel
theorem dX6_farthest_41 : decode cX6_farthest 41 = .ok (.lmul, 1) := by decide +kernel
theorem dX6_farthest_42 : decode cX6_farthest 42 = .ok (.lload 6, 2) := by decide +kernel
theorem dX6_farthest_44 : decode cX6_farthest 44 = .ok (.aload_n 0, 1) := by decide +kernel
theorem dX6_farthest_45 : decode cX6_farthest 45 = .ok (.getfield 69, 3) := by decide +kernel
theorem dX6_farthest_48 : decode cX6_farthest 48 = .ok (.lmul, 1) := by decide +kernel
theorem dX6_farthest_49 : decode cX6_farthest 49 = .ok (.lcmp, 1) := by decide +kernel
theorem dX6_farthest_50 : decode cX6_farthest 50 = .ok (.ifCond .le 19, 3) := by decide +kernel
theorem dX6_farthest_53 : decode cX6_farthest 53 = .ok (.iload 10, 2) := by decide +kernel
theorem dX6_farthest_55 : decode cX6_farthest 55 = .ok (.istore 5, 2) := by decide +kernel
theorem dX6_farthest_57 : decode cX6_farthest 57 = .ok (.aload_n 0, 1) := by decide +kernel
theorem dX6_farthest_58 : decode cX6_farthest 58 = .ok (.getfield 73, 3) := by decide +kernel
theorem dX6_farthest_61 : decode cX6_farthest 61 = .ok (.lstore 6, 2) := by decide +kernel
theorem dX6_farthest_63 : decode cX6_farthest 63 = .ok (.aload_n 0, 1) := by decide +kernel
theorem dX6_farthest_64 : decode cX6_farthest 64 = .ok (.getfield 69, 3) := by decide +kernel
theorem dX6_farthest_67 : decode cX6_farthest 67 = .ok (.lstore 8, 2) := by decide +kernel
theorem dX6_farthest_69 : decode cX6_farthest 69 = .ok (.iinc 10 1, 3) := by decide +kernel
theorem dX6_farthest_72 : decode cX6_farthest 72 = .ok (.goto (-52), 3) := by decide +kernel
theorem dX6_farthest_75 : decode cX6_farthest 75 = .ok (.iload 5, 2) := by decide +kernel
theorem dX6_farthest_77 : decode cX6_farthest 77 = .ok (.ireturn, 1) := by decide +kernel
set_option maxRecDepth 20000 in
theorem ggX6_split_X6_fixedSet : GoodIn wsX6_split wsX6_fixedSet := goodIn_r _ [5, 6, 7, 8, 4, 9, 10, 11, 12, 13, 14, 15, 16, 17, 18, 19, 20, 21, 22, 23, 44, 45, 46, 47, 48, 49, 50, 51, 52, 53, 54, 55, 56, 57, 58, 59] (by decide +kernel) (by decide +kernel)
set_option maxRecDepth 20000 in
theorem gX6_split_X6_fixedSet : GoodIn wsX6_split (wsV RX6 98 RX6 yX6_fixedSet wsX6_fixedSet) := goodIn_app (goodIn_of _ (by decide +kernel)) ggX6_split_X6_fixedSet
set_option maxRecDepth 20000 in
theorem ggX6_split_X6_points : GoodIn wsX6_split wsX6_points := goodIn_r _ [9, 10, 44, 45, 46, 47, 48, 49, 50, 51, 52, 53, 54, 55, 56, 57, 58, 59] (by decide +kernel) (by decide +kernel)
set_option maxRecDepth 20000 in
theorem gX6_split_X6_points : GoodIn wsX6_split (wsV RX6 47 RX6 yX6_points wsX6_points) := goodIn_app (goodIn_of _ (by decide +kernel)) ggX6_split_X6_points
set_option maxRecDepth 20000 in
theorem ggX6_split_X6_behind : GoodIn wsX6_split wsX6_behind := goodIn_r _ [26, 27, 28, 4, 29] (by decide +kernel) (by decide +kernel)
set_option maxRecDepth 20000 in
theorem gX6_split_X6_behind : GoodIn wsX6_split (va_wsS RX6 101 yX6_behind wsX6_behind) := goodIn_app (goodIn_of _ (by decide +kernel)) ggX6_split_X6_behind
set_option maxRecDepth 20000 in
theorem ggX6_split_X6_farthest : GoodIn wsX6_split wsX6_farthest := goodIn_r _ [33, 34, 35, 36, 37, 38, 4, 39, 15, 16, 17, 18, 10, 40, 41, 42, 43, 44, 45, 46, 47, 48, 49, 50, 51, 52, 53, 54, 55, 56, 57, 58, 59] (by decide +kernel) (by decide +kernel)
set_option maxRecDepth 20000 in
theorem gX6_split_X6_farthest : GoodIn wsX6_split (wsV RX6 104 RX6 yX6_farthest wsX6_farthest) := goodIn_app (goodIn_of _ (by decide +kernel)) ggX6_split_X6_farthest
theorem dX6_split_0 : decode cX6_split 0 = .ok (.aload_n 0, 1) := by decide +kernel
theorem dX6_split_1 : decode cX6_split 1 = .ok (.iload_n 1, 1) := by decide +kernel
theorem dX6_split_2 : decode cX6_split 2 = .ok (.invokevirtual 98, 3) := by decide +kernel
theorem dX6_split_5 : decode cX6_split 5 = .ok (.istore_n 3, 1) := by decide +kernel
theorem dX6_split_6 : decode cX6_split 6 = .ok (.iconst 0, 1) := by decide +kernel
theorem dX6_split_7 : decode cX6_split 7 = .ok (.istore 4, 2) := by decide +kernel
theorem dX6_split_9 : decode cX6_split 9 = .ok (.iload 4, 2) := by decide +kernel
theorem dX6_split_11 : decode cX6_split 11 = .ok (.aload_n 0, 1) := by decide +kernel
theorem dX6_split_12 : decode cX6_split 12 = .ok (.iload_n 1, 1) := by decide +kernel
theorem dX6_split_13 : decode cX6_split 13 = .ok (.invokevirtual 47, 3) := by decide +kernel
theorem dX6_split_16 : decode cX6_split 16 = .ok (.iconst 1, 1) := by decide +kernel
theorem dX6_split_17 : decode cX6_split 17 = .ok (.isub, 1) := by decide +kernel
theorem dX6_split_18 : decode cX6_split 18 = .ok (.if_icmp .ge 45, 3) := by decide +kernel
theorem dX6_split_21 : decode cX6_split 21 = .ok (.iload_n 3, 1) := by decide +kernel
theorem dX6_split_22 : decode cX6_split 22 = .ok (.iload 4, 2) := by decide +kernel
theorem dX6_split_24 : decode cX6_split 24 = .ok (.invokestatic 101, 3) := by decide +kernel
theorem dX6_split_27 : decode cX6_split 27 = .ok (.istore 5, 2) := by decide +kernel
theorem dX6_split_29 : decode cX6_split 29 = .ok (.aload_n 0, 1) := by decide +kernel
theorem dX6_split_30 : decode cX6_split 30 = .ok (.iload_n 1, 1) := by decide +kernel
theorem dX6_split_31 : decode cX6_split 31 = .ok (.iload 4, 2) := by decide +kernel
theorem dX6_split_33 : decode cX6_split 33 = .ok (.iload 5, 2) := by decide +kernel
theorem dX6_split_35 : decode cX6_split 35 = .ok (.iload_n 2, 1) := by decide +kernel
theorem dX6_split_36 : decode cX6_split 36 = .ok (.invokevirtual 104, 3) := by decide +kernel
theorem dX6_split_39 : decode cX6_split 39 = .ok (.istore 6, 2) := by decide +kernel
theorem dX6_split_41 : decode cX6_split 41 = .ok (.iload 6, 2) := by decide +kernel
theorem dX6_split_43 : decode cX6_split 43 = .ok (.ifCond .ge 10, 3) := by decide +kernel
theorem dX6_split_46 : decode cX6_split 46 = .ok (.iload 5, 2) := by decide +kernel
theorem dX6_split_48 : decode cX6_split 48 = .ok (.istore 4, 2) := by decide +kernel
theorem dX6_split_50 : decode cX6_split 50 = .ok (.goto 10, 3) := by decide +kernel
theorem dX6_split_53 : decode cX6_split 53 = .ok (.iload_n 3, 1) := by decide +kernel
theorem dX6_split_54 : decode cX6_split 54 = .ok (.iconst 1, 1) := by decide +kernel
theorem dX6_split_55 : decode cX6_split 55 = .ok (.iload 6, 2) := by decide +kernel
theorem dX6_split_57 : decode cX6_split 57 = .ok (.ishl, 1) := by decide +kernel
theorem dX6_split_58 : decode cX6_split 58 = .ok (.ior, 1) := by decide +kernel
theorem dX6_split_59 : decode cX6_split 59 = .ok (.istore_n 3, 1) := by decide +kernel
theorem dX6_split_60 : decode cX6_split 60 = .ok (.goto (-51), 3) := by decide +kernel
theorem dX6_split_63 : decode cX6_split 63 = .ok (.iload_n 3, 1) := by decide +kernel
theorem dX6_split_64 : decode cX6_split 64 = .ok (.ireturn, 1) := by decide +kernel
set_option maxRecDepth 20000 in
theorem ggX6_canSkip_X6_has : GoodIn wsX6_canSkip wsX6_has := goodIn_r _ [4] (by decide +kernel) (by decide +kernel)
set_option maxRecDepth 20000 in
theorem gX6_canSkip_X6_has : GoodIn wsX6_canSkip (va_wsS RX6 54 yX6_has wsX6_has) := goodIn_app (goodIn_of _ (by decide +kernel)) ggX6_canSkip_X6_has
set_option maxRecDepth 20000 in
theorem ggX6_canSkip_X6_isWithin : GoodIn wsX6_canSkip wsX6_isWithin := goodIn_r _ [8, 9, 10, 11, 12, 13, 3, 14, 15, 16, 17, 18, 19, 20, 21, 22, 23, 24, 25, 26, 27, 28, 29, 30, 31, 32, 33, 34, 35, 36, 37, 38, 39] (by decide +kernel) (by decide +kernel)
set_option maxRecDepth 20000 in
theorem gX6_canSkip_X6_isWithin : GoodIn wsX6_canSkip (wsV RX6 108 RX6 yX6_isWithin wsX6_isWithin) := goodIn_app (goodIn_of _ (by decide +kernel)) ggX6_canSkip_X6_isWithin
theorem dX6_canSkip_0 : decode cX6_canSkip 0 = .ok (.iconst 1, 1) := by decide +kernel
theorem dX6_canSkip_1 : decode cX6_canSkip 1 = .ok (.istore 6, 2) := by decide +kernel
theorem dX6_canSkip_3 : decode cX6_canSkip 3 = .ok (.iload_n 2, 1) := by decide +kernel
theorem dX6_canSkip_4 : decode cX6_canSkip 4 = .ok (.iconst 1, 1) := by decide +kernel
theorem dX6_canSkip_5 : decode cX6_canSkip 5 = .ok (.iadd, 1) := by decide +kernel
theorem dX6_canSkip_6 : decode cX6_canSkip 6 = .ok (.istore 7, 2) := by decide +kernel
theorem dX6_canSkip_8 : decode cX6_canSkip 8 = .ok (.iload 7, 2) := by decide +kernel
theorem dX6_canSkip_10 : decode cX6_canSkip 10 = .ok (.iload_n 3, 1) := by decide +kernel
theorem dX6_canSkip_11 : decode cX6_canSkip 11 = .ok (.if_icmp .ge 45, 3) := by decide +kernel
theorem dX6_canSkip_14 : decode cX6_canSkip 14 = .ok (.iload 6, 2) := by decide +kernel
theorem dX6_canSkip_16 : decode cX6_canSkip 16 = .ok (.ifCond .eq 31, 3) := by decide +kernel
theorem dX6_canSkip_19 : decode cX6_canSkip 19 = .ok (.iload 5, 2) := by decide +kernel
theorem dX6_canSkip_21 : decode cX6_canSkip 21 = .ok (.iload 7, 2) := by decide +kernel
theorem dX6_canSkip_23 : decode cX6_canSkip 23 = .ok (.invokestatic 54, 3) := by decide +kernel
theorem dX6_canSkip_26 : decode cX6_canSkip 26 = .ok (.ifCond .ne 21, 3) := by decide +kernel
theorem dX6_canSkip_29 : decode cX6_canSkip 29 = .ok (.aload_n 0, 1) := by decide +kernel
theorem dX6_canSkip_30 : decode cX6_canSkip 30 = .ok (.iload_n 1, 1) := by decide +kernel
theorem dX6_canSkip_31 : decode cX6_canSkip 31 = .ok (.iload 7, 2) := by decide +kernel
theorem dX6_canSkip_33 : decode cX6_canSkip 33 = .ok (.iload_n 2, 1) := by decide +kernel
theorem dX6_canSkip_34 : decode cX6_canSkip 34 = .ok (.iload_n 3, 1) := by decide +kernel
theorem dX6_canSkip_35 : decode cX6_canSkip 35 = .ok (.iload 4, 2) := by decide +kernel
theorem dX6_canSkip_37 : decode cX6_canSkip 37 = .ok (.invokevirtual 108, 3) := by decide +kernel
theorem dX6_canSkip_40 : decode cX6_canSkip 40 = .ok (.ifCond .eq 7, 3) := by decide +kernel
theorem dX6_canSkip_43 : decode cX6_canSkip 43 = .ok (.iconst 1, 1) := by decide +kernel
theorem dX6_canSkip_44 : decode cX6_canSkip 44 = .ok (.goto 4, 3) := by decide +kernel
theorem dX6_canSkip_47 : decode cX6_canSkip 47 = .ok (.iconst 0, 1) := by decide +kernel
theorem dX6_canSkip_48 : decode cX6_canSkip 48 = .ok (.istore 6, 2) := by decide +kernel
theorem dX6_canSkip_50 : decode cX6_canSkip 50 = .ok (.iinc 7 1, 3) := by decide +kernel
theorem dX6_canSkip_53 : decode cX6_canSkip 53 = .ok (.goto (-45), 3) := by decide +kernel
theorem dX6_canSkip_56 : decode cX6_canSkip 56 = .ok (.iload 6, 2) := by decide +kernel
theorem dX6_canSkip_58 : decode cX6_canSkip 58 = .ok (.ireturn, 1) := by decide +kernel
set_option maxRecDepth 20000 in
theorem ggX6_fewestPoints_X6_fixedSet : GoodIn wsX6_fewestPoints wsX6_fixedSet := goodIn_r _ [7, 8, 9, 10, 6, 11, 12, 13, 14, 15, 16, 17, 18, 19, 20, 21, 22, 23, 24, 25, 47, 48, 49, 50, 51, 52, 53, 54, 55, 56, 57, 58, 59, 60, 61, 62] (by decide +kernel) (by decide +kernel)
set_option maxRecDepth 20000 in
theorem gX6_fewestPoints_X6_fixedSet : GoodIn wsX6_fewestPoints (wsV RX6 98 RX6 yX6_fixedSet wsX6_fixedSet) := goodIn_app (goodIn_of _ (by decide +kernel)) ggX6_fewestPoints_X6_fixedSet
set_option maxRecDepth 20000 in
theorem ggX6_fewestPoints_X6_points : GoodIn wsX6_fewestPoints wsX6_points := goodIn_r _ [11, 12, 47, 48, 49, 50, 51, 52, 53, 54, 55, 56, 57, 58, 59, 60, 61, 62] (by decide +kernel) (by decide +kernel)
set_option maxRecDepth 20000 in
theorem gX6_fewestPoints_X6_points : GoodIn wsX6_fewestPoints (wsV RX6 47 RX6 yX6_points wsX6_points) := goodIn_app (goodIn_of _ (by decide +kernel)) ggX6_fewestPoints_X6_points
set_option maxRecDepth 20000 in
theorem ggX6_fewestPoints_X6_canSkip : GoodIn wsX6_fewestPoints wsX6_canSkip := goodIn_r _ [29, 30, 31, 6, 32, 33, 34, 35, 36, 37, 38, 39, 40, 41, 42, 17, 18, 19, 20, 12, 43, 44, 45, 46, 47, 48, 49, 50, 51, 52, 53, 54, 55, 56, 57, 58, 59, 60, 61, 62] (by decide +kernel) (by decide +kernel)
set_option maxRecDepth 20000 in
theorem gX6_fewestPoints_X6_canSkip : GoodIn wsX6_fewestPoints (wsV RX6 111 RX6 yX6_canSkip wsX6_canSkip) := goodIn_app (goodIn_of _ (by decide +kernel)) ggX6_fewestPoints_X6_canSkip
theorem dX6_fewestPoints_0 : decode cX6_fewestPoints 0 = .ok (.aload_n 0, 1) := by decide +kernel
theorem dX6_fewestPoints_1 : decode cX6_fewestPoints 1 = .ok (.iload_n 1, 1) := by decide +kernel
theorem dX6_fewestPoints_2 : decode cX6_fewestPoints 2 = .ok (.invokevirtual 98, 3) := by decide +kernel
theorem dX6_fewestPoints_5 : decode cX6_fewestPoints 5 = .ok (.istore_n 3, 1) := by decide +kernel
theorem dX6_fewestPoints_6 : decode cX6_fewestPoints 6 = .ok (.aload_n 0, 1) := by decide +kernel
theorem dX6_fewestPoints_7 : decode cX6_fewestPoints 7 = .ok (.getfield 26, 3) := by decide +kernel
theorem dX6_fewestPoints_10 : decode cX6_fewestPoints 10 = .ok (.iconst 0, 1) := by decide +kernel
theorem dX6_fewestPoints_11 : decode cX6_fewestPoints 11 = .ok (.iconst 1, 1) := by decide +kernel
theorem dX6_fewestPoints_12 : decode cX6_fewestPoints 12 = .ok (.iastore, 1) := by decide +kernel
theorem dX6_fewestPoints_13 : decode cX6_fewestPoints 13 = .ok (.aload_n 0, 1) := by decide +kernel
theorem dX6_fewestPoints_14 : decode cX6_fewestPoints 14 = .ok (.getfield 29, 3) := by decide +kernel
theorem dX6_fewestPoints_17 : decode cX6_fewestPoints 17 = .ok (.iconst 0, 1) := by decide +kernel
theorem dX6_fewestPoints_18 : decode cX6_fewestPoints 18 = .ok (.iconst 1, 1) := by decide +kernel
theorem dX6_fewestPoints_19 : decode cX6_fewestPoints 19 = .ok (.iastore, 1) := by decide +kernel
theorem dX6_fewestPoints_20 : decode cX6_fewestPoints 20 = .ok (.iconst 1, 1) := by decide +kernel
theorem dX6_fewestPoints_21 : decode cX6_fewestPoints 21 = .ok (.istore 4, 2) := by decide +kernel
theorem dX6_fewestPoints_23 : decode cX6_fewestPoints 23 = .ok (.iload 4, 2) := by decide +kernel
theorem dX6_fewestPoints_25 : decode cX6_fewestPoints 25 = .ok (.aload_n 0, 1) := by decide +kernel
theorem dX6_fewestPoints_26 : decode cX6_fewestPoints 26 = .ok (.iload_n 1, 1) := by decide +kernel
theorem dX6_fewestPoints_27 : decode cX6_fewestPoints 27 = .ok (.invokevirtual 47, 3) := by decide +kernel
theorem dX6_fewestPoints_30 : decode cX6_fewestPoints 30 = .ok (.if_icmp .ge 164, 3) := by decide +kernel
theorem dX6_fewestPoints_33 : decode cX6_fewestPoints 33 = .ok (.aload_n 0, 1) := by decide +kernel
theorem dX6_fewestPoints_34 : decode cX6_fewestPoints 34 = .ok (.getfield 26, 3) := by decide +kernel
theorem dX6_fewestPoints_37 : decode cX6_fewestPoints 37 = .ok (.iload 4, 2) := by decide +kernel
theorem dX6_fewestPoints_39 : decode cX6_fewestPoints 39 = .ok (.iconst 0, 1) := by decide +kernel
theorem dX6_fewestPoints_40 : decode cX6_fewestPoints 40 = .ok (.iastore, 1) := by decide +kernel
theorem dX6_fewestPoints_41 : decode cX6_fewestPoints 41 = .ok (.iconst 0, 1) := by decide +kernel
theorem dX6_fewestPoints_42 : decode cX6_fewestPoints 42 = .ok (.istore 5, 2) := by decide +kernel
theorem dX6_fewestPoints_44 : decode cX6_fewestPoints 44 = .ok (.iload 5, 2) := by decide +kernel
theorem dX6_fewestPoints_46 : decode cX6_fewestPoints 46 = .ok (.iload 4, 2) := by decide +kernel
theorem dX6_fewestPoints_48 : decode cX6_fewestPoints 48 = .ok (.if_icmp .ge 140, 3) := by decide +kernel
theorem dX6_fewestPoints_51 : decode cX6_fewestPoints 51 = .ok (.aload_n 0, 1) := by decide +kernel
theorem dX6_fewestPoints_52 : decode cX6_fewestPoints 52 = .ok (.getfield 26, 3) := by decide +kernel
theorem dX6_fewestPoints_55 : decode cX6_fewestPoints 55 = .ok (.iload 4, 2) := by decide +kernel
theorem dX6_fewestPoints_57 : decode cX6_fewestPoints 57 = .ok (.iaload, 1) := by decide +kernel
theorem dX6_fewestPoints_58 : decode cX6_fewestPoints 58 = .ok (.ifCond .eq 63, 3) := by decide +kernel
theorem dX6_fewestPoints_61 : decode cX6_fewestPoints 61 = .ok (.aload_n 0, 1) := by decide +kernel
theorem dX6_fewestPoints_62 : decode cX6_fewestPoints 62 = .ok (.getfield 26, 3) := by decide +kernel
theorem dX6_fewestPoints_65 : decode cX6_fewestPoints 65 = .ok (.iload 5, 2) := by decide +kernel
theorem dX6_fewestPoints_67 : decode cX6_fewestPoints 67 = .ok (.iaload, 1) := by decide +kernel
theorem dX6_fewestPoints_68 : decode cX6_fewestPoints 68 = .ok (.iconst 1, 1) := by decide +kernel
theorem dX6_fewestPoints_69 : decode cX6_fewestPoints 69 = .ok (.iadd, 1) := by decide +kernel
theorem dX6_fewestPoints_70 : decode cX6_fewestPoints 70 = .ok (.aload_n 0, 1) := by decide +kernel
theorem dX6_fewestPoints_71 : decode cX6_fewestPoints 71 = .ok (.getfield 26, 3) := by decide +kernel
theorem dX6_fewestPoints_74 : decode cX6_fewestPoints 74 = .ok (.iload 4, 2) := by decide +kernel
theorem dX6_fewestPoints_76 : decode cX6_fewestPoints 76 = .ok (.iaload, 1) := by decide +kernel
theorem dX6_fewestPoints_77 : decode cX6_fewestPoints 77 = .ok (.if_icmp .lt 44, 3) := by decide +kernel
theorem dX6_fewestPoints_80 : decode cX6_fewestPoints 80 = .ok (.aload_n 0, 1) := by decide +kernel
theorem dX6_fewestPoints_81 : decode cX6_fewestPoints 81 = .ok (.getfield 26, 3) := by decide +kernel
theorem dX6_fewestPoints_84 : decode cX6_fewestPoints 84 = .ok (.iload 5, 2) := by decide +kernel
theorem dX6_fewestPoints_86 : decode cX6_fewestPoints 86 = .ok (.iaload, 1) := by decide +kernel
theorem dX6_fewestPoints_87 : decode cX6_fewestPoints 87 = .ok (.iconst 1, 1) := by decide +kernel
theorem dX6_fewestPoints_88 : decode cX6_fewestPoints 88 = .ok (.iadd, 1) := by decide +kernel
theorem dX6_fewestPoints_89 : decode cX6_fewestPoints 89 = .ok (.aload_n 0, 1) := by decide +kernel
theorem dX6_fewestPoints_90 : decode cX6_fewestPoints 90 = .ok (.getfield 26, 3) := by decide +kernel
theorem dX6_fewestPoints_93 : decode cX6_fewestPoints 93 = .ok (.iload 4, 2) := by decide +kernel
theorem dX6_fewestPoints_95 : decode cX6_fewestPoints 95 = .ok (.iaload, 1) := by decide +kernel
theorem dX6_fewestPoints_96 : decode cX6_fewestPoints 96 = .ok (.if_icmp .ne 29, 3) := by decide +kernel
theorem dX6_fewestPoints_99 : decode cX6_fewestPoints 99 = .ok (.aload_n 0, 1) := by decide +kernel
theorem dX6_fewestPoints_100 : decode cX6_fewestPoints 100 = .ok (.getfield 29, 3) := by decide +kernel
theorem dX6_fewestPoints_103 : decode cX6_fewestPoints 103 = .ok (.iload 5, 2) := by decide +kernel
theorem dX6_fewestPoints_105 : decode cX6_fewestPoints 105 = .ok (.iaload, 1) := by decide +kernel
theorem dX6_fewestPoints_106 : decode cX6_fewestPoints 106 = .ok (.iconst 1, 1) := by decide +kernel
theorem dX6_fewestPoints_107 : decode cX6_fewestPoints 107 = .ok (.iload 4, 2) := by decide +kernel
theorem dX6_fewestPoints_109 : decode cX6_fewestPoints 109 = .ok (.ishl, 1) := by decide +kernel
theorem dX6_fewestPoints_110 : decode cX6_fewestPoints 110 = .ok (.ior, 1) := by decide +kernel
theorem dX6_fewestPoints_111 : decode cX6_fewestPoints 111 = .ok (.aload_n 0, 1) := by decide +kernel
theorem dX6_fewestPoints_112 : decode cX6_fewestPoints 112 = .ok (.getfield 29, 3) := by decide +kernel
theorem dX6_fewestPoints_115 : decode cX6_fewestPoints 115 = .ok (.iload 4, 2) := by decide +kernel
theorem dX6_fewestPoints_117 : decode cX6_fewestPoints 117 = .ok (.iaload, 1) := by decide +kernel
theorem dX6_fewestPoints_118 : decode cX6_fewestPoints 118 = .ok (.if_icmp .ge 7, 3) := by decide +kernel
theorem dX6_fewestPoints_121 : decode cX6_fewestPoints 121 = .ok (.iconst 1, 1) := by decide +kernel
theorem dX6_fewestPoints_122 : decode cX6_fewestPoints 122 = .ok (.goto 4, 3) := by decide +kernel
theorem dX6_fewestPoints_125 : decode cX6_fewestPoints 125 = .ok (.iconst 0, 1) := by decide +kernel
theorem dX6_fewestPoints_126 : decode cX6_fewestPoints 126 = .ok (.istore 6, 2) := by decide +kernel
theorem dX6_fewestPoints_128 : decode cX6_fewestPoints 128 = .ok (.iload 6, 2) := by decide +kernel
theorem dX6_fewestPoints_130 : decode cX6_fewestPoints 130 = .ok (.ifCond .eq 52, 3) := by decide +kernel
theorem dX6_fewestPoints_133 : decode cX6_fewestPoints 133 = .ok (.aload_n 0, 1) := by decide +kernel
theorem dX6_fewestPoints_134 : decode cX6_fewestPoints 134 = .ok (.iload_n 1, 1) := by decide +kernel
theorem dX6_fewestPoints_135 : decode cX6_fewestPoints 135 = .ok (.iload 5, 2) := by decide +kernel
theorem dX6_fewestPoints_137 : decode cX6_fewestPoints 137 = .ok (.iload 4, 2) := by decide +kernel
theorem dX6_fewestPoints_139 : decode cX6_fewestPoints 139 = .ok (.iload_n 2, 1) := by decide +kernel
theorem dX6_fewestPoints_140 : decode cX6_fewestPoints 140 = .ok (.iload_n 3, 1) := by decide +kernel
theorem dX6_fewestPoints_141 : decode cX6_fewestPoints 141 = .ok (.invokevirtual 111, 3) := by decide +kernel
theorem dX6_fewestPoints_144 : decode cX6_fewestPoints 144 = .ok (.ifCond .eq 38, 3) := by decide +kernel
theorem dX6_fewestPoints_147 : decode cX6_fewestPoints 147 = .ok (.aload_n 0, 1) := by decide +kernel
theorem dX6_fewestPoints_148 : decode cX6_fewestPoints 148 = .ok (.getfield 26, 3) := by decide +kernel
theorem dX6_fewestPoints_151 : decode cX6_fewestPoints 151 = .ok (.iload 4, 2) := by decide +kernel
theorem dX6_fewestPoints_153 : decode cX6_fewestPoints 153 = .ok (.aload_n 0, 1) := by decide +kernel
theorem dX6_fewestPoints_154 : decode cX6_fewestPoints 154 = .ok (.getfield 26, 3) := by decide +kernel
theorem dX6_fewestPoints_157 : decode cX6_fewestPoints 157 = .ok (.iload 5, 2) := by decide +kernel
theorem dX6_fewestPoints_159 : decode cX6_fewestPoints 159 = .ok (.iaload, 1) := by decide +kernel
theorem dX6_fewestPoints_160 : decode cX6_fewestPoints 160 = .ok (.iconst 1, 1) := by decide +kernel
theorem dX6_fewestPoints_161 : decode cX6_fewestPoints 161 = .ok (.iadd, 1) := by decide +kernel
theorem dX6_fewestPoints_162 : decode cX6_fewestPoints 162 = .ok (.iastore, 1) := by decide +kernel
theorem dX6_fewestPoints_163 : decode cX6_fewestPoints 163 = .ok (.aload_n 0, 1) := by decide +kernel
theorem dX6_fewestPoints_164 : decode cX6_fewestPoints 164 = .ok (.getfield 29, 3) := by decide +kernel
theorem dX6_fewestPoints_167 : decode cX6_fewestPoints 167 = .ok (.iload 4, 2) := by decide +kernel
theorem dX6_fewestPoints_169 : decode cX6_fewestPoints 169 = .ok (.aload_n 0, 1) := by decide +kernel
theorem dX6_fewestPoints_170 : decode cX6_fewestPoints 170 = .ok (.getfield 29, 3) := by decide +kernel
theorem dX6_fewestPoints_173 : decode cX6_fewestPoints 173 = .ok (.iload 5, 2) := by decide +kernel
theorem dX6_fewestPoints_175 : decode cX6_fewestPoints 175 = .ok (.iaload, 1) := by decide +kernel
theorem dX6_fewestPoints_176 : decode cX6_fewestPoints 176 = .ok (.iconst 1, 1) := by decide +kernel
theorem dX6_fewestPoints_177 : decode cX6_fewestPoints 177 = .ok (.iload 4, 2) := by decide +kernel
theorem dX6_fewestPoints_179 : decode cX6_fewestPoints 179 = .ok (.ishl, 1) := by decide +kernel
theorem dX6_fewestPoints_180 : decode cX6_fewestPoints 180 = .ok (.ior, 1) := by decide +kernel
theorem dX6_fewestPoints_181 : decode cX6_fewestPoints 181 = .ok (.iastore, 1) := by decide +kernel
theorem dX6_fewestPoints_182 : decode cX6_fewestPoints 182 = .ok (.iinc 5 1, 3) := by decide +kernel
theorem dX6_fewestPoints_185 : decode cX6_fewestPoints 185 = .ok (.goto (-141), 3) := by decide +kernel
theorem dX6_fewestPoints_188 : decode cX6_fewestPoints 188 = .ok (.iinc 4 1, 3) := by decide +kernel
theorem dX6_fewestPoints_191 : decode cX6_fewestPoints 191 = .ok (.goto (-168), 3) := by decide +kernel
theorem dX6_fewestPoints_194 : decode cX6_fewestPoints 194 = .ok (.aload_n 0, 1) := by decide +kernel
theorem dX6_fewestPoints_195 : decode cX6_fewestPoints 195 = .ok (.getfield 29, 3) := by decide +kernel
theorem dX6_fewestPoints_198 : decode cX6_fewestPoints 198 = .ok (.aload_n 0, 1) := by decide +kernel
theorem dX6_fewestPoints_199 : decode cX6_fewestPoints 199 = .ok (.iload_n 1, 1) := by decide +kernel
theorem dX6_fewestPoints_200 : decode cX6_fewestPoints 200 = .ok (.invokevirtual 47, 3) := by decide +kernel
theorem dX6_fewestPoints_203 : decode cX6_fewestPoints 203 = .ok (.iconst 1, 1) := by decide +kernel
theorem dX6_fewestPoints_204 : decode cX6_fewestPoints 204 = .ok (.isub, 1) := by decide +kernel
theorem dX6_fewestPoints_205 : decode cX6_fewestPoints 205 = .ok (.iaload, 1) := by decide +kernel
theorem dX6_fewestPoints_206 : decode cX6_fewestPoints 206 = .ok (.ireturn, 1) := by decide +kernel
set_option maxRecDepth 20000 in
theorem ggX6_simplified_X6_split : GoodIn wsX6_simplified wsX6_split := goodIn_r _ [5, 6, 7, 8, 4, 9, 10, 11, 12, 13, 14, 15, 16, 17, 18, 19, 20, 21, 22, 23, 24, 25, 26, 27, 28, 29, 30, 31, 32, 33, 34, 35, 36, 37, 38, 39, 40, 41, 42, 43, 44, 45, 46, 47, 62, 63, 64, 65, 66, 67, 68, 69, 70, 71, 72, 73, 74, 75, 76, 77] (by decide +kernel) (by decide +kernel)
set_option maxRecDepth 20000 in
theorem gX6_simplified_X6_split : GoodIn wsX6_simplified (wsV RX6 114 RX6 yX6_split wsX6_split) := goodIn_app (goodIn_of _ (by decide +kernel)) ggX6_simplified_X6_split
set_option maxRecDepth 20000 in
theorem ggX6_simplified_X6_fewestPoints : GoodIn wsX6_simplified wsX6_fewestPoints := goodIn_r _ [51, 52, 53, 6, 7, 8, 4, 9, 10, 11, 12, 13, 14, 15, 16, 17, 18, 19, 20, 21, 22, 23, 24, 25, 26, 27, 54, 55, 56, 57, 31, 32, 33, 58, 59, 60, 61, 38, 39, 40, 41, 42, 43, 44, 45, 46, 47, 62, 63, 64, 65, 66, 67, 68, 69, 70, 71, 72, 73, 74, 75, 76, 77] (by decide +kernel) (by decide +kernel)
set_option maxRecDepth 20000 in
theorem gX6_simplified_X6_fewestPoints : GoodIn wsX6_simplified (wsV RX6 117 RX6 yX6_fewestPoints wsX6_fewestPoints) := goodIn_app (goodIn_of _ (by decide +kernel)) ggX6_simplified_X6_fewestPoints
theorem dX6_simplified_0 : decode cX6_simplified 0 = .ok (.iload_n 3, 1) := by decide +kernel
theorem dX6_simplified_1 : decode cX6_simplified 1 = .ok (.ifCond .ne 12, 3) := by decide +kernel
theorem dX6_simplified_4 : decode cX6_simplified 4 = .ok (.aload_n 0, 1) := by decide +kernel
theorem dX6_simplified_5 : decode cX6_simplified 5 = .ok (.iload_n 1, 1) := by decide +kernel
theorem dX6_simplified_6 : decode cX6_simplified 6 = .ok (.iload_n 2, 1) := by decide +kernel
theorem dX6_simplified_7 : decode cX6_simplified 7 = .ok (.invokevirtual 114, 3) := by decide +kernel
theorem dX6_simplified_10 : decode cX6_simplified 10 = .ok (.goto 9, 3) := by decide +kernel
theorem dX6_simplified_13 : decode cX6_simplified 13 = .ok (.aload_n 0, 1) := by decide +kernel
theorem dX6_simplified_14 : decode cX6_simplified 14 = .ok (.iload_n 1, 1) := by decide +kernel
theorem dX6_simplified_15 : decode cX6_simplified 15 = .ok (.iload_n 2, 1) := by decide +kernel
theorem dX6_simplified_16 : decode cX6_simplified 16 = .ok (.invokevirtual 117, 3) := by decide +kernel
theorem dX6_simplified_19 : decode cX6_simplified 19 = .ok (.ireturn, 1) := by decide +kernel
set_option maxRecDepth 20000 in
theorem ggX6_isAt_X6_in : GoodIn wsX6_isAt wsX6_in := goodIn_r _ [4] (by decide +kernel) (by decide +kernel)
set_option maxRecDepth 20000 in
theorem gX6_isAt_X6_in : GoodIn wsX6_isAt (va_wsS RX6 39 yX6_in wsX6_in) := goodIn_app (goodIn_of _ (by decide +kernel)) ggX6_isAt_X6_in
theorem dX6_isAt_0 : decode cX6_isAt 0 = .ok (.iload_n 0, 1) := by decide +kernel
theorem dX6_isAt_1 : decode cX6_isAt 1 = .ok (.iconst 0, 1) := by decide +kernel
theorem dX6_isAt_2 : decode cX6_isAt 2 = .ok (.bipush 99, 2) := by decide +kernel
theorem dX6_isAt_4 : decode cX6_isAt 4 = .ok (.invokestatic 39, 3) := by decide +kernel
theorem dX6_isAt_7 : decode cX6_isAt 7 = .ok (.ifCond .eq 17, 3) := by decide +kernel
theorem dX6_isAt_10 : decode cX6_isAt 10 = .ok (.iload_n 1, 1) := by decide +kernel
theorem dX6_isAt_11 : decode cX6_isAt 11 = .ok (.iconst 0, 1) := by decide +kernel
theorem dX6_isAt_12 : decode cX6_isAt 12 = .ok (.bipush 99, 2) := by decide +kernel
theorem dX6_isAt_14 : decode cX6_isAt 14 = .ok (.invokestatic 39, 3) := by decide +kernel
theorem dX6_isAt_17 : decode cX6_isAt 17 = .ok (.ifCond .eq 7, 3) := by decide +kernel
theorem dX6_isAt_20 : decode cX6_isAt 20 = .ok (.iconst 1, 1) := by decide +kernel
theorem dX6_isAt_21 : decode cX6_isAt 21 = .ok (.goto 4, 3) := by decide +kernel
theorem dX6_isAt_24 : decode cX6_isAt 24 = .ok (.iconst 0, 1) := by decide +kernel
theorem dX6_isAt_25 : decode cX6_isAt 25 = .ok (.ireturn, 1) := by decide +kernel
set_option maxRecDepth 20000 in
theorem ggX6_begin_X6_keepAll : GoodIn wsX6_begin wsX6_keepAll := goodIn_r _ [6, 1, 7, 8, 9, 5, 10, 11, 12, 13, 14, 15, 16, 17, 18, 19, 20, 21, 22, 23, 24, 25, 26, 27, 28, 29, 30] (by decide +kernel) (by decide +kernel)
set_option maxRecDepth 20000 in
theorem gX6_begin_X6_keepAll : GoodIn wsX6_begin (wsV RX6 120 RX6 yX6_keepAll wsX6_keepAll) := goodIn_app (goodIn_of _ (by decide +kernel)) ggX6_begin_X6_keepAll
theorem dX6_begin_0 : decode cX6_begin 0 = .ok (.aload_n 0, 1) := by decide +kernel
theorem dX6_begin_1 : decode cX6_begin 1 = .ok (.getfield 7, 3) := by decide +kernel
theorem dX6_begin_4 : decode cX6_begin 4 = .ok (.sipush 296, 3) := by decide +kernel
theorem dX6_begin_7 : decode cX6_begin 7 = .ok (.iaload, 1) := by decide +kernel
theorem dX6_begin_8 : decode cX6_begin 8 = .ok (.istore_n 2, 1) := by decide +kernel
theorem dX6_begin_9 : decode cX6_begin 9 = .ok (.aload_n 0, 1) := by decide +kernel
theorem dX6_begin_10 : decode cX6_begin 10 = .ok (.getfield 7, 3) := by decide +kernel
theorem dX6_begin_13 : decode cX6_begin 13 = .ok (.sipush 296, 3) := by decide +kernel
theorem dX6_begin_16 : decode cX6_begin 16 = .ok (.dup2, 1) := by decide +kernel
theorem dX6_begin_17 : decode cX6_begin 17 = .ok (.iaload, 1) := by decide +kernel
theorem dX6_begin_18 : decode cX6_begin 18 = .ok (.iconst 1, 1) := by decide +kernel
theorem dX6_begin_19 : decode cX6_begin 19 = .ok (.iadd, 1) := by decide +kernel
theorem dX6_begin_20 : decode cX6_begin 20 = .ok (.iastore, 1) := by decide +kernel
theorem dX6_begin_21 : decode cX6_begin 21 = .ok (.aload_n 0, 1) := by decide +kernel
theorem dX6_begin_22 : decode cX6_begin 22 = .ok (.getfield 7, 3) := by decide +kernel
theorem dX6_begin_25 : decode cX6_begin 25 = .ok (.bipush 74, 2) := by decide +kernel
theorem dX6_begin_27 : decode cX6_begin 27 = .ok (.iload_n 2, 1) := by decide +kernel
theorem dX6_begin_28 : decode cX6_begin 28 = .ok (.imul, 1) := by decide +kernel
theorem dX6_begin_29 : decode cX6_begin 29 = .ok (.iload_n 1, 1) := by decide +kernel
theorem dX6_begin_30 : decode cX6_begin 30 = .ok (.iastore, 1) := by decide +kernel
theorem dX6_begin_31 : decode cX6_begin 31 = .ok (.aload_n 0, 1) := by decide +kernel
theorem dX6_begin_32 : decode cX6_begin 32 = .ok (.iload_n 2, 1) := by decide +kernel
theorem dX6_begin_33 : decode cX6_begin 33 = .ok (.invokevirtual 120, 3) := by decide +kernel
theorem dX6_begin_36 : decode cX6_begin 36 = .ok (.iload_n 2, 1) := by decide +kernel
theorem dX6_begin_37 : decode cX6_begin 37 = .ok (.ireturn, 1) := by decide +kernel
set_option maxRecDepth 20000 in
theorem ggX6_stroke_X6_isAt : GoodIn wsX6_stroke wsX6_isAt := goodIn_r _ [6, 7, 8, 5, 9] (by decide +kernel) (by decide +kernel)
set_option maxRecDepth 20000 in
theorem gX6_stroke_X6_isAt : GoodIn wsX6_stroke (va_wsS RX6 124 yX6_isAt wsX6_isAt) := goodIn_app (goodIn_of _ (by decide +kernel)) ggX6_stroke_X6_isAt
set_option maxRecDepth 20000 in
theorem ggX6_stroke_X6_record : GoodIn wsX6_stroke wsX6_record := goodIn_r _ [13, 14, 15, 1, 36, 37, 38, 39, 40, 41, 42, 43, 44, 45, 46, 47, 48, 49, 50, 51] (by decide +kernel) (by decide +kernel)
set_option maxRecDepth 20000 in
theorem gX6_stroke_X6_record : GoodIn wsX6_stroke (wsV RX6 62 RX6 yX6_record wsX6_record) := goodIn_app (goodIn_of _ (by decide +kernel)) ggX6_stroke_X6_record
set_option maxRecDepth 20000 in
theorem ggX6_stroke_X6_begin : GoodIn wsX6_stroke wsX6_begin := goodIn_r _ [19, 1, 20, 21, 22, 5, 23, 24, 25, 26, 27, 28, 29, 30, 31, 36, 37, 38, 39, 40, 41, 42, 43, 44, 45, 46, 47, 48, 49, 50, 51] (by decide +kernel) (by decide +kernel)
set_option maxRecDepth 20000 in
theorem gX6_stroke_X6_begin : GoodIn wsX6_stroke (wsV RX6 127 RX6 yX6_begin wsX6_begin) := goodIn_app (goodIn_of _ (by decide +kernel)) ggX6_stroke_X6_begin
set_option maxRecDepth 20000 in
theorem ggX6_stroke_X6_put : GoodIn wsX6_stroke wsX6_put := goodIn_r _ [35, 1, 36, 37, 38, 39, 40, 41, 42, 43, 44, 45, 46, 47, 48, 49, 50, 51] (by decide +kernel) (by decide +kernel)
set_option maxRecDepth 20000 in
theorem gX6_stroke_X6_put : GoodIn wsX6_stroke (wsV RX6 130 RX6 yX6_put wsX6_put) := goodIn_app (goodIn_of _ (by decide +kernel)) ggX6_stroke_X6_put
theorem dX6_stroke_0 : decode cX6_stroke 0 = .ok (.aload_n 0, 1) := by decide +kernel
theorem dX6_stroke_1 : decode cX6_stroke 1 = .ok (.iload_n 1, 1) := by decide +kernel
theorem dX6_stroke_2 : decode cX6_stroke 2 = .ok (.iload_n 2, 1) := by decide +kernel
theorem dX6_stroke_3 : decode cX6_stroke 3 = .ok (.invokestatic 124, 3) := by decide +kernel
theorem dX6_stroke_6 : decode cX6_stroke 6 = .ok (.ifCond .eq 12, 3) := by decide +kernel
theorem dX6_stroke_9 : decode cX6_stroke 9 = .ok (.iload_n 3, 1) := by decide +kernel
theorem dX6_stroke_10 : decode cX6_stroke 10 = .ok (.iload 4, 2) := by decide +kernel
theorem dX6_stroke_12 : decode cX6_stroke 12 = .ok (.invokestatic 124, 3) := by decide +kernel
theorem dX6_stroke_15 : decode cX6_stroke 15 = .ok (.ifCond .ne 7, 3) := by decide +kernel
theorem dX6_stroke_18 : decode cX6_stroke 18 = .ok (.iconst 1, 1) := by decide +kernel
theorem dX6_stroke_19 : decode cX6_stroke 19 = .ok (.goto 20, 3) := by decide +kernel
theorem dX6_stroke_22 : decode cX6_stroke 22 = .ok (.aload_n 0, 1) := by decide +kernel
theorem dX6_stroke_23 : decode cX6_stroke 23 = .ok (.getfield 7, 3) := by decide +kernel
theorem dX6_stroke_26 : decode cX6_stroke 26 = .ok (.sipush 296, 3) := by decide +kernel
theorem dX6_stroke_29 : decode cX6_stroke 29 = .ok (.iaload, 1) := by decide +kernel
theorem dX6_stroke_30 : decode cX6_stroke 30 = .ok (.iconst 4, 1) := by decide +kernel
theorem dX6_stroke_31 : decode cX6_stroke 31 = .ok (.if_icmp .ne 7, 3) := by decide +kernel
theorem dX6_stroke_34 : decode cX6_stroke 34 = .ok (.iconst 2, 1) := by decide +kernel
theorem dX6_stroke_35 : decode cX6_stroke 35 = .ok (.goto 4, 3) := by decide +kernel
theorem dX6_stroke_38 : decode cX6_stroke 38 = .ok (.iconst 0, 1) := by decide +kernel
theorem dX6_stroke_39 : decode cX6_stroke 39 = .ok (.putfield 35, 3) := by decide +kernel
theorem dX6_stroke_42 : decode cX6_stroke 42 = .ok (.aload_n 0, 1) := by decide +kernel
theorem dX6_stroke_43 : decode cX6_stroke 43 = .ok (.getfield 35, 3) := by decide +kernel
theorem dX6_stroke_46 : decode cX6_stroke 46 = .ok (.ifCond .le 5, 3) := by decide +kernel
theorem dX6_stroke_49 : decode cX6_stroke 49 = .ok (.iconst 0, 1) := by decide +kernel
theorem dX6_stroke_50 : decode cX6_stroke 50 = .ok (.ireturn, 1) := by decide +kernel
theorem dX6_stroke_51 : decode cX6_stroke 51 = .ok (.aload_n 0, 1) := by decide +kernel
theorem dX6_stroke_52 : decode cX6_stroke 52 = .ok (.invokevirtual 62, 3) := by decide +kernel
theorem dX6_stroke_55 : decode cX6_stroke 55 = .ok (.aload_n 0, 1) := by decide +kernel
theorem dX6_stroke_56 : decode cX6_stroke 56 = .ok (.iconst 2, 1) := by decide +kernel
theorem dX6_stroke_57 : decode cX6_stroke 57 = .ok (.invokevirtual 127, 3) := by decide +kernel
theorem dX6_stroke_60 : decode cX6_stroke 60 = .ok (.istore 5, 2) := by decide +kernel
theorem dX6_stroke_62 : decode cX6_stroke 62 = .ok (.aload_n 0, 1) := by decide +kernel
theorem dX6_stroke_63 : decode cX6_stroke 63 = .ok (.iload 5, 2) := by decide +kernel
theorem dX6_stroke_65 : decode cX6_stroke 65 = .ok (.iconst 0, 1) := by decide +kernel
theorem dX6_stroke_66 : decode cX6_stroke 66 = .ok (.iload_n 1, 1) := by decide +kernel
theorem dX6_stroke_67 : decode cX6_stroke 67 = .ok (.iload_n 2, 1) := by decide +kernel
theorem dX6_stroke_68 : decode cX6_stroke 68 = .ok (.iconst 5, 1) := by decide +kernel
theorem dX6_stroke_69 : decode cX6_stroke 69 = .ok (.invokevirtual 130, 3) := by decide +kernel
theorem dX6_stroke_72 : decode cX6_stroke 72 = .ok (.aload_n 0, 1) := by decide +kernel
theorem dX6_stroke_73 : decode cX6_stroke 73 = .ok (.iload 5, 2) := by decide +kernel
theorem dX6_stroke_75 : decode cX6_stroke 75 = .ok (.iconst 1, 1) := by decide +kernel
theorem dX6_stroke_76 : decode cX6_stroke 76 = .ok (.iload_n 3, 1) := by decide +kernel
theorem dX6_stroke_77 : decode cX6_stroke 77 = .ok (.iload 4, 2) := by decide +kernel
theorem dX6_stroke_79 : decode cX6_stroke 79 = .ok (.iconst 5, 1) := by decide +kernel
theorem dX6_stroke_80 : decode cX6_stroke 80 = .ok (.invokevirtual 130, 3) := by decide +kernel
theorem dX6_stroke_83 : decode cX6_stroke 83 = .ok (.iload 5, 2) := by decide +kernel
theorem dX6_stroke_85 : decode cX6_stroke 85 = .ok (.ireturn, 1) := by decide +kernel
set_option maxRecDepth 20000 in
theorem ggX6_draw_X6_findError : GoodIn wsX6_draw wsX6_findError := goodIn_r _ [10, 11, 12, 3, 5, 13, 14, 15, 9, 16, 4, 17, 18, 19, 20, 21, 22, 23, 24, 25, 26, 27, 28, 29, 30, 31, 32, 59, 60, 61, 62, 63, 64, 65, 66, 67, 68, 69, 70, 71, 72, 73, 74] (by decide +kernel) (by decide +kernel)
set_option maxRecDepth 20000 in
theorem gX6_draw_X6_findError : GoodIn wsX6_draw (wsV RX6 134 RX6 yX6_findError wsX6_findError) := goodIn_app (goodIn_of _ (by decide +kernel)) ggX6_draw_X6_findError
set_option maxRecDepth 20000 in
theorem ggX6_draw_X6_record : GoodIn wsX6_draw wsX6_record := goodIn_r _ [36, 37, 38, 1, 59, 60, 61, 62, 63, 64, 65, 66, 67, 68, 69, 70, 71, 72, 73, 74] (by decide +kernel) (by decide +kernel)
set_option maxRecDepth 20000 in
theorem gX6_draw_X6_record : GoodIn wsX6_draw (wsV RX6 62 RX6 yX6_record wsX6_record) := goodIn_app (goodIn_of _ (by decide +kernel)) ggX6_draw_X6_record
set_option maxRecDepth 20000 in
theorem ggX6_draw_X6_begin : GoodIn wsX6_draw wsX6_begin := goodIn_r _ [42, 1, 43, 44, 45, 9, 46, 47, 48, 49, 50, 51, 52, 53, 54, 59, 60, 61, 62, 63, 64, 65, 66, 67, 68, 69, 70, 71, 72, 73, 74] (by decide +kernel) (by decide +kernel)
set_option maxRecDepth 20000 in
theorem gX6_draw_X6_begin : GoodIn wsX6_draw (wsV RX6 127 RX6 yX6_begin wsX6_begin) := goodIn_app (goodIn_of _ (by decide +kernel)) ggX6_draw_X6_begin
set_option maxRecDepth 20000 in
theorem ggX6_draw_X6_put : GoodIn wsX6_draw wsX6_put := goodIn_r _ [58, 1, 59, 60, 61, 62, 63, 64, 65, 66, 67, 68, 69, 70, 71, 72, 73, 74] (by decide +kernel) (by decide +kernel)
set_option maxRecDepth 20000 in
theorem gX6_draw_X6_put : GoodIn wsX6_draw (wsV RX6 130 RX6 yX6_put wsX6_put) := goodIn_app (goodIn_of _ (by decide +kernel)) ggX6_draw_X6_put
theorem dX6_draw_0 : decode cX6_draw 0 = .ok (.aload_n 0, 1) := by decide +kernel
theorem dX6_draw_1 : decode cX6_draw 1 = .ok (.invokevirtual 134, 3) := by decide +kernel
theorem dX6_draw_4 : decode cX6_draw 4 = .ok (.ifCond .ge 7, 3) := by decide +kernel
theorem dX6_draw_7 : decode cX6_draw 7 = .ok (.iconst 1, 1) := by decide +kernel
theorem dX6_draw_8 : decode cX6_draw 8 = .ok (.goto 4, 3) := by decide +kernel
theorem dX6_draw_11 : decode cX6_draw 11 = .ok (.iconst 0, 1) := by decide +kernel
theorem dX6_draw_12 : decode cX6_draw 12 = .ok (.istore_n 1, 1) := by decide +kernel
theorem dX6_draw_13 : decode cX6_draw 13 = .ok (.aload_n 0, 1) := by decide +kernel
theorem dX6_draw_14 : decode cX6_draw 14 = .ok (.iload_n 1, 1) := by decide +kernel
theorem dX6_draw_15 : decode cX6_draw 15 = .ok (.ifCond .ne 7, 3) := by decide +kernel
theorem dX6_draw_18 : decode cX6_draw 18 = .ok (.iconst 1, 1) := by decide +kernel
theorem dX6_draw_19 : decode cX6_draw 19 = .ok (.goto 20, 3) := by decide +kernel
theorem dX6_draw_22 : decode cX6_draw 22 = .ok (.aload_n 0, 1) := by decide +kernel
theorem dX6_draw_23 : decode cX6_draw 23 = .ok (.getfield 7, 3) := by decide +kernel
theorem dX6_draw_26 : decode cX6_draw 26 = .ok (.sipush 296, 3) := by decide +kernel
theorem dX6_draw_29 : decode cX6_draw 29 = .ok (.iaload, 1) := by decide +kernel
theorem dX6_draw_30 : decode cX6_draw 30 = .ok (.iconst 4, 1) := by decide +kernel
theorem dX6_draw_31 : decode cX6_draw 31 = .ok (.if_icmp .ne 7, 3) := by decide +kernel
theorem dX6_draw_34 : decode cX6_draw 34 = .ok (.iconst 2, 1) := by decide +kernel
theorem dX6_draw_35 : decode cX6_draw 35 = .ok (.goto 4, 3) := by decide +kernel
theorem dX6_draw_38 : decode cX6_draw 38 = .ok (.iconst 0, 1) := by decide +kernel
theorem dX6_draw_39 : decode cX6_draw 39 = .ok (.putfield 35, 3) := by decide +kernel
theorem dX6_draw_42 : decode cX6_draw 42 = .ok (.aload_n 0, 1) := by decide +kernel
theorem dX6_draw_43 : decode cX6_draw 43 = .ok (.getfield 35, 3) := by decide +kernel
theorem dX6_draw_46 : decode cX6_draw 46 = .ok (.ifCond .le 5, 3) := by decide +kernel
theorem dX6_draw_49 : decode cX6_draw 49 = .ok (.iconst 0, 1) := by decide +kernel
theorem dX6_draw_50 : decode cX6_draw 50 = .ok (.ireturn, 1) := by decide +kernel
theorem dX6_draw_51 : decode cX6_draw 51 = .ok (.aload_n 0, 1) := by decide +kernel
theorem dX6_draw_52 : decode cX6_draw 52 = .ok (.invokevirtual 62, 3) := by decide +kernel
theorem dX6_draw_55 : decode cX6_draw 55 = .ok (.aload_n 0, 1) := by decide +kernel
theorem dX6_draw_56 : decode cX6_draw 56 = .ok (.aload_n 0, 1) := by decide +kernel
theorem dX6_draw_57 : decode cX6_draw 57 = .ok (.getfield 138, 3) := by decide +kernel
theorem dX6_draw_60 : decode cX6_draw 60 = .ok (.invokevirtual 127, 3) := by decide +kernel
theorem dX6_draw_63 : decode cX6_draw 63 = .ok (.istore_n 2, 1) := by decide +kernel
theorem dX6_draw_64 : decode cX6_draw 64 = .ok (.iconst 0, 1) := by decide +kernel
theorem dX6_draw_65 : decode cX6_draw 65 = .ok (.istore_n 3, 1) := by decide +kernel
theorem dX6_draw_66 : decode cX6_draw 66 = .ok (.iload_n 3, 1) := by decide +kernel
theorem dX6_draw_67 : decode cX6_draw 67 = .ok (.aload_n 0, 1) := by decide +kernel
theorem dX6_draw_68 : decode cX6_draw 68 = .ok (.getfield 138, 3) := by decide +kernel
theorem dX6_draw_71 : decode cX6_draw 71 = .ok (.if_icmp .ge 43, 3) := by decide +kernel
theorem dX6_draw_74 : decode cX6_draw 74 = .ok (.aload_n 0, 1) := by decide +kernel
theorem dX6_draw_75 : decode cX6_draw 75 = .ok (.iload_n 2, 1) := by decide +kernel
theorem dX6_draw_76 : decode cX6_draw 76 = .ok (.iload_n 3, 1) := by decide +kernel
theorem dX6_draw_77 : decode cX6_draw 77 = .ok (.aload_n 0, 1) := by decide +kernel
theorem dX6_draw_78 : decode cX6_draw 78 = .ok (.getfield 32, 3) := by decide +kernel
theorem dX6_draw_81 : decode cX6_draw 81 = .ok (.iconst 3, 1) := by decide +kernel
theorem dX6_draw_82 : decode cX6_draw 82 = .ok (.iload_n 3, 1) := by decide +kernel
theorem dX6_draw_83 : decode cX6_draw 83 = .ok (.imul, 1) := by decide +kernel
theorem dX6_draw_84 : decode cX6_draw 84 = .ok (.iaload, 1) := by decide +kernel
theorem dX6_draw_85 : decode cX6_draw 85 = .ok (.aload_n 0, 1) := by decide +kernel
theorem dX6_draw_86 : decode cX6_draw 86 = .ok (.getfield 32, 3) := by decide +kernel
theorem dX6_draw_89 : decode cX6_draw 89 = .ok (.iconst 3, 1) := by decide +kernel
theorem dX6_draw_90 : decode cX6_draw 90 = .ok (.iload_n 3, 1) := by decide +kernel
theorem dX6_draw_91 : decode cX6_draw 91 = .ok (.imul, 1) := by decide +kernel
theorem dX6_draw_92 : decode cX6_draw 92 = .ok (.iconst 1, 1) := by decide +kernel
theorem dX6_draw_93 : decode cX6_draw 93 = .ok (.iadd, 1) := by decide +kernel
theorem dX6_draw_94 : decode cX6_draw 94 = .ok (.iaload, 1) := by decide +kernel
theorem dX6_draw_95 : decode cX6_draw 95 = .ok (.aload_n 0, 1) := by decide +kernel
theorem dX6_draw_96 : decode cX6_draw 96 = .ok (.getfield 32, 3) := by decide +kernel
theorem dX6_draw_99 : decode cX6_draw 99 = .ok (.iconst 3, 1) := by decide +kernel
theorem dX6_draw_100 : decode cX6_draw 100 = .ok (.iload_n 3, 1) := by decide +kernel
theorem dX6_draw_101 : decode cX6_draw 101 = .ok (.imul, 1) := by decide +kernel
theorem dX6_draw_102 : decode cX6_draw 102 = .ok (.iconst 2, 1) := by decide +kernel
theorem dX6_draw_103 : decode cX6_draw 103 = .ok (.iadd, 1) := by decide +kernel
theorem dX6_draw_104 : decode cX6_draw 104 = .ok (.iaload, 1) := by decide +kernel
theorem dX6_draw_105 : decode cX6_draw 105 = .ok (.invokevirtual 130, 3) := by decide +kernel
theorem dX6_draw_108 : decode cX6_draw 108 = .ok (.iinc 3 1, 3) := by decide +kernel
theorem dX6_draw_111 : decode cX6_draw 111 = .ok (.goto (-45), 3) := by decide +kernel
theorem dX6_draw_114 : decode cX6_draw 114 = .ok (.aload_n 0, 1) := by decide +kernel
theorem dX6_draw_115 : decode cX6_draw 115 = .ok (.iconst 0, 1) := by decide +kernel
theorem dX6_draw_116 : decode cX6_draw 116 = .ok (.putfield 141, 3) := by decide +kernel
theorem dX6_draw_119 : decode cX6_draw 119 = .ok (.iload_n 2, 1) := by decide +kernel
theorem dX6_draw_120 : decode cX6_draw 120 = .ok (.ireturn, 1) := by decide +kernel
set_option maxRecDepth 20000 in
theorem ggX6_isNumbers_X6_isAt : GoodIn wsX6_isNumbers wsX6_isAt := goodIn_r _ [4, 5, 6, 3, 7] (by decide +kernel) (by decide +kernel)
set_option maxRecDepth 20000 in
theorem gX6_isNumbers_X6_isAt : GoodIn wsX6_isNumbers (va_wsS RX6 124 yX6_isAt wsX6_isAt) := goodIn_app (goodIn_of _ (by decide +kernel)) ggX6_isNumbers_X6_isAt
set_option maxRecDepth 20000 in
theorem ggX6_isNumbers_X6_in : GoodIn wsX6_isNumbers wsX6_in := goodIn_r _ [7] (by decide +kernel) (by decide +kernel)
set_option maxRecDepth 20000 in
theorem gX6_isNumbers_X6_in : GoodIn wsX6_isNumbers (va_wsS RX6 39 yX6_in wsX6_in) := goodIn_app (goodIn_of _ (by decide +kernel)) ggX6_isNumbers_X6_in
theorem dX6_isNumbers_0 : decode cX6_isNumbers 0 = .ok (.iload_n 0, 1) := by decide +kernel
theorem dX6_isNumbers_1 : decode cX6_isNumbers 1 = .ok (.iload_n 1, 1) := by decide +kernel
theorem dX6_isNumbers_2 : decode cX6_isNumbers 2 = .ok (.invokestatic 124, 3) := by decide +kernel
theorem dX6_isNumbers_5 : decode cX6_isNumbers 5 = .ok (.ifCond .eq 17, 3) := by decide +kernel
theorem dX6_isNumbers_8 : decode cX6_isNumbers 8 = .ok (.iload_n 2, 1) := by decide +kernel
theorem dX6_isNumbers_9 : decode cX6_isNumbers 9 = .ok (.iconst 1, 1) := by decide +kernel
theorem dX6_isNumbers_10 : decode cX6_isNumbers 10 = .ok (.bipush 20, 2) := by decide +kernel
theorem dX6_isNumbers_12 : decode cX6_isNumbers 12 = .ok (.invokestatic 39, 3) := by decide +kernel
theorem dX6_isNumbers_15 : decode cX6_isNumbers 15 = .ok (.ifCond .eq 7, 3) := by decide +kernel
theorem dX6_isNumbers_18 : decode cX6_isNumbers 18 = .ok (.iconst 1, 1) := by decide +kernel
theorem dX6_isNumbers_19 : decode cX6_isNumbers 19 = .ok (.goto 4, 3) := by decide +kernel
theorem dX6_isNumbers_22 : decode cX6_isNumbers 22 = .ok (.iconst 0, 1) := by decide +kernel
theorem dX6_isNumbers_23 : decode cX6_isNumbers 23 = .ok (.ireturn, 1) := by decide +kernel
set_option maxRecDepth 20000 in
theorem ggX6_insert_X6_isStroke : GoodIn wsX6_insert wsX6_isStroke := goodIn_r _ [7, 2, 8, 9, 6, 10, 43, 44, 45, 46, 47, 48, 49, 50, 51, 52, 53, 54, 55, 56, 57, 58] (by decide +kernel) (by decide +kernel)
set_option maxRecDepth 20000 in
theorem gX6_insert_X6_isStroke : GoodIn wsX6_insert (wsV RX6 43 RX6 yX6_isStroke wsX6_isStroke) := goodIn_app (goodIn_of _ (by decide +kernel)) ggX6_insert_X6_isStroke
set_option maxRecDepth 20000 in
theorem ggX6_insert_X6_points : GoodIn wsX6_insert wsX6_points := goodIn_r _ [14, 2, 43, 44, 45, 46, 47, 48, 49, 50, 51, 52, 53, 54, 55, 56, 57, 58] (by decide +kernel) (by decide +kernel)
set_option maxRecDepth 20000 in
theorem gX6_insert_X6_points : GoodIn wsX6_insert (wsV RX6 47 RX6 yX6_points wsX6_points) := goodIn_app (goodIn_of _ (by decide +kernel)) ggX6_insert_X6_points
set_option maxRecDepth 20000 in
theorem ggX6_insert_X6_in : GoodIn wsX6_insert wsX6_in := goodIn_r _ [10] (by decide +kernel) (by decide +kernel)
set_option maxRecDepth 20000 in
theorem gX6_insert_X6_in : GoodIn wsX6_insert (va_wsS RX6 39 yX6_in wsX6_in) := goodIn_app (goodIn_of _ (by decide +kernel)) ggX6_insert_X6_in
set_option maxRecDepth 20000 in
theorem ggX6_insert_X6_isNumbers : GoodIn wsX6_insert wsX6_isNumbers := goodIn_r _ [17, 18, 19, 6, 20, 8, 9, 10] (by decide +kernel) (by decide +kernel)
set_option maxRecDepth 20000 in
theorem gX6_insert_X6_isNumbers : GoodIn wsX6_insert (va_wsS RX6 144 yX6_isNumbers wsX6_isNumbers) := goodIn_app (goodIn_of _ (by decide +kernel)) ggX6_insert_X6_isNumbers
set_option maxRecDepth 20000 in
theorem ggX6_insert_X6_record : GoodIn wsX6_insert wsX6_record := goodIn_r _ [24, 25, 26, 2, 43, 44, 45, 46, 47, 48, 49, 50, 51, 52, 53, 54, 55, 56, 57, 58] (by decide +kernel) (by decide +kernel)
set_option maxRecDepth 20000 in
theorem gX6_insert_X6_record : GoodIn wsX6_insert (wsV RX6 62 RX6 yX6_record wsX6_record) := goodIn_app (goodIn_of _ (by decide +kernel)) ggX6_insert_X6_record
set_option maxRecDepth 20000 in
theorem ggX6_insert_X6_of : GoodIn wsX6_insert wsX6_of := goodIn_r _ [30, 2, 43, 44, 45, 46, 47, 48, 49, 50, 51, 52, 53, 54, 55, 56, 57, 58] (by decide +kernel) (by decide +kernel)
set_option maxRecDepth 20000 in
theorem gX6_insert_X6_of : GoodIn wsX6_insert (wsV RX6 65 RX6 yX6_of wsX6_of) := goodIn_app (goodIn_of _ (by decide +kernel)) ggX6_insert_X6_of
set_option maxRecDepth 20000 in
theorem ggX6_insert_X6_put : GoodIn wsX6_insert wsX6_put := goodIn_r _ [34, 2, 43, 44, 45, 46, 47, 48, 49, 50, 51, 52, 53, 54, 55, 56, 57, 58] (by decide +kernel) (by decide +kernel)
set_option maxRecDepth 20000 in
theorem gX6_insert_X6_put : GoodIn wsX6_insert (wsV RX6 130 RX6 yX6_put wsX6_put) := goodIn_app (goodIn_of _ (by decide +kernel)) ggX6_insert_X6_put
set_option maxRecDepth 20000 in
theorem ggX6_insert_X6_keepAll : GoodIn wsX6_insert wsX6_keepAll := goodIn_r _ [38, 2, 39, 40, 41, 6, 42, 11, 12, 13, 14, 43, 44, 45, 46, 47, 48, 49, 50, 51, 52, 53, 54, 55, 56, 57, 58] (by decide +kernel) (by decide +kernel)
set_option maxRecDepth 20000 in
theorem gX6_insert_X6_keepAll : GoodIn wsX6_insert (wsV RX6 120 RX6 yX6_keepAll wsX6_keepAll) := goodIn_app (goodIn_of _ (by decide +kernel)) ggX6_insert_X6_keepAll
theorem dX6_insert_0 : decode cX6_insert 0 = .ok (.aload_n 0, 1) := by decide +kernel
theorem dX6_insert_1 : decode cX6_insert 1 = .ok (.iload_n 1, 1) := by decide +kernel
theorem dX6_insert_2 : decode cX6_insert 2 = .ok (.invokevirtual 43, 3) := by decide +kernel
theorem dX6_insert_5 : decode cX6_insert 5 = .ok (.ifCond .eq 20, 3) := by decide +kernel
theorem dX6_insert_8 : decode cX6_insert 8 = .ok (.iload_n 2, 1) := by decide +kernel
theorem dX6_insert_9 : decode cX6_insert 9 = .ok (.iconst 0, 1) := by decide +kernel
theorem dX6_insert_10 : decode cX6_insert 10 = .ok (.aload_n 0, 1) := by decide +kernel
theorem dX6_insert_11 : decode cX6_insert 11 = .ok (.iload_n 1, 1) := by decide +kernel
theorem dX6_insert_12 : decode cX6_insert 12 = .ok (.invokevirtual 47, 3) := by decide +kernel
theorem dX6_insert_15 : decode cX6_insert 15 = .ok (.invokestatic 39, 3) := by decide +kernel
theorem dX6_insert_18 : decode cX6_insert 18 = .ok (.ifCond .eq 7, 3) := by decide +kernel
theorem dX6_insert_21 : decode cX6_insert 21 = .ok (.iconst 1, 1) := by decide +kernel
theorem dX6_insert_22 : decode cX6_insert 22 = .ok (.goto 4, 3) := by decide +kernel
theorem dX6_insert_25 : decode cX6_insert 25 = .ok (.iconst 0, 1) := by decide +kernel
theorem dX6_insert_26 : decode cX6_insert 26 = .ok (.istore 6, 2) := by decide +kernel
theorem dX6_insert_28 : decode cX6_insert 28 = .ok (.aload_n 0, 1) := by decide +kernel
theorem dX6_insert_29 : decode cX6_insert 29 = .ok (.iload 6, 2) := by decide +kernel
theorem dX6_insert_31 : decode cX6_insert 31 = .ok (.ifCond .ne 7, 3) := by decide +kernel
theorem dX6_insert_34 : decode cX6_insert 34 = .ok (.iconst 1, 1) := by decide +kernel
theorem dX6_insert_35 : decode cX6_insert 35 = .ok (.goto 33, 3) := by decide +kernel
theorem dX6_insert_38 : decode cX6_insert 38 = .ok (.iload_n 3, 1) := by decide +kernel
theorem dX6_insert_39 : decode cX6_insert 39 = .ok (.iload 4, 2) := by decide +kernel
theorem dX6_insert_41 : decode cX6_insert 41 = .ok (.iload 5, 2) := by decide +kernel
theorem dX6_insert_43 : decode cX6_insert 43 = .ok (.invokestatic 144, 3) := by decide +kernel
theorem dX6_insert_46 : decode cX6_insert 46 = .ok (.ifCond .ne 7, 3) := by decide +kernel
theorem dX6_insert_49 : decode cX6_insert 49 = .ok (.iconst 2, 1) := by decide +kernel
theorem dX6_insert_50 : decode cX6_insert 50 = .ok (.goto 18, 3) := by decide +kernel
theorem dX6_insert_53 : decode cX6_insert 53 = .ok (.aload_n 0, 1) := by decide +kernel
theorem dX6_insert_54 : decode cX6_insert 54 = .ok (.iload_n 1, 1) := by decide +kernel
theorem dX6_insert_55 : decode cX6_insert 55 = .ok (.invokevirtual 47, 3) := by decide +kernel
theorem dX6_insert_58 : decode cX6_insert 58 = .ok (.bipush 24, 2) := by decide +kernel
theorem dX6_insert_60 : decode cX6_insert 60 = .ok (.if_icmp .ne 7, 3) := by decide +kernel
theorem dX6_insert_63 : decode cX6_insert 63 = .ok (.iconst 3, 1) := by decide +kernel
theorem dX6_insert_64 : decode cX6_insert 64 = .ok (.goto 4, 3) := by decide +kernel
theorem dX6_insert_67 : decode cX6_insert 67 = .ok (.iconst 0, 1) := by decide +kernel
theorem dX6_insert_68 : decode cX6_insert 68 = .ok (.putfield 35, 3) := by decide +kernel
theorem dX6_insert_71 : decode cX6_insert 71 = .ok (.aload_n 0, 1) := by decide +kernel
theorem dX6_insert_72 : decode cX6_insert 72 = .ok (.getfield 35, 3) := by decide +kernel
theorem dX6_insert_75 : decode cX6_insert 75 = .ok (.ifCond .le 5, 3) := by decide +kernel
theorem dX6_insert_78 : decode cX6_insert 78 = .ok (.iconst 0, 1) := by decide +kernel
theorem dX6_insert_79 : decode cX6_insert 79 = .ok (.ireturn, 1) := by decide +kernel
theorem dX6_insert_80 : decode cX6_insert 80 = .ok (.aload_n 0, 1) := by decide +kernel
theorem dX6_insert_81 : decode cX6_insert 81 = .ok (.invokevirtual 62, 3) := by decide +kernel
theorem dX6_insert_84 : decode cX6_insert 84 = .ok (.aload_n 0, 1) := by decide +kernel
theorem dX6_insert_85 : decode cX6_insert 85 = .ok (.iload_n 1, 1) := by decide +kernel
theorem dX6_insert_86 : decode cX6_insert 86 = .ok (.invokevirtual 47, 3) := by decide +kernel
theorem dX6_insert_89 : decode cX6_insert 89 = .ok (.istore 7, 2) := by decide +kernel
theorem dX6_insert_91 : decode cX6_insert 91 = .ok (.iload 7, 2) := by decide +kernel
theorem dX6_insert_93 : decode cX6_insert 93 = .ok (.iload_n 2, 1) := by decide +kernel
theorem dX6_insert_94 : decode cX6_insert 94 = .ok (.if_icmp .le 46, 3) := by decide +kernel
theorem dX6_insert_97 : decode cX6_insert 97 = .ok (.aload_n 0, 1) := by decide +kernel
theorem dX6_insert_98 : decode cX6_insert 98 = .ok (.iload_n 1, 1) := by decide +kernel
theorem dX6_insert_99 : decode cX6_insert 99 = .ok (.iload 7, 2) := by decide +kernel
theorem dX6_insert_101 : decode cX6_insert 101 = .ok (.aload_n 0, 1) := by decide +kernel
theorem dX6_insert_102 : decode cX6_insert 102 = .ok (.iload_n 1, 1) := by decide +kernel
theorem dX6_insert_103 : decode cX6_insert 103 = .ok (.iload 7, 2) := by decide +kernel
theorem dX6_insert_105 : decode cX6_insert 105 = .ok (.iconst 1, 1) := by decide +kernel
theorem dX6_insert_106 : decode cX6_insert 106 = .ok (.isub, 1) := by decide +kernel
theorem dX6_insert_107 : decode cX6_insert 107 = .ok (.iconst 0, 1) := by decide +kernel
theorem dX6_insert_108 : decode cX6_insert 108 = .ok (.invokevirtual 65, 3) := by decide +kernel
theorem dX6_insert_111 : decode cX6_insert 111 = .ok (.aload_n 0, 1) := by decide +kernel
theorem dX6_insert_112 : decode cX6_insert 112 = .ok (.iload_n 1, 1) := by decide +kernel
theorem dX6_insert_113 : decode cX6_insert 113 = .ok (.iload 7, 2) := by decide +kernel
theorem dX6_insert_115 : decode cX6_insert 115 = .ok (.iconst 1, 1) := by decide +kernel
theorem dX6_insert_116 : decode cX6_insert 116 = .ok (.isub, 1) := by decide +kernel
theorem dX6_insert_117 : decode cX6_insert 117 = .ok (.iconst 1, 1) := by decide +kernel
theorem dX6_insert_118 : decode cX6_insert 118 = .ok (.invokevirtual 65, 3) := by decide +kernel
theorem dX6_insert_121 : decode cX6_insert 121 = .ok (.aload_n 0, 1) := by decide +kernel
theorem dX6_insert_122 : decode cX6_insert 122 = .ok (.iload_n 1, 1) := by decide +kernel
theorem dX6_insert_123 : decode cX6_insert 123 = .ok (.iload 7, 2) := by decide +kernel
theorem dX6_insert_125 : decode cX6_insert 125 = .ok (.iconst 1, 1) := by decide +kernel
theorem dX6_insert_126 : decode cX6_insert 126 = .ok (.isub, 1) := by decide +kernel
theorem dX6_insert_127 : decode cX6_insert 127 = .ok (.iconst 2, 1) := by decide +kernel
theorem dX6_insert_128 : decode cX6_insert 128 = .ok (.invokevirtual 65, 3) := by decide +kernel
theorem dX6_insert_131 : decode cX6_insert 131 = .ok (.invokevirtual 130, 3) := by decide +kernel
theorem dX6_insert_134 : decode cX6_insert 134 = .ok (.iinc 7 (-1), 3) := by decide +kernel
theorem dX6_insert_137 : decode cX6_insert 137 = .ok (.goto (-46), 3) := by decide +kernel
theorem dX6_insert_140 : decode cX6_insert 140 = .ok (.aload_n 0, 1) := by decide +kernel
theorem dX6_insert_141 : decode cX6_insert 141 = .ok (.iload_n 1, 1) := by decide +kernel
theorem dX6_insert_142 : decode cX6_insert 142 = .ok (.iload_n 2, 1) := by decide +kernel
theorem dX6_insert_143 : decode cX6_insert 143 = .ok (.iload_n 3, 1) := by decide +kernel
theorem dX6_insert_144 : decode cX6_insert 144 = .ok (.iload 4, 2) := by decide +kernel
theorem dX6_insert_146 : decode cX6_insert 146 = .ok (.iload 5, 2) := by decide +kernel
theorem dX6_insert_148 : decode cX6_insert 148 = .ok (.invokevirtual 130, 3) := by decide +kernel
theorem dX6_insert_151 : decode cX6_insert 151 = .ok (.aload_n 0, 1) := by decide +kernel
theorem dX6_insert_152 : decode cX6_insert 152 = .ok (.getfield 7, 3) := by decide +kernel
theorem dX6_insert_155 : decode cX6_insert 155 = .ok (.bipush 74, 2) := by decide +kernel
theorem dX6_insert_157 : decode cX6_insert 157 = .ok (.iload_n 1, 1) := by decide +kernel
theorem dX6_insert_158 : decode cX6_insert 158 = .ok (.imul, 1) := by decide +kernel
theorem dX6_insert_159 : decode cX6_insert 159 = .ok (.dup2, 1) := by decide +kernel
theorem dX6_insert_160 : decode cX6_insert 160 = .ok (.iaload, 1) := by decide +kernel
theorem dX6_insert_161 : decode cX6_insert 161 = .ok (.iconst 1, 1) := by decide +kernel
theorem dX6_insert_162 : decode cX6_insert 162 = .ok (.iadd, 1) := by decide +kernel
theorem dX6_insert_163 : decode cX6_insert 163 = .ok (.iastore, 1) := by decide +kernel
theorem dX6_insert_164 : decode cX6_insert 164 = .ok (.aload_n 0, 1) := by decide +kernel
theorem dX6_insert_165 : decode cX6_insert 165 = .ok (.iload_n 1, 1) := by decide +kernel
theorem dX6_insert_166 : decode cX6_insert 166 = .ok (.invokevirtual 120, 3) := by decide +kernel
theorem dX6_insert_169 : decode cX6_insert 169 = .ok (.aload_n 0, 1) := by decide +kernel
theorem dX6_insert_170 : decode cX6_insert 170 = .ok (.iload_n 1, 1) := by decide +kernel
theorem dX6_insert_171 : decode cX6_insert 171 = .ok (.invokevirtual 47, 3) := by decide +kernel
theorem dX6_insert_174 : decode cX6_insert 174 = .ok (.ireturn, 1) := by decide +kernel
set_option maxRecDepth 20000 in
theorem ggX6_change_X6_isPoint : GoodIn wsX6_change wsX6_isPoint := goodIn_r _ [6, 7, 8, 9, 5, 10, 11, 12, 13, 14, 15, 16, 17, 18, 47, 48, 49, 50, 51, 52, 53, 54, 55, 56, 57, 58, 59, 60, 61, 62] (by decide +kernel) (by decide +kernel)
set_option maxRecDepth 20000 in
theorem gX6_change_X6_isPoint : GoodIn wsX6_change (wsV RX6 147 RX6 yX6_isPoint wsX6_isPoint) := goodIn_app (goodIn_of _ (by decide +kernel)) ggX6_change_X6_isPoint
set_option maxRecDepth 20000 in
theorem ggX6_change_X6_isNumbers : GoodIn wsX6_change wsX6_isNumbers := goodIn_r _ [21, 22, 23, 5, 24, 12, 13, 14] (by decide +kernel) (by decide +kernel)
set_option maxRecDepth 20000 in
theorem gX6_change_X6_isNumbers : GoodIn wsX6_change (va_wsS RX6 144 yX6_isNumbers wsX6_isNumbers) := goodIn_app (goodIn_of _ (by decide +kernel)) ggX6_change_X6_isNumbers
set_option maxRecDepth 20000 in
theorem ggX6_change_X6_record : GoodIn wsX6_change wsX6_record := goodIn_r _ [28, 29, 30, 11, 47, 48, 49, 50, 51, 52, 53, 54, 55, 56, 57, 58, 59, 60, 61, 62] (by decide +kernel) (by decide +kernel)
set_option maxRecDepth 20000 in
theorem gX6_change_X6_record : GoodIn wsX6_change (wsV RX6 62 RX6 yX6_record wsX6_record) := goodIn_app (goodIn_of _ (by decide +kernel)) ggX6_change_X6_record
set_option maxRecDepth 20000 in
theorem ggX6_change_X6_of : GoodIn wsX6_change wsX6_of := goodIn_r _ [34, 11, 47, 48, 49, 50, 51, 52, 53, 54, 55, 56, 57, 58, 59, 60, 61, 62] (by decide +kernel) (by decide +kernel)
set_option maxRecDepth 20000 in
theorem gX6_change_X6_of : GoodIn wsX6_change (wsV RX6 65 RX6 yX6_of wsX6_of) := goodIn_app (goodIn_of _ (by decide +kernel)) ggX6_change_X6_of
set_option maxRecDepth 20000 in
theorem ggX6_change_X6_put : GoodIn wsX6_change wsX6_put := goodIn_r _ [38, 11, 47, 48, 49, 50, 51, 52, 53, 54, 55, 56, 57, 58, 59, 60, 61, 62] (by decide +kernel) (by decide +kernel)
set_option maxRecDepth 20000 in
theorem gX6_change_X6_put : GoodIn wsX6_change (wsV RX6 130 RX6 yX6_put wsX6_put) := goodIn_app (goodIn_of _ (by decide +kernel)) ggX6_change_X6_put
set_option maxRecDepth 20000 in
theorem ggX6_change_X6_keepAll : GoodIn wsX6_change wsX6_keepAll := goodIn_r _ [42, 11, 43, 44, 45, 5, 46, 15, 16, 17, 18, 47, 48, 49, 50, 51, 52, 53, 54, 55, 56, 57, 58, 59, 60, 61, 62] (by decide +kernel) (by decide +kernel)
set_option maxRecDepth 20000 in
theorem gX6_change_X6_keepAll : GoodIn wsX6_change (wsV RX6 120 RX6 yX6_keepAll wsX6_keepAll) := goodIn_app (goodIn_of _ (by decide +kernel)) ggX6_change_X6_keepAll
theorem dX6_change_0 : decode cX6_change 0 = .ok (.aload_n 0, 1) := by decide +kernel
theorem dX6_change_1 : decode cX6_change 1 = .ok (.aload_n 0, 1) := by decide +kernel
theorem dX6_change_2 : decode cX6_change 2 = .ok (.iload_n 1, 1) := by decide +kernel
theorem dX6_change_3 : decode cX6_change 3 = .ok (.iload_n 2, 1) := by decide +kernel
theorem dX6_change_4 : decode cX6_change 4 = .ok (.invokevirtual 147, 3) := by decide +kernel
theorem dX6_change_7 : decode cX6_change 7 = .ok (.ifCond .ne 7, 3) := by decide +kernel
theorem dX6_change_10 : decode cX6_change 10 = .ok (.iconst 1, 1) := by decide +kernel
theorem dX6_change_11 : decode cX6_change 11 = .ok (.goto 19, 3) := by decide +kernel
theorem dX6_change_14 : decode cX6_change 14 = .ok (.iload_n 3, 1) := by decide +kernel
theorem dX6_change_15 : decode cX6_change 15 = .ok (.iload 4, 2) := by decide +kernel
theorem dX6_change_17 : decode cX6_change 17 = .ok (.iload 5, 2) := by decide +kernel
theorem dX6_change_19 : decode cX6_change 19 = .ok (.invokestatic 144, 3) := by decide +kernel
theorem dX6_change_22 : decode cX6_change 22 = .ok (.ifCond .eq 7, 3) := by decide +kernel
theorem dX6_change_25 : decode cX6_change 25 = .ok (.iconst 0, 1) := by decide +kernel
theorem dX6_change_26 : decode cX6_change 26 = .ok (.goto 4, 3) := by decide +kernel
theorem dX6_change_29 : decode cX6_change 29 = .ok (.iconst 2, 1) := by decide +kernel
theorem dX6_change_30 : decode cX6_change 30 = .ok (.putfield 35, 3) := by decide +kernel
theorem dX6_change_33 : decode cX6_change 33 = .ok (.aload_n 0, 1) := by decide +kernel
theorem dX6_change_34 : decode cX6_change 34 = .ok (.getfield 35, 3) := by decide +kernel
theorem dX6_change_37 : decode cX6_change 37 = .ok (.ifCond .le 5, 3) := by decide +kernel
theorem dX6_change_40 : decode cX6_change 40 = .ok (.iconst 0, 1) := by decide +kernel
theorem dX6_change_41 : decode cX6_change 41 = .ok (.ireturn, 1) := by decide +kernel
theorem dX6_change_42 : decode cX6_change 42 = .ok (.aload_n 0, 1) := by decide +kernel
theorem dX6_change_43 : decode cX6_change 43 = .ok (.invokevirtual 62, 3) := by decide +kernel
theorem dX6_change_46 : decode cX6_change 46 = .ok (.bipush 100, 2) := by decide +kernel
theorem dX6_change_48 : decode cX6_change 48 = .ok (.aload_n 0, 1) := by decide +kernel
theorem dX6_change_49 : decode cX6_change 49 = .ok (.iload_n 1, 1) := by decide +kernel
theorem dX6_change_50 : decode cX6_change 50 = .ok (.iload_n 2, 1) := by decide +kernel
theorem dX6_change_51 : decode cX6_change 51 = .ok (.iconst 0, 1) := by decide +kernel
theorem dX6_change_52 : decode cX6_change 52 = .ok (.invokevirtual 65, 3) := by decide +kernel
theorem dX6_change_55 : decode cX6_change 55 = .ok (.imul, 1) := by decide +kernel
theorem dX6_change_56 : decode cX6_change 56 = .ok (.aload_n 0, 1) := by decide +kernel
theorem dX6_change_57 : decode cX6_change 57 = .ok (.iload_n 1, 1) := by decide +kernel
theorem dX6_change_58 : decode cX6_change 58 = .ok (.iload_n 2, 1) := by decide +kernel
theorem dX6_change_59 : decode cX6_change 59 = .ok (.iconst 1, 1) := by decide +kernel
theorem dX6_change_60 : decode cX6_change 60 = .ok (.invokevirtual 65, 3) := by decide +kernel
theorem dX6_change_63 : decode cX6_change 63 = .ok (.iadd, 1) := by decide +kernel
theorem dX6_change_64 : decode cX6_change 64 = .ok (.istore 6, 2) := by decide +kernel
theorem dX6_change_66 : decode cX6_change 66 = .ok (.aload_n 0, 1) := by decide +kernel
theorem dX6_change_67 : decode cX6_change 67 = .ok (.iload_n 1, 1) := by decide +kernel
theorem dX6_change_68 : decode cX6_change 68 = .ok (.iload_n 2, 1) := by decide +kernel
theorem dX6_change_69 : decode cX6_change 69 = .ok (.iload_n 3, 1) := by decide +kernel
theorem dX6_change_70 : decode cX6_change 70 = .ok (.iload 4, 2) := by decide +kernel
theorem dX6_change_72 : decode cX6_change 72 = .ok (.iload 5, 2) := by decide +kernel
theorem dX6_change_74 : decode cX6_change 74 = .ok (.invokevirtual 130, 3) := by decide +kernel
theorem dX6_change_77 : decode cX6_change 77 = .ok (.aload_n 0, 1) := by decide +kernel
theorem dX6_change_78 : decode cX6_change 78 = .ok (.iload_n 1, 1) := by decide +kernel
theorem dX6_change_79 : decode cX6_change 79 = .ok (.invokevirtual 120, 3) := by decide +kernel
theorem dX6_change_82 : decode cX6_change 82 = .ok (.iload 6, 2) := by decide +kernel
theorem dX6_change_84 : decode cX6_change 84 = .ok (.ireturn, 1) := by decide +kernel
set_option maxRecDepth 20000 in
theorem ggX6_drop_X6_points : GoodIn wsX6_drop wsX6_points := goodIn_r _ [6, 1, 15, 16, 17, 18, 19, 20, 21, 22, 23, 24, 25, 26, 27, 28, 29, 30] (by decide +kernel) (by decide +kernel)
set_option maxRecDepth 20000 in
theorem gX6_drop_X6_points : GoodIn wsX6_drop (wsV RX6 47 RX6 yX6_points wsX6_points) := goodIn_app (goodIn_of _ (by decide +kernel)) ggX6_drop_X6_points
set_option maxRecDepth 20000 in
theorem ggX6_drop_X6_of : GoodIn wsX6_drop wsX6_of := goodIn_r _ [10, 1, 15, 16, 17, 18, 19, 20, 21, 22, 23, 24, 25, 26, 27, 28, 29, 30] (by decide +kernel) (by decide +kernel)
set_option maxRecDepth 20000 in
theorem gX6_drop_X6_of : GoodIn wsX6_drop (wsV RX6 65 RX6 yX6_of wsX6_of) := goodIn_app (goodIn_of _ (by decide +kernel)) ggX6_drop_X6_of
set_option maxRecDepth 20000 in
theorem ggX6_drop_X6_put : GoodIn wsX6_drop wsX6_put := goodIn_r _ [14, 1, 15, 16, 17, 18, 19, 20, 21, 22, 23, 24, 25, 26, 27, 28, 29, 30] (by decide +kernel) (by decide +kernel)
set_option maxRecDepth 20000 in
theorem gX6_drop_X6_put : GoodIn wsX6_drop (wsV RX6 130 RX6 yX6_put wsX6_put) := goodIn_app (goodIn_of _ (by decide +kernel)) ggX6_drop_X6_put
theorem dX6_drop_0 : decode cX6_drop 0 = .ok (.iload_n 2, 1) := by decide +kernel
theorem dX6_drop_1 : decode cX6_drop 1 = .ok (.istore_n 3, 1) := by decide +kernel
theorem dX6_drop_2 : decode cX6_drop 2 = .ok (.iload_n 3, 1) := by decide +kernel
theorem dX6_drop_3 : decode cX6_drop 3 = .ok (.aload_n 0, 1) := by decide +kernel
theorem dX6_drop_4 : decode cX6_drop 4 = .ok (.iload_n 1, 1) := by decide +kernel
theorem dX6_drop_5 : decode cX6_drop 5 = .ok (.invokevirtual 47, 3) := by decide +kernel
theorem dX6_drop_8 : decode cX6_drop 8 = .ok (.iconst 1, 1) := by decide +kernel
theorem dX6_drop_9 : decode cX6_drop 9 = .ok (.isub, 1) := by decide +kernel
theorem dX6_drop_10 : decode cX6_drop 10 = .ok (.if_icmp .ge 42, 3) := by decide +kernel
theorem dX6_drop_13 : decode cX6_drop 13 = .ok (.aload_n 0, 1) := by decide +kernel
theorem dX6_drop_14 : decode cX6_drop 14 = .ok (.iload_n 1, 1) := by decide +kernel
theorem dX6_drop_15 : decode cX6_drop 15 = .ok (.iload_n 3, 1) := by decide +kernel
theorem dX6_drop_16 : decode cX6_drop 16 = .ok (.aload_n 0, 1) := by decide +kernel
theorem dX6_drop_17 : decode cX6_drop 17 = .ok (.iload_n 1, 1) := by decide +kernel
theorem dX6_drop_18 : decode cX6_drop 18 = .ok (.iload_n 3, 1) := by decide +kernel
theorem dX6_drop_19 : decode cX6_drop 19 = .ok (.iconst 1, 1) := by decide +kernel
theorem dX6_drop_20 : decode cX6_drop 20 = .ok (.iadd, 1) := by decide +kernel
theorem dX6_drop_21 : decode cX6_drop 21 = .ok (.iconst 0, 1) := by decide +kernel
theorem dX6_drop_22 : decode cX6_drop 22 = .ok (.invokevirtual 65, 3) := by decide +kernel
theorem dX6_drop_25 : decode cX6_drop 25 = .ok (.aload_n 0, 1) := by decide +kernel
theorem dX6_drop_26 : decode cX6_drop 26 = .ok (.iload_n 1, 1) := by decide +kernel
theorem dX6_drop_27 : decode cX6_drop 27 = .ok (.iload_n 3, 1) := by decide +kernel
theorem dX6_drop_28 : decode cX6_drop 28 = .ok (.iconst 1, 1) := by decide +kernel
theorem dX6_drop_29 : decode cX6_drop 29 = .ok (.iadd, 1) := by decide +kernel
theorem dX6_drop_30 : decode cX6_drop 30 = .ok (.iconst 1, 1) := by decide +kernel
theorem dX6_drop_31 : decode cX6_drop 31 = .ok (.invokevirtual 65, 3) := by decide +kernel
theorem dX6_drop_34 : decode cX6_drop 34 = .ok (.aload_n 0, 1) := by decide +kernel
theorem dX6_drop_35 : decode cX6_drop 35 = .ok (.iload_n 1, 1) := by decide +kernel
theorem dX6_drop_36 : decode cX6_drop 36 = .ok (.iload_n 3, 1) := by decide +kernel
theorem dX6_drop_37 : decode cX6_drop 37 = .ok (.iconst 1, 1) := by decide +kernel
theorem dX6_drop_38 : decode cX6_drop 38 = .ok (.iadd, 1) := by decide +kernel
theorem dX6_drop_39 : decode cX6_drop 39 = .ok (.iconst 2, 1) := by decide +kernel
theorem dX6_drop_40 : decode cX6_drop 40 = .ok (.invokevirtual 65, 3) := by decide +kernel
theorem dX6_drop_43 : decode cX6_drop 43 = .ok (.invokevirtual 130, 3) := by decide +kernel
theorem dX6_drop_46 : decode cX6_drop 46 = .ok (.iinc 3 1, 3) := by decide +kernel
theorem dX6_drop_49 : decode cX6_drop 49 = .ok (.goto (-47), 3) := by decide +kernel
theorem dX6_drop_52 : decode cX6_drop 52 = .ok (.aload_n 0, 1) := by decide +kernel
theorem dX6_drop_53 : decode cX6_drop 53 = .ok (.getfield 7, 3) := by decide +kernel
theorem dX6_drop_56 : decode cX6_drop 56 = .ok (.bipush 74, 2) := by decide +kernel
theorem dX6_drop_58 : decode cX6_drop 58 = .ok (.iload_n 1, 1) := by decide +kernel
theorem dX6_drop_59 : decode cX6_drop 59 = .ok (.imul, 1) := by decide +kernel
theorem dX6_drop_60 : decode cX6_drop 60 = .ok (.dup2, 1) := by decide +kernel
theorem dX6_drop_61 : decode cX6_drop 61 = .ok (.iaload, 1) := by decide +kernel
theorem dX6_drop_62 : decode cX6_drop 62 = .ok (.iconst 1, 1) := by decide +kernel
theorem dX6_drop_63 : decode cX6_drop 63 = .ok (.isub, 1) := by decide +kernel
theorem dX6_drop_64 : decode cX6_drop 64 = .ok (.iastore, 1) := by decide +kernel
theorem dX6_drop_65 : decode cX6_drop 65 = .ok (.return_, 1) := by decide +kernel
set_option maxRecDepth 20000 in
theorem ggX6_remove_X6_isPoint : GoodIn wsX6_remove wsX6_isPoint := goodIn_r _ [6, 7, 8, 9, 5, 10, 11, 12, 13, 14, 15, 16, 17, 18, 45, 46, 47, 48, 49, 50, 51, 52, 53, 54, 55, 56, 57, 58, 59, 60] (by decide +kernel) (by decide +kernel)
set_option maxRecDepth 20000 in
theorem gX6_remove_X6_isPoint : GoodIn wsX6_remove (wsV RX6 147 RX6 yX6_isPoint wsX6_isPoint) := goodIn_app (goodIn_of _ (by decide +kernel)) ggX6_remove_X6_isPoint
set_option maxRecDepth 20000 in
theorem ggX6_remove_X6_points : GoodIn wsX6_remove wsX6_points := goodIn_r _ [18, 11, 45, 46, 47, 48, 49, 50, 51, 52, 53, 54, 55, 56, 57, 58, 59, 60] (by decide +kernel) (by decide +kernel)
set_option maxRecDepth 20000 in
theorem gX6_remove_X6_points : GoodIn wsX6_remove (wsV RX6 47 RX6 yX6_points wsX6_points) := goodIn_app (goodIn_of _ (by decide +kernel)) ggX6_remove_X6_points
set_option maxRecDepth 20000 in
theorem ggX6_remove_X6_record : GoodIn wsX6_remove wsX6_record := goodIn_r _ [22, 23, 24, 11, 45, 46, 47, 48, 49, 50, 51, 52, 53, 54, 55, 56, 57, 58, 59, 60] (by decide +kernel) (by decide +kernel)
set_option maxRecDepth 20000 in
theorem gX6_remove_X6_record : GoodIn wsX6_remove (wsV RX6 62 RX6 yX6_record wsX6_record) := goodIn_app (goodIn_of _ (by decide +kernel)) ggX6_remove_X6_record
set_option maxRecDepth 20000 in
theorem ggX6_remove_X6_drop : GoodIn wsX6_remove wsX6_drop := goodIn_r _ [28, 11, 15, 16, 17, 5, 18, 29, 30, 31, 32, 33, 34, 35, 36, 45, 46, 47, 48, 49, 50, 51, 52, 53, 54, 55, 56, 57, 58, 59, 60] (by decide +kernel) (by decide +kernel)
set_option maxRecDepth 20000 in
theorem gX6_remove_X6_drop : GoodIn wsX6_remove (wsV RX6 150 RX6 yX6_drop wsX6_drop) := goodIn_app (goodIn_of _ (by decide +kernel)) ggX6_remove_X6_drop
set_option maxRecDepth 20000 in
theorem ggX6_remove_X6_keepAll : GoodIn wsX6_remove wsX6_keepAll := goodIn_r _ [40, 11, 41, 42, 43, 5, 44, 15, 16, 17, 18, 45, 46, 47, 48, 49, 50, 51, 52, 53, 54, 55, 56, 57, 58, 59, 60] (by decide +kernel) (by decide +kernel)
set_option maxRecDepth 20000 in
theorem gX6_remove_X6_keepAll : GoodIn wsX6_remove (wsV RX6 120 RX6 yX6_keepAll wsX6_keepAll) := goodIn_app (goodIn_of _ (by decide +kernel)) ggX6_remove_X6_keepAll
theorem dX6_remove_0 : decode cX6_remove 0 = .ok (.aload_n 0, 1) := by decide +kernel
theorem dX6_remove_1 : decode cX6_remove 1 = .ok (.aload_n 0, 1) := by decide +kernel
theorem dX6_remove_2 : decode cX6_remove 2 = .ok (.iload_n 1, 1) := by decide +kernel
theorem dX6_remove_3 : decode cX6_remove 3 = .ok (.iload_n 2, 1) := by decide +kernel
theorem dX6_remove_4 : decode cX6_remove 4 = .ok (.invokevirtual 147, 3) := by decide +kernel
theorem dX6_remove_7 : decode cX6_remove 7 = .ok (.ifCond .ne 7, 3) := by decide +kernel
theorem dX6_remove_10 : decode cX6_remove 10 = .ok (.iconst 1, 1) := by decide +kernel
theorem dX6_remove_11 : decode cX6_remove 11 = .ok (.goto 17, 3) := by decide +kernel
theorem dX6_remove_14 : decode cX6_remove 14 = .ok (.aload_n 0, 1) := by decide +kernel
theorem dX6_remove_15 : decode cX6_remove 15 = .ok (.iload_n 1, 1) := by decide +kernel
theorem dX6_remove_16 : decode cX6_remove 16 = .ok (.invokevirtual 47, 3) := by decide +kernel
theorem dX6_remove_19 : decode cX6_remove 19 = .ok (.iconst 2, 1) := by decide +kernel
theorem dX6_remove_20 : decode cX6_remove 20 = .ok (.if_icmp .ne 7, 3) := by decide +kernel
theorem dX6_remove_23 : decode cX6_remove 23 = .ok (.iconst 2, 1) := by decide +kernel
theorem dX6_remove_24 : decode cX6_remove 24 = .ok (.goto 4, 3) := by decide +kernel
theorem dX6_remove_27 : decode cX6_remove 27 = .ok (.iconst 0, 1) := by decide +kernel
theorem dX6_remove_28 : decode cX6_remove 28 = .ok (.putfield 35, 3) := by decide +kernel
theorem dX6_remove_31 : decode cX6_remove 31 = .ok (.aload_n 0, 1) := by decide +kernel
theorem dX6_remove_32 : decode cX6_remove 32 = .ok (.getfield 35, 3) := by decide +kernel
theorem dX6_remove_35 : decode cX6_remove 35 = .ok (.ifCond .le 5, 3) := by decide +kernel
theorem dX6_remove_38 : decode cX6_remove 38 = .ok (.iconst 0, 1) := by decide +kernel
theorem dX6_remove_39 : decode cX6_remove 39 = .ok (.ireturn, 1) := by decide +kernel
theorem dX6_remove_40 : decode cX6_remove 40 = .ok (.aload_n 0, 1) := by decide +kernel
theorem dX6_remove_41 : decode cX6_remove 41 = .ok (.invokevirtual 62, 3) := by decide +kernel
theorem dX6_remove_44 : decode cX6_remove 44 = .ok (.aload_n 0, 1) := by decide +kernel
theorem dX6_remove_45 : decode cX6_remove 45 = .ok (.iload_n 1, 1) := by decide +kernel
theorem dX6_remove_46 : decode cX6_remove 46 = .ok (.iload_n 2, 1) := by decide +kernel
theorem dX6_remove_47 : decode cX6_remove 47 = .ok (.invokevirtual 150, 3) := by decide +kernel
theorem dX6_remove_50 : decode cX6_remove 50 = .ok (.aload_n 0, 1) := by decide +kernel
theorem dX6_remove_51 : decode cX6_remove 51 = .ok (.iload_n 1, 1) := by decide +kernel
theorem dX6_remove_52 : decode cX6_remove 52 = .ok (.invokevirtual 120, 3) := by decide +kernel
theorem dX6_remove_55 : decode cX6_remove 55 = .ok (.aload_n 0, 1) := by decide +kernel
theorem dX6_remove_56 : decode cX6_remove 56 = .ok (.iload_n 1, 1) := by decide +kernel
theorem dX6_remove_57 : decode cX6_remove 57 = .ok (.invokevirtual 47, 3) := by decide +kernel
theorem dX6_remove_60 : decode cX6_remove 60 = .ok (.ireturn, 1) := by decide +kernel
set_option maxRecDepth 20000 in
theorem ggX6_erase_X6_isStroke : GoodIn wsX6_erase wsX6_isStroke := goodIn_r _ [7, 2, 8, 9, 6, 10, 17, 18, 19, 20, 21, 22, 23, 24, 25, 26, 27, 28, 29, 30, 31, 32] (by decide +kernel) (by decide +kernel)
set_option maxRecDepth 20000 in
theorem gX6_erase_X6_isStroke : GoodIn wsX6_erase (wsV RX6 43 RX6 yX6_isStroke wsX6_isStroke) := goodIn_app (goodIn_of _ (by decide +kernel)) ggX6_erase_X6_isStroke
set_option maxRecDepth 20000 in
theorem ggX6_erase_X6_record : GoodIn wsX6_erase wsX6_record := goodIn_r _ [14, 15, 16, 2, 17, 18, 19, 20, 21, 22, 23, 24, 25, 26, 27, 28, 29, 30, 31, 32] (by decide +kernel) (by decide +kernel)
set_option maxRecDepth 20000 in
theorem gX6_erase_X6_record : GoodIn wsX6_erase (wsV RX6 62 RX6 yX6_record wsX6_record) := goodIn_app (goodIn_of _ (by decide +kernel)) ggX6_erase_X6_record
theorem dX6_erase_0 : decode cX6_erase 0 = .ok (.aload_n 0, 1) := by decide +kernel
theorem dX6_erase_1 : decode cX6_erase 1 = .ok (.aload_n 0, 1) := by decide +kernel
theorem dX6_erase_2 : decode cX6_erase 2 = .ok (.iload_n 1, 1) := by decide +kernel
theorem dX6_erase_3 : decode cX6_erase 3 = .ok (.invokevirtual 43, 3) := by decide +kernel
theorem dX6_erase_6 : decode cX6_erase 6 = .ok (.ifCond .eq 7, 3) := by decide +kernel
theorem dX6_erase_9 : decode cX6_erase 9 = .ok (.iconst 0, 1) := by decide +kernel
theorem dX6_erase_10 : decode cX6_erase 10 = .ok (.goto 4, 3) := by decide +kernel
theorem dX6_erase_13 : decode cX6_erase 13 = .ok (.iconst 1, 1) := by decide +kernel
theorem dX6_erase_14 : decode cX6_erase 14 = .ok (.putfield 35, 3) := by decide +kernel
theorem dX6_erase_17 : decode cX6_erase 17 = .ok (.aload_n 0, 1) := by decide +kernel
theorem dX6_erase_18 : decode cX6_erase 18 = .ok (.getfield 35, 3) := by decide +kernel
theorem dX6_erase_21 : decode cX6_erase 21 = .ok (.ifCond .le 5, 3) := by decide +kernel
theorem dX6_erase_24 : decode cX6_erase 24 = .ok (.iconst 0, 1) := by decide +kernel
theorem dX6_erase_25 : decode cX6_erase 25 = .ok (.ireturn, 1) := by decide +kernel
theorem dX6_erase_26 : decode cX6_erase 26 = .ok (.aload_n 0, 1) := by decide +kernel
theorem dX6_erase_27 : decode cX6_erase 27 = .ok (.invokevirtual 62, 3) := by decide +kernel
theorem dX6_erase_30 : decode cX6_erase 30 = .ok (.aload_n 0, 1) := by decide +kernel
theorem dX6_erase_31 : decode cX6_erase 31 = .ok (.getfield 7, 3) := by decide +kernel
theorem dX6_erase_34 : decode cX6_erase 34 = .ok (.sipush 296, 3) := by decide +kernel
theorem dX6_erase_37 : decode cX6_erase 37 = .ok (.dup2, 1) := by decide +kernel
theorem dX6_erase_38 : decode cX6_erase 38 = .ok (.iaload, 1) := by decide +kernel
theorem dX6_erase_39 : decode cX6_erase 39 = .ok (.iconst 1, 1) := by decide +kernel
theorem dX6_erase_40 : decode cX6_erase 40 = .ok (.isub, 1) := by decide +kernel
theorem dX6_erase_41 : decode cX6_erase 41 = .ok (.iastore, 1) := by decide +kernel
theorem dX6_erase_42 : decode cX6_erase 42 = .ok (.bipush 74, 2) := by decide +kernel
theorem dX6_erase_44 : decode cX6_erase 44 = .ok (.iload_n 1, 1) := by decide +kernel
theorem dX6_erase_45 : decode cX6_erase 45 = .ok (.imul, 1) := by decide +kernel
theorem dX6_erase_46 : decode cX6_erase 46 = .ok (.istore_n 2, 1) := by decide +kernel
theorem dX6_erase_47 : decode cX6_erase 47 = .ok (.iload_n 2, 1) := by decide +kernel
theorem dX6_erase_48 : decode cX6_erase 48 = .ok (.bipush 74, 2) := by decide +kernel
theorem dX6_erase_50 : decode cX6_erase 50 = .ok (.aload_n 0, 1) := by decide +kernel
theorem dX6_erase_51 : decode cX6_erase 51 = .ok (.getfield 7, 3) := by decide +kernel
theorem dX6_erase_54 : decode cX6_erase 54 = .ok (.sipush 296, 3) := by decide +kernel
theorem dX6_erase_57 : decode cX6_erase 57 = .ok (.iaload, 1) := by decide +kernel
theorem dX6_erase_58 : decode cX6_erase 58 = .ok (.imul, 1) := by decide +kernel
theorem dX6_erase_59 : decode cX6_erase 59 = .ok (.if_icmp .ge 24, 3) := by decide +kernel
theorem dX6_erase_62 : decode cX6_erase 62 = .ok (.aload_n 0, 1) := by decide +kernel
theorem dX6_erase_63 : decode cX6_erase 63 = .ok (.getfield 7, 3) := by decide +kernel
theorem dX6_erase_66 : decode cX6_erase 66 = .ok (.iload_n 2, 1) := by decide +kernel
theorem dX6_erase_67 : decode cX6_erase 67 = .ok (.aload_n 0, 1) := by decide +kernel
theorem dX6_erase_68 : decode cX6_erase 68 = .ok (.getfield 7, 3) := by decide +kernel
theorem dX6_erase_71 : decode cX6_erase 71 = .ok (.iload_n 2, 1) := by decide +kernel
theorem dX6_erase_72 : decode cX6_erase 72 = .ok (.bipush 74, 2) := by decide +kernel
theorem dX6_erase_74 : decode cX6_erase 74 = .ok (.iadd, 1) := by decide +kernel
theorem dX6_erase_75 : decode cX6_erase 75 = .ok (.iaload, 1) := by decide +kernel
theorem dX6_erase_76 : decode cX6_erase 76 = .ok (.iastore, 1) := by decide +kernel
theorem dX6_erase_77 : decode cX6_erase 77 = .ok (.iinc 2 1, 3) := by decide +kernel
theorem dX6_erase_80 : decode cX6_erase 80 = .ok (.goto (-33), 3) := by decide +kernel
theorem dX6_erase_83 : decode cX6_erase 83 = .ok (.aload_n 0, 1) := by decide +kernel
theorem dX6_erase_84 : decode cX6_erase 84 = .ok (.getfield 7, 3) := by decide +kernel
theorem dX6_erase_87 : decode cX6_erase 87 = .ok (.sipush 296, 3) := by decide +kernel
theorem dX6_erase_90 : decode cX6_erase 90 = .ok (.iaload, 1) := by decide +kernel
theorem dX6_erase_91 : decode cX6_erase 91 = .ok (.ireturn, 1) := by decide +kernel
set_option maxRecDepth 20000 in
theorem ggX6_simplify_X6_isStroke : GoodIn wsX6_simplify wsX6_isStroke := goodIn_r _ [7, 2, 8, 9, 6, 10, 83, 84, 85, 86, 87, 88, 89, 90, 91, 92, 93, 94, 95, 96, 97, 98] (by decide +kernel) (by decide +kernel)
set_option maxRecDepth 20000 in
theorem gX6_simplify_X6_isStroke : GoodIn wsX6_simplify (wsV RX6 43 RX6 yX6_isStroke wsX6_isStroke) := goodIn_app (goodIn_of _ (by decide +kernel)) ggX6_simplify_X6_isStroke
set_option maxRecDepth 20000 in
theorem ggX6_simplify_X6_in : GoodIn wsX6_simplify wsX6_in := goodIn_r _ [10] (by decide +kernel) (by decide +kernel)
set_option maxRecDepth 20000 in
theorem gX6_simplify_X6_in : GoodIn wsX6_simplify (va_wsS RX6 39 yX6_in wsX6_in) := goodIn_app (goodIn_of _ (by decide +kernel)) ggX6_simplify_X6_in
set_option maxRecDepth 20000 in
theorem ggX6_simplify_X6_record : GoodIn wsX6_simplify wsX6_record := goodIn_r _ [14, 15, 16, 2, 83, 84, 85, 86, 87, 88, 89, 90, 91, 92, 93, 94, 95, 96, 97, 98] (by decide +kernel) (by decide +kernel)
set_option maxRecDepth 20000 in
theorem gX6_simplify_X6_record : GoodIn wsX6_simplify (wsV RX6 62 RX6 yX6_record wsX6_record) := goodIn_app (goodIn_of _ (by decide +kernel)) ggX6_simplify_X6_record
set_option maxRecDepth 20000 in
theorem ggX6_simplify_X6_simplified : GoodIn wsX6_simplify wsX6_simplified := goodIn_r _ [20, 21, 22, 23, 6, 24, 25, 26, 27, 28, 29, 30, 31, 32, 2, 33, 34, 35, 36, 37, 38, 39, 40, 41, 42, 43, 44, 45, 46, 47, 48, 49, 50, 51, 52, 53, 54, 55, 56, 57, 58, 59, 60, 61, 62, 63, 64, 65, 66, 67, 68, 69, 70, 71, 72, 73, 74, 75, 76, 77, 78, 79, 83, 84, 85, 86, 87, 88, 89, 90, 91, 92, 93, 94, 95, 96, 97, 98] (by decide +kernel) (by decide +kernel)
set_option maxRecDepth 20000 in
theorem gX6_simplify_X6_simplified : GoodIn wsX6_simplify (wsV RX6 154 RX6 yX6_simplified wsX6_simplified) := goodIn_app (goodIn_of _ (by decide +kernel)) ggX6_simplify_X6_simplified
set_option maxRecDepth 20000 in
theorem ggX6_simplify_X6_points : GoodIn wsX6_simplify wsX6_points := goodIn_r _ [32, 2, 83, 84, 85, 86, 87, 88, 89, 90, 91, 92, 93, 94, 95, 96, 97, 98] (by decide +kernel) (by decide +kernel)
set_option maxRecDepth 20000 in
theorem gX6_simplify_X6_points : GoodIn wsX6_simplify (wsV RX6 47 RX6 yX6_points wsX6_points) := goodIn_app (goodIn_of _ (by decide +kernel)) ggX6_simplify_X6_points
set_option maxRecDepth 20000 in
theorem ggX6_simplify_X6_ones : GoodIn wsX6_simplify wsX6_ones := goodIn_r _ [82] (by decide +kernel) (by decide +kernel)
set_option maxRecDepth 20000 in
theorem gX6_simplify_X6_ones : GoodIn wsX6_simplify (va_wsS RX6 157 yX6_ones wsX6_ones) := goodIn_app (goodIn_of _ (by decide +kernel)) ggX6_simplify_X6_ones
theorem dX6_simplify_0 : decode cX6_simplify 0 = .ok (.aload_n 0, 1) := by decide +kernel
theorem dX6_simplify_1 : decode cX6_simplify 1 = .ok (.aload_n 0, 1) := by decide +kernel
theorem dX6_simplify_2 : decode cX6_simplify 2 = .ok (.iload_n 1, 1) := by decide +kernel
theorem dX6_simplify_3 : decode cX6_simplify 3 = .ok (.invokevirtual 43, 3) := by decide +kernel
theorem dX6_simplify_6 : decode cX6_simplify 6 = .ok (.ifCond .ne 7, 3) := by decide +kernel
theorem dX6_simplify_9 : decode cX6_simplify 9 = .ok (.iconst 1, 1) := by decide +kernel
theorem dX6_simplify_10 : decode cX6_simplify 10 = .ok (.goto 17, 3) := by decide +kernel
theorem dX6_simplify_13 : decode cX6_simplify 13 = .ok (.iload_n 2, 1) := by decide +kernel
theorem dX6_simplify_14 : decode cX6_simplify 14 = .ok (.iconst 0, 1) := by decide +kernel
theorem dX6_simplify_15 : decode cX6_simplify 15 = .ok (.iconst 1, 1) := by decide +kernel
theorem dX6_simplify_16 : decode cX6_simplify 16 = .ok (.invokestatic 39, 3) := by decide +kernel
theorem dX6_simplify_19 : decode cX6_simplify 19 = .ok (.ifCond .eq 7, 3) := by decide +kernel
theorem dX6_simplify_22 : decode cX6_simplify 22 = .ok (.iconst 0, 1) := by decide +kernel
theorem dX6_simplify_23 : decode cX6_simplify 23 = .ok (.goto 4, 3) := by decide +kernel
theorem dX6_simplify_26 : decode cX6_simplify 26 = .ok (.iconst 2, 1) := by decide +kernel
theorem dX6_simplify_27 : decode cX6_simplify 27 = .ok (.putfield 35, 3) := by decide +kernel
theorem dX6_simplify_30 : decode cX6_simplify 30 = .ok (.aload_n 0, 1) := by decide +kernel
theorem dX6_simplify_31 : decode cX6_simplify 31 = .ok (.getfield 35, 3) := by decide +kernel
theorem dX6_simplify_34 : decode cX6_simplify 34 = .ok (.ifCond .le 5, 3) := by decide +kernel
theorem dX6_simplify_37 : decode cX6_simplify 37 = .ok (.iconst 0, 1) := by decide +kernel
theorem dX6_simplify_38 : decode cX6_simplify 38 = .ok (.ireturn, 1) := by decide +kernel
theorem dX6_simplify_39 : decode cX6_simplify 39 = .ok (.aload_n 0, 1) := by decide +kernel
theorem dX6_simplify_40 : decode cX6_simplify 40 = .ok (.invokevirtual 62, 3) := by decide +kernel
theorem dX6_simplify_43 : decode cX6_simplify 43 = .ok (.aload_n 0, 1) := by decide +kernel
theorem dX6_simplify_44 : decode cX6_simplify 44 = .ok (.iload_n 1, 1) := by decide +kernel
theorem dX6_simplify_45 : decode cX6_simplify 45 = .ok (.aload_n 0, 1) := by decide +kernel
theorem dX6_simplify_46 : decode cX6_simplify 46 = .ok (.getfield 7, 3) := by decide +kernel
theorem dX6_simplify_49 : decode cX6_simplify 49 = .ok (.sipush 297, 3) := by decide +kernel
theorem dX6_simplify_52 : decode cX6_simplify 52 = .ok (.iaload, 1) := by decide +kernel
theorem dX6_simplify_53 : decode cX6_simplify 53 = .ok (.iload_n 2, 1) := by decide +kernel
theorem dX6_simplify_54 : decode cX6_simplify 54 = .ok (.invokevirtual 154, 3) := by decide +kernel
theorem dX6_simplify_57 : decode cX6_simplify 57 = .ok (.istore_n 3, 1) := by decide +kernel
theorem dX6_simplify_58 : decode cX6_simplify 58 = .ok (.aload_n 0, 1) := by decide +kernel
theorem dX6_simplify_59 : decode cX6_simplify 59 = .ok (.getfield 7, 3) := by decide +kernel
theorem dX6_simplify_62 : decode cX6_simplify 62 = .ok (.bipush 74, 2) := by decide +kernel
theorem dX6_simplify_64 : decode cX6_simplify 64 = .ok (.iload_n 1, 1) := by decide +kernel
theorem dX6_simplify_65 : decode cX6_simplify 65 = .ok (.imul, 1) := by decide +kernel
theorem dX6_simplify_66 : decode cX6_simplify 66 = .ok (.iconst 1, 1) := by decide +kernel
theorem dX6_simplify_67 : decode cX6_simplify 67 = .ok (.iadd, 1) := by decide +kernel
theorem dX6_simplify_68 : decode cX6_simplify 68 = .ok (.iload_n 3, 1) := by decide +kernel
theorem dX6_simplify_69 : decode cX6_simplify 69 = .ok (.iastore, 1) := by decide +kernel
theorem dX6_simplify_70 : decode cX6_simplify 70 = .ok (.aload_n 0, 1) := by decide +kernel
theorem dX6_simplify_71 : decode cX6_simplify 71 = .ok (.getfield 7, 3) := by decide +kernel
theorem dX6_simplify_74 : decode cX6_simplify 74 = .ok (.sipush 301, 3) := by decide +kernel
theorem dX6_simplify_77 : decode cX6_simplify 77 = .ok (.dup2, 1) := by decide +kernel
theorem dX6_simplify_78 : decode cX6_simplify 78 = .ok (.iaload, 1) := by decide +kernel
theorem dX6_simplify_79 : decode cX6_simplify 79 = .ok (.iconst 1, 1) := by decide +kernel
theorem dX6_simplify_80 : decode cX6_simplify 80 = .ok (.iadd, 1) := by decide +kernel
theorem dX6_simplify_81 : decode cX6_simplify 81 = .ok (.iastore, 1) := by decide +kernel
theorem dX6_simplify_82 : decode cX6_simplify 82 = .ok (.aload_n 0, 1) := by decide +kernel
theorem dX6_simplify_83 : decode cX6_simplify 83 = .ok (.getfield 7, 3) := by decide +kernel
theorem dX6_simplify_86 : decode cX6_simplify 86 = .ok (.sipush 302, 3) := by decide +kernel
theorem dX6_simplify_89 : decode cX6_simplify 89 = .ok (.dup2, 1) := by decide +kernel
theorem dX6_simplify_90 : decode cX6_simplify 90 = .ok (.iaload, 1) := by decide +kernel
theorem dX6_simplify_91 : decode cX6_simplify 91 = .ok (.aload_n 0, 1) := by decide +kernel
theorem dX6_simplify_92 : decode cX6_simplify 92 = .ok (.iload_n 1, 1) := by decide +kernel
theorem dX6_simplify_93 : decode cX6_simplify 93 = .ok (.invokevirtual 47, 3) := by decide +kernel
theorem dX6_simplify_96 : decode cX6_simplify 96 = .ok (.iload_n 3, 1) := by decide +kernel
theorem dX6_simplify_97 : decode cX6_simplify 97 = .ok (.invokestatic 157, 3) := by decide +kernel
theorem dX6_simplify_100 : decode cX6_simplify 100 = .ok (.isub, 1) := by decide +kernel
theorem dX6_simplify_101 : decode cX6_simplify 101 = .ok (.iadd, 1) := by decide +kernel
theorem dX6_simplify_102 : decode cX6_simplify 102 = .ok (.iastore, 1) := by decide +kernel
theorem dX6_simplify_103 : decode cX6_simplify 103 = .ok (.iload_n 3, 1) := by decide +kernel
theorem dX6_simplify_104 : decode cX6_simplify 104 = .ok (.invokestatic 157, 3) := by decide +kernel
theorem dX6_simplify_107 : decode cX6_simplify 107 = .ok (.ireturn, 1) := by decide +kernel
set_option maxRecDepth 20000 in
theorem ggX6_bake_X6_isStroke : GoodIn wsX6_bake wsX6_isStroke := goodIn_r _ [6, 7, 8, 9, 5, 10, 51, 52, 53, 54, 55, 56, 57, 58, 59, 60, 61, 62, 63, 64, 65, 66] (by decide +kernel) (by decide +kernel)
set_option maxRecDepth 20000 in
theorem gX6_bake_X6_isStroke : GoodIn wsX6_bake (wsV RX6 43 RX6 yX6_isStroke wsX6_isStroke) := goodIn_app (goodIn_of _ (by decide +kernel)) ggX6_bake_X6_isStroke
set_option maxRecDepth 20000 in
theorem ggX6_bake_X6_record : GoodIn wsX6_bake wsX6_record := goodIn_r _ [14, 15, 16, 7, 51, 52, 53, 54, 55, 56, 57, 58, 59, 60, 61, 62, 63, 64, 65, 66] (by decide +kernel) (by decide +kernel)
set_option maxRecDepth 20000 in
theorem gX6_bake_X6_record : GoodIn wsX6_bake (wsV RX6 62 RX6 yX6_record wsX6_record) := goodIn_app (goodIn_of _ (by decide +kernel)) ggX6_bake_X6_record
set_option maxRecDepth 20000 in
theorem ggX6_bake_X6_keptOf : GoodIn wsX6_bake wsX6_keptOf := goodIn_r _ [20, 7, 51, 52, 53, 54, 55, 56, 57, 58, 59, 60, 61, 62, 63, 64, 65, 66] (by decide +kernel) (by decide +kernel)
set_option maxRecDepth 20000 in
theorem gX6_bake_X6_keptOf : GoodIn wsX6_bake (wsV RX6 160 RX6 yX6_keptOf wsX6_keptOf) := goodIn_app (goodIn_of _ (by decide +kernel)) ggX6_bake_X6_keptOf
set_option maxRecDepth 20000 in
theorem ggX6_bake_X6_points : GoodIn wsX6_bake wsX6_points := goodIn_r _ [24, 7, 51, 52, 53, 54, 55, 56, 57, 58, 59, 60, 61, 62, 63, 64, 65, 66] (by decide +kernel) (by decide +kernel)
set_option maxRecDepth 20000 in
theorem gX6_bake_X6_points : GoodIn wsX6_bake (wsV RX6 47 RX6 yX6_points wsX6_points) := goodIn_app (goodIn_of _ (by decide +kernel)) ggX6_bake_X6_points
set_option maxRecDepth 20000 in
theorem ggX6_bake_X6_ones : GoodIn wsX6_bake wsX6_ones := goodIn_r _ [27] (by decide +kernel) (by decide +kernel)
set_option maxRecDepth 20000 in
theorem gX6_bake_X6_ones : GoodIn wsX6_bake (va_wsS RX6 157 yX6_ones wsX6_ones) := goodIn_app (goodIn_of _ (by decide +kernel)) ggX6_bake_X6_ones
set_option maxRecDepth 20000 in
theorem ggX6_bake_X6_has : GoodIn wsX6_bake wsX6_has := goodIn_r _ [30] (by decide +kernel) (by decide +kernel)
set_option maxRecDepth 20000 in
theorem gX6_bake_X6_has : GoodIn wsX6_bake (va_wsS RX6 54 yX6_has wsX6_has) := goodIn_app (goodIn_of _ (by decide +kernel)) ggX6_bake_X6_has
set_option maxRecDepth 20000 in
theorem ggX6_bake_X6_drop : GoodIn wsX6_bake wsX6_drop := goodIn_r _ [34, 7, 21, 22, 23, 5, 24, 35, 36, 37, 38, 39, 40, 41, 42, 51, 52, 53, 54, 55, 56, 57, 58, 59, 60, 61, 62, 63, 64, 65, 66] (by decide +kernel) (by decide +kernel)
set_option maxRecDepth 20000 in
theorem gX6_bake_X6_drop : GoodIn wsX6_bake (wsV RX6 150 RX6 yX6_drop wsX6_drop) := goodIn_app (goodIn_of _ (by decide +kernel)) ggX6_bake_X6_drop
set_option maxRecDepth 20000 in
theorem ggX6_bake_X6_keepAll : GoodIn wsX6_bake wsX6_keepAll := goodIn_r _ [46, 7, 47, 48, 49, 5, 50, 21, 22, 23, 24, 51, 52, 53, 54, 55, 56, 57, 58, 59, 60, 61, 62, 63, 64, 65, 66] (by decide +kernel) (by decide +kernel)
set_option maxRecDepth 20000 in
theorem gX6_bake_X6_keepAll : GoodIn wsX6_bake (wsV RX6 120 RX6 yX6_keepAll wsX6_keepAll) := goodIn_app (goodIn_of _ (by decide +kernel)) ggX6_bake_X6_keepAll
theorem dX6_bake_0 : decode cX6_bake 0 = .ok (.aload_n 0, 1) := by decide +kernel
theorem dX6_bake_1 : decode cX6_bake 1 = .ok (.aload_n 0, 1) := by decide +kernel
theorem dX6_bake_2 : decode cX6_bake 2 = .ok (.iload_n 1, 1) := by decide +kernel
theorem dX6_bake_3 : decode cX6_bake 3 = .ok (.invokevirtual 43, 3) := by decide +kernel
theorem dX6_bake_6 : decode cX6_bake 6 = .ok (.ifCond .eq 7, 3) := by decide +kernel
theorem dX6_bake_9 : decode cX6_bake 9 = .ok (.iconst 0, 1) := by decide +kernel
theorem dX6_bake_10 : decode cX6_bake 10 = .ok (.goto 4, 3) := by decide +kernel
theorem dX6_bake_13 : decode cX6_bake 13 = .ok (.iconst 1, 1) := by decide +kernel
theorem dX6_bake_14 : decode cX6_bake 14 = .ok (.putfield 35, 3) := by decide +kernel
theorem dX6_bake_17 : decode cX6_bake 17 = .ok (.aload_n 0, 1) := by decide +kernel
theorem dX6_bake_18 : decode cX6_bake 18 = .ok (.getfield 35, 3) := by decide +kernel
theorem dX6_bake_21 : decode cX6_bake 21 = .ok (.ifCond .le 5, 3) := by decide +kernel
theorem dX6_bake_24 : decode cX6_bake 24 = .ok (.iconst 0, 1) := by decide +kernel
theorem dX6_bake_25 : decode cX6_bake 25 = .ok (.ireturn, 1) := by decide +kernel
theorem dX6_bake_26 : decode cX6_bake 26 = .ok (.aload_n 0, 1) := by decide +kernel
theorem dX6_bake_27 : decode cX6_bake 27 = .ok (.invokevirtual 62, 3) := by decide +kernel
theorem dX6_bake_30 : decode cX6_bake 30 = .ok (.aload_n 0, 1) := by decide +kernel
theorem dX6_bake_31 : decode cX6_bake 31 = .ok (.iload_n 1, 1) := by decide +kernel
theorem dX6_bake_32 : decode cX6_bake 32 = .ok (.invokevirtual 160, 3) := by decide +kernel
theorem dX6_bake_35 : decode cX6_bake 35 = .ok (.istore_n 2, 1) := by decide +kernel
theorem dX6_bake_36 : decode cX6_bake 36 = .ok (.aload_n 0, 1) := by decide +kernel
theorem dX6_bake_37 : decode cX6_bake 37 = .ok (.iload_n 1, 1) := by decide +kernel
theorem dX6_bake_38 : decode cX6_bake 38 = .ok (.invokevirtual 47, 3) := by decide +kernel
theorem dX6_bake_41 : decode cX6_bake 41 = .ok (.iload_n 2, 1) := by decide +kernel
theorem dX6_bake_42 : decode cX6_bake 42 = .ok (.invokestatic 157, 3) := by decide +kernel
theorem dX6_bake_45 : decode cX6_bake 45 = .ok (.isub, 1) := by decide +kernel
theorem dX6_bake_46 : decode cX6_bake 46 = .ok (.istore_n 3, 1) := by decide +kernel
theorem dX6_bake_47 : decode cX6_bake 47 = .ok (.aload_n 0, 1) := by decide +kernel
theorem dX6_bake_48 : decode cX6_bake 48 = .ok (.iload_n 1, 1) := by decide +kernel
theorem dX6_bake_49 : decode cX6_bake 49 = .ok (.invokevirtual 47, 3) := by decide +kernel
theorem dX6_bake_52 : decode cX6_bake 52 = .ok (.iconst 1, 1) := by decide +kernel
theorem dX6_bake_53 : decode cX6_bake 53 = .ok (.isub, 1) := by decide +kernel
theorem dX6_bake_54 : decode cX6_bake 54 = .ok (.istore 4, 2) := by decide +kernel
theorem dX6_bake_56 : decode cX6_bake 56 = .ok (.iload 4, 2) := by decide +kernel
theorem dX6_bake_58 : decode cX6_bake 58 = .ok (.ifCond .lt 25, 3) := by decide +kernel
theorem dX6_bake_61 : decode cX6_bake 61 = .ok (.iload_n 2, 1) := by decide +kernel
theorem dX6_bake_62 : decode cX6_bake 62 = .ok (.iload 4, 2) := by decide +kernel
theorem dX6_bake_64 : decode cX6_bake 64 = .ok (.invokestatic 54, 3) := by decide +kernel
theorem dX6_bake_67 : decode cX6_bake 67 = .ok (.ifCond .ne 10, 3) := by decide +kernel
theorem dX6_bake_70 : decode cX6_bake 70 = .ok (.aload_n 0, 1) := by decide +kernel
theorem dX6_bake_71 : decode cX6_bake 71 = .ok (.iload_n 1, 1) := by decide +kernel
theorem dX6_bake_72 : decode cX6_bake 72 = .ok (.iload 4, 2) := by decide +kernel
theorem dX6_bake_74 : decode cX6_bake 74 = .ok (.invokevirtual 150, 3) := by decide +kernel
theorem dX6_bake_77 : decode cX6_bake 77 = .ok (.iinc 4 (-1), 3) := by decide +kernel
theorem dX6_bake_80 : decode cX6_bake 80 = .ok (.goto (-24), 3) := by decide +kernel
theorem dX6_bake_83 : decode cX6_bake 83 = .ok (.aload_n 0, 1) := by decide +kernel
theorem dX6_bake_84 : decode cX6_bake 84 = .ok (.iload_n 1, 1) := by decide +kernel
theorem dX6_bake_85 : decode cX6_bake 85 = .ok (.invokevirtual 120, 3) := by decide +kernel
theorem dX6_bake_88 : decode cX6_bake 88 = .ok (.iload_n 3, 1) := by decide +kernel
theorem dX6_bake_89 : decode cX6_bake 89 = .ok (.ireturn, 1) := by decide +kernel
theorem dX6_most_0 : decode cX6_most 0 = .ok (.iload_n 0, 1) := by decide +kernel
theorem dX6_most_1 : decode cX6_most 1 = .ok (.ifCond .ne 8, 3) := by decide +kernel
theorem dX6_most_4 : decode cX6_most 4 = .ok (.bipush 50, 2) := by decide +kernel
theorem dX6_most_6 : decode cX6_most 6 = .ok (.goto 15, 3) := by decide +kernel
theorem dX6_most_9 : decode cX6_most 9 = .ok (.iload_n 0, 1) := by decide +kernel
theorem dX6_most_10 : decode cX6_most 10 = .ok (.iconst 2, 1) := by decide +kernel
theorem dX6_most_11 : decode cX6_most 11 = .ok (.if_icmp .ne 8, 3) := by decide +kernel
theorem dX6_most_14 : decode cX6_most 14 = .ok (.bipush 20, 2) := by decide +kernel
theorem dX6_most_16 : decode cX6_most 16 = .ok (.goto 5, 3) := by decide +kernel
theorem dX6_most_19 : decode cX6_most 19 = .ok (.bipush 100, 2) := by decide +kernel
theorem dX6_most_21 : decode cX6_most 21 = .ok (.ireturn, 1) := by decide +kernel
set_option maxRecDepth 20000 in
theorem ggX6_set_X6_in : GoodIn wsX6_set wsX6_in := goodIn_r _ [6] (by decide +kernel) (by decide +kernel)
set_option maxRecDepth 20000 in
theorem gX6_set_X6_in : GoodIn wsX6_set (va_wsS RX6 39 yX6_in wsX6_in) := goodIn_app (goodIn_of _ (by decide +kernel)) ggX6_set_X6_in
set_option maxRecDepth 20000 in
theorem ggX6_set_X6_most : GoodIn wsX6_set wsX6_most := goodIn_r _ [9] (by decide +kernel) (by decide +kernel)
set_option maxRecDepth 20000 in
theorem gX6_set_X6_most : GoodIn wsX6_set (va_wsS RX6 163 yX6_most wsX6_most) := goodIn_app (goodIn_of _ (by decide +kernel)) ggX6_set_X6_most
set_option maxRecDepth 20000 in
theorem ggX6_set_X6_record : GoodIn wsX6_set wsX6_record := goodIn_r _ [13, 14, 15, 2, 16, 17, 18, 19, 20, 21, 22, 23, 24, 25, 26, 27, 28, 29, 30, 31] (by decide +kernel) (by decide +kernel)
set_option maxRecDepth 20000 in
theorem gX6_set_X6_record : GoodIn wsX6_set (wsV RX6 62 RX6 yX6_record wsX6_record) := goodIn_app (goodIn_of _ (by decide +kernel)) ggX6_set_X6_record
theorem dX6_set_0 : decode cX6_set 0 = .ok (.aload_n 0, 1) := by decide +kernel
theorem dX6_set_1 : decode cX6_set 1 = .ok (.iload_n 1, 1) := by decide +kernel
theorem dX6_set_2 : decode cX6_set 2 = .ok (.iconst 0, 1) := by decide +kernel
theorem dX6_set_3 : decode cX6_set 3 = .ok (.iconst 3, 1) := by decide +kernel
theorem dX6_set_4 : decode cX6_set 4 = .ok (.invokestatic 39, 3) := by decide +kernel
theorem dX6_set_7 : decode cX6_set 7 = .ok (.ifCond .ne 7, 3) := by decide +kernel
theorem dX6_set_10 : decode cX6_set 10 = .ok (.iconst 1, 1) := by decide +kernel
theorem dX6_set_11 : decode cX6_set 11 = .ok (.goto 29, 3) := by decide +kernel
theorem dX6_set_14 : decode cX6_set 14 = .ok (.iload_n 2, 1) := by decide +kernel
theorem dX6_set_15 : decode cX6_set 15 = .ok (.iload_n 1, 1) := by decide +kernel
theorem dX6_set_16 : decode cX6_set 16 = .ok (.iconst 2, 1) := by decide +kernel
theorem dX6_set_17 : decode cX6_set 17 = .ok (.if_icmp .ne 7, 3) := by decide +kernel
theorem dX6_set_20 : decode cX6_set 20 = .ok (.iconst 1, 1) := by decide +kernel
theorem dX6_set_21 : decode cX6_set 21 = .ok (.goto 4, 3) := by decide +kernel
theorem dX6_set_24 : decode cX6_set 24 = .ok (.iconst 0, 1) := by decide +kernel
theorem dX6_set_25 : decode cX6_set 25 = .ok (.iload_n 1, 1) := by decide +kernel
theorem dX6_set_26 : decode cX6_set 26 = .ok (.invokestatic 163, 3) := by decide +kernel
theorem dX6_set_29 : decode cX6_set 29 = .ok (.invokestatic 39, 3) := by decide +kernel
theorem dX6_set_32 : decode cX6_set 32 = .ok (.ifCond .eq 7, 3) := by decide +kernel
theorem dX6_set_35 : decode cX6_set 35 = .ok (.iconst 0, 1) := by decide +kernel
theorem dX6_set_36 : decode cX6_set 36 = .ok (.goto 4, 3) := by decide +kernel
theorem dX6_set_39 : decode cX6_set 39 = .ok (.iconst 2, 1) := by decide +kernel
theorem dX6_set_40 : decode cX6_set 40 = .ok (.putfield 35, 3) := by decide +kernel
theorem dX6_set_43 : decode cX6_set 43 = .ok (.aload_n 0, 1) := by decide +kernel
theorem dX6_set_44 : decode cX6_set 44 = .ok (.getfield 35, 3) := by decide +kernel
theorem dX6_set_47 : decode cX6_set 47 = .ok (.ifCond .le 5, 3) := by decide +kernel
theorem dX6_set_50 : decode cX6_set 50 = .ok (.iconst 0, 1) := by decide +kernel
theorem dX6_set_51 : decode cX6_set 51 = .ok (.ireturn, 1) := by decide +kernel
theorem dX6_set_52 : decode cX6_set 52 = .ok (.aload_n 0, 1) := by decide +kernel
theorem dX6_set_53 : decode cX6_set 53 = .ok (.invokevirtual 62, 3) := by decide +kernel
theorem dX6_set_56 : decode cX6_set 56 = .ok (.aload_n 0, 1) := by decide +kernel
theorem dX6_set_57 : decode cX6_set 57 = .ok (.getfield 7, 3) := by decide +kernel
theorem dX6_set_60 : decode cX6_set 60 = .ok (.sipush 297, 3) := by decide +kernel
theorem dX6_set_63 : decode cX6_set 63 = .ok (.iload_n 1, 1) := by decide +kernel
theorem dX6_set_64 : decode cX6_set 64 = .ok (.iadd, 1) := by decide +kernel
theorem dX6_set_65 : decode cX6_set 65 = .ok (.iaload, 1) := by decide +kernel
theorem dX6_set_66 : decode cX6_set 66 = .ok (.istore_n 3, 1) := by decide +kernel
theorem dX6_set_67 : decode cX6_set 67 = .ok (.aload_n 0, 1) := by decide +kernel
theorem dX6_set_68 : decode cX6_set 68 = .ok (.getfield 7, 3) := by decide +kernel
theorem dX6_set_71 : decode cX6_set 71 = .ok (.sipush 297, 3) := by decide +kernel
theorem dX6_set_74 : decode cX6_set 74 = .ok (.iload_n 1, 1) := by decide +kernel
theorem dX6_set_75 : decode cX6_set 75 = .ok (.iadd, 1) := by decide +kernel
theorem dX6_set_76 : decode cX6_set 76 = .ok (.iload_n 2, 1) := by decide +kernel
theorem dX6_set_77 : decode cX6_set 77 = .ok (.iastore, 1) := by decide +kernel
theorem dX6_set_78 : decode cX6_set 78 = .ok (.iload_n 3, 1) := by decide +kernel
theorem dX6_set_79 : decode cX6_set 79 = .ok (.ireturn, 1) := by decide +kernel
set_option maxRecDepth 20000 in
theorem ggX6_append_X6_in : GoodIn wsX6_append wsX6_in := goodIn_r _ [7] (by decide +kernel) (by decide +kernel)
set_option maxRecDepth 20000 in
theorem gX6_append_X6_in : GoodIn wsX6_append (va_wsS RX6 39 yX6_in wsX6_in) := goodIn_app (goodIn_of _ (by decide +kernel)) ggX6_append_X6_in
theorem dX6_append_0 : decode cX6_append 0 = .ok (.aload_n 0, 1) := by decide +kernel
theorem dX6_append_1 : decode cX6_append 1 = .ok (.iload_n 1, 1) := by decide +kernel
theorem dX6_append_2 : decode cX6_append 2 = .ok (.bipush 33, 2) := by decide +kernel
theorem dX6_append_4 : decode cX6_append 4 = .ok (.bipush 126, 2) := by decide +kernel
theorem dX6_append_6 : decode cX6_append 6 = .ok (.invokestatic 39, 3) := by decide +kernel
theorem dX6_append_9 : decode cX6_append 9 = .ok (.ifCond .ne 7, 3) := by decide +kernel
theorem dX6_append_12 : decode cX6_append 12 = .ok (.iconst 1, 1) := by decide +kernel
theorem dX6_append_13 : decode cX6_append 13 = .ok (.goto 17, 3) := by decide +kernel
theorem dX6_append_16 : decode cX6_append 16 = .ok (.aload_n 0, 1) := by decide +kernel
theorem dX6_append_17 : decode cX6_append 17 = .ok (.getfield 141, 3) := by decide +kernel
theorem dX6_append_20 : decode cX6_append 20 = .ok (.bipush 70, 2) := by decide +kernel
theorem dX6_append_22 : decode cX6_append 22 = .ok (.if_icmp .ne 7, 3) := by decide +kernel
theorem dX6_append_25 : decode cX6_append 25 = .ok (.iconst 2, 1) := by decide +kernel
theorem dX6_append_26 : decode cX6_append 26 = .ok (.goto 4, 3) := by decide +kernel
theorem dX6_append_29 : decode cX6_append 29 = .ok (.iconst 0, 1) := by decide +kernel
theorem dX6_append_30 : decode cX6_append 30 = .ok (.putfield 35, 3) := by decide +kernel
theorem dX6_append_33 : decode cX6_append 33 = .ok (.aload_n 0, 1) := by decide +kernel
theorem dX6_append_34 : decode cX6_append 34 = .ok (.getfield 35, 3) := by decide +kernel
theorem dX6_append_37 : decode cX6_append 37 = .ok (.ifCond .le 5, 3) := by decide +kernel
theorem dX6_append_40 : decode cX6_append 40 = .ok (.iconst 0, 1) := by decide +kernel
theorem dX6_append_41 : decode cX6_append 41 = .ok (.ireturn, 1) := by decide +kernel
theorem dX6_append_42 : decode cX6_append 42 = .ok (.aload_n 0, 1) := by decide +kernel
theorem dX6_append_43 : decode cX6_append 43 = .ok (.getfield 23, 3) := by decide +kernel
theorem dX6_append_46 : decode cX6_append 46 = .ok (.aload_n 0, 1) := by decide +kernel
theorem dX6_append_47 : decode cX6_append 47 = .ok (.getfield 141, 3) := by decide +kernel
theorem dX6_append_50 : decode cX6_append 50 = .ok (.iload_n 1, 1) := by decide +kernel
theorem dX6_append_51 : decode cX6_append 51 = .ok (.iastore, 1) := by decide +kernel
theorem dX6_append_52 : decode cX6_append 52 = .ok (.aload_n 0, 1) := by decide +kernel
theorem dX6_append_53 : decode cX6_append 53 = .ok (.dup, 1) := by decide +kernel
theorem dX6_append_54 : decode cX6_append 54 = .ok (.getfield 141, 3) := by decide +kernel
theorem dX6_append_57 : decode cX6_append 57 = .ok (.iconst 1, 1) := by decide +kernel
theorem dX6_append_58 : decode cX6_append 58 = .ok (.iadd, 1) := by decide +kernel
theorem dX6_append_59 : decode cX6_append 59 = .ok (.putfield 141, 3) := by decide +kernel
theorem dX6_append_62 : decode cX6_append 62 = .ok (.aload_n 0, 1) := by decide +kernel
theorem dX6_append_63 : decode cX6_append 63 = .ok (.getfield 141, 3) := by decide +kernel
theorem dX6_append_66 : decode cX6_append 66 = .ok (.ireturn, 1) := by decide +kernel
theorem dX6_clearBuffer_0 : decode cX6_clearBuffer 0 = .ok (.aload_n 0, 1) := by decide +kernel
theorem dX6_clearBuffer_1 : decode cX6_clearBuffer 1 = .ok (.iconst 0, 1) := by decide +kernel
theorem dX6_clearBuffer_2 : decode cX6_clearBuffer 2 = .ok (.putfield 35, 3) := by decide +kernel
theorem dX6_clearBuffer_5 : decode cX6_clearBuffer 5 = .ok (.aload_n 0, 1) := by decide +kernel
theorem dX6_clearBuffer_6 : decode cX6_clearBuffer 6 = .ok (.getfield 141, 3) := by decide +kernel
theorem dX6_clearBuffer_9 : decode cX6_clearBuffer 9 = .ok (.istore_n 1, 1) := by decide +kernel
theorem dX6_clearBuffer_10 : decode cX6_clearBuffer 10 = .ok (.aload_n 0, 1) := by decide +kernel
theorem dX6_clearBuffer_11 : decode cX6_clearBuffer 11 = .ok (.iconst 0, 1) := by decide +kernel
theorem dX6_clearBuffer_12 : decode cX6_clearBuffer 12 = .ok (.putfield 141, 3) := by decide +kernel
theorem dX6_clearBuffer_15 : decode cX6_clearBuffer 15 = .ok (.iload_n 1, 1) := by decide +kernel
theorem dX6_clearBuffer_16 : decode cX6_clearBuffer 16 = .ok (.ireturn, 1) := by decide +kernel
theorem dX6_sign_0 : decode cX6_sign 0 = .ok (.aload_n 0, 1) := by decide +kernel
theorem dX6_sign_1 : decode cX6_sign 1 = .ok (.getfield 166, 3) := by decide +kernel
theorem dX6_sign_4 : decode cX6_sign 4 = .ok (.aload_n 0, 1) := by decide +kernel
theorem dX6_sign_5 : decode cX6_sign 5 = .ok (.getfield 141, 3) := by decide +kernel
theorem dX6_sign_8 : decode cX6_sign 8 = .ok (.if_icmp .ge 15, 3) := by decide +kernel
theorem dX6_sign_11 : decode cX6_sign 11 = .ok (.aload_n 0, 1) := by decide +kernel
theorem dX6_sign_12 : decode cX6_sign 12 = .ok (.getfield 23, 3) := by decide +kernel
theorem dX6_sign_15 : decode cX6_sign 15 = .ok (.aload_n 0, 1) := by decide +kernel
theorem dX6_sign_16 : decode cX6_sign 16 = .ok (.getfield 166, 3) := by decide +kernel
theorem dX6_sign_19 : decode cX6_sign 19 = .ok (.iaload, 1) := by decide +kernel
theorem dX6_sign_20 : decode cX6_sign 20 = .ok (.goto 4, 3) := by decide +kernel
theorem dX6_sign_23 : decode cX6_sign 23 = .ok (.iconst 0, 1) := by decide +kernel
theorem dX6_sign_24 : decode cX6_sign 24 = .ok (.ireturn, 1) := by decide +kernel
theorem dX6_take_0 : decode cX6_take 0 = .ok (.aload_n 0, 1) := by decide +kernel
theorem dX6_take_1 : decode cX6_take 1 = .ok (.aload_n 0, 1) := by decide +kernel
theorem dX6_take_2 : decode cX6_take 2 = .ok (.getfield 169, 3) := by decide +kernel
theorem dX6_take_5 : decode cX6_take 5 = .ok (.ifCond .ne 7, 3) := by decide +kernel
theorem dX6_take_8 : decode cX6_take 8 = .ok (.iload_n 1, 1) := by decide +kernel
theorem dX6_take_9 : decode cX6_take 9 = .ok (.ifCond .ne 7, 3) := by decide +kernel
theorem dX6_take_12 : decode cX6_take 12 = .ok (.iconst 1, 1) := by decide +kernel
theorem dX6_take_13 : decode cX6_take 13 = .ok (.goto 4, 3) := by decide +kernel
theorem dX6_take_16 : decode cX6_take 16 = .ok (.iconst 0, 1) := by decide +kernel
theorem dX6_take_17 : decode cX6_take 17 = .ok (.putfield 169, 3) := by decide +kernel
theorem dX6_take_20 : decode cX6_take 20 = .ok (.aload_n 0, 1) := by decide +kernel
theorem dX6_take_21 : decode cX6_take 21 = .ok (.dup, 1) := by decide +kernel
theorem dX6_take_22 : decode cX6_take 22 = .ok (.getfield 166, 3) := by decide +kernel
theorem dX6_take_25 : decode cX6_take 25 = .ok (.aload_n 0, 1) := by decide +kernel
theorem dX6_take_26 : decode cX6_take 26 = .ok (.getfield 169, 3) := by decide +kernel
theorem dX6_take_29 : decode cX6_take 29 = .ok (.ifCond .eq 7, 3) := by decide +kernel
theorem dX6_take_32 : decode cX6_take 32 = .ok (.iconst 0, 1) := by decide +kernel
theorem dX6_take_33 : decode cX6_take 33 = .ok (.goto 4, 3) := by decide +kernel
theorem dX6_take_36 : decode cX6_take 36 = .ok (.iconst 1, 1) := by decide +kernel
theorem dX6_take_37 : decode cX6_take 37 = .ok (.iadd, 1) := by decide +kernel
theorem dX6_take_38 : decode cX6_take 38 = .ok (.putfield 166, 3) := by decide +kernel
theorem dX6_take_41 : decode cX6_take 41 = .ok (.return_, 1) := by decide +kernel
set_option maxRecDepth 20000 in
theorem ggX6_takeNumber_X6_sign : GoodIn wsX6_takeNumber wsX6_sign := goodIn_r _ [7, 2, 8, 9, 17, 18, 19, 20, 21, 22, 23, 24, 25, 26, 27, 28, 29, 30, 31, 32] (by decide +kernel) (by decide +kernel)
set_option maxRecDepth 20000 in
theorem gX6_takeNumber_X6_sign : GoodIn wsX6_takeNumber (wsV RX6 173 RX6 yX6_sign wsX6_sign) := goodIn_app (goodIn_of _ (by decide +kernel)) ggX6_takeNumber_X6_sign
set_option maxRecDepth 20000 in
theorem ggX6_takeNumber_X6_in : GoodIn wsX6_takeNumber wsX6_in := goodIn_r _ [12] (by decide +kernel) (by decide +kernel)
set_option maxRecDepth 20000 in
theorem gX6_takeNumber_X6_in : GoodIn wsX6_takeNumber (va_wsS RX6 39 yX6_in wsX6_in) := goodIn_app (goodIn_of _ (by decide +kernel)) ggX6_takeNumber_X6_in
set_option maxRecDepth 20000 in
theorem ggX6_takeNumber_X6_take : GoodIn wsX6_takeNumber wsX6_take := goodIn_r _ [16, 1, 2, 17, 18, 19, 20, 21, 22, 23, 24, 25, 26, 27, 28, 29, 30, 31, 32] (by decide +kernel) (by decide +kernel)
set_option maxRecDepth 20000 in
theorem gX6_takeNumber_X6_take : GoodIn wsX6_takeNumber (wsV RX6 176 RX6 yX6_take wsX6_take) := goodIn_app (goodIn_of _ (by decide +kernel)) ggX6_takeNumber_X6_take
theorem dX6_takeNumber_0 : decode cX6_takeNumber 0 = .ok (.aload_n 0, 1) := by decide +kernel
theorem dX6_takeNumber_1 : decode cX6_takeNumber 1 = .ok (.invokevirtual 173, 3) := by decide +kernel
theorem dX6_takeNumber_4 : decode cX6_takeNumber 4 = .ok (.bipush 48, 2) := by decide +kernel
theorem dX6_takeNumber_6 : decode cX6_takeNumber 6 = .ok (.isub, 1) := by decide +kernel
theorem dX6_takeNumber_7 : decode cX6_takeNumber 7 = .ok (.istore_n 3, 1) := by decide +kernel
theorem dX6_takeNumber_8 : decode cX6_takeNumber 8 = .ok (.aload_n 0, 1) := by decide +kernel
theorem dX6_takeNumber_9 : decode cX6_takeNumber 9 = .ok (.iload_n 3, 1) := by decide +kernel
theorem dX6_takeNumber_10 : decode cX6_takeNumber 10 = .ok (.iload_n 1, 1) := by decide +kernel
theorem dX6_takeNumber_11 : decode cX6_takeNumber 11 = .ok (.bipush 9, 2) := by decide +kernel
theorem dX6_takeNumber_13 : decode cX6_takeNumber 13 = .ok (.invokestatic 39, 3) := by decide +kernel
theorem dX6_takeNumber_16 : decode cX6_takeNumber 16 = .ok (.invokevirtual 176, 3) := by decide +kernel
theorem dX6_takeNumber_19 : decode cX6_takeNumber 19 = .ok (.aload_n 0, 1) := by decide +kernel
theorem dX6_takeNumber_20 : decode cX6_takeNumber 20 = .ok (.getfield 169, 3) := by decide +kernel
theorem dX6_takeNumber_23 : decode cX6_takeNumber 23 = .ok (.ifCond .ne 63, 3) := by decide +kernel
theorem dX6_takeNumber_26 : decode cX6_takeNumber 26 = .ok (.iload_n 3, 1) := by decide +kernel
theorem dX6_takeNumber_27 : decode cX6_takeNumber 27 = .ok (.ifCond .le 59, 3) := by decide +kernel
theorem dX6_takeNumber_30 : decode cX6_takeNumber 30 = .ok (.aload_n 0, 1) := by decide +kernel
theorem dX6_takeNumber_31 : decode cX6_takeNumber 31 = .ok (.invokevirtual 173, 3) := by decide +kernel
theorem dX6_takeNumber_34 : decode cX6_takeNumber 34 = .ok (.bipush 48, 2) := by decide +kernel
theorem dX6_takeNumber_36 : decode cX6_takeNumber 36 = .ok (.bipush 57, 2) := by decide +kernel
theorem dX6_takeNumber_38 : decode cX6_takeNumber 38 = .ok (.invokestatic 39, 3) := by decide +kernel
theorem dX6_takeNumber_41 : decode cX6_takeNumber 41 = .ok (.ifCond .eq 45, 3) := by decide +kernel
theorem dX6_takeNumber_44 : decode cX6_takeNumber 44 = .ok (.bipush 10, 2) := by decide +kernel
theorem dX6_takeNumber_46 : decode cX6_takeNumber 46 = .ok (.iload_n 3, 1) := by decide +kernel
theorem dX6_takeNumber_47 : decode cX6_takeNumber 47 = .ok (.imul, 1) := by decide +kernel
theorem dX6_takeNumber_48 : decode cX6_takeNumber 48 = .ok (.aload_n 0, 1) := by decide +kernel
theorem dX6_takeNumber_49 : decode cX6_takeNumber 49 = .ok (.invokevirtual 173, 3) := by decide +kernel
theorem dX6_takeNumber_52 : decode cX6_takeNumber 52 = .ok (.iadd, 1) := by decide +kernel
theorem dX6_takeNumber_53 : decode cX6_takeNumber 53 = .ok (.bipush 48, 2) := by decide +kernel
theorem dX6_takeNumber_55 : decode cX6_takeNumber 55 = .ok (.isub, 1) := by decide +kernel
theorem dX6_takeNumber_56 : decode cX6_takeNumber 56 = .ok (.iload_n 2, 1) := by decide +kernel
theorem dX6_takeNumber_57 : decode cX6_takeNumber 57 = .ok (.if_icmp .gt 29, 3) := by decide +kernel
theorem dX6_takeNumber_60 : decode cX6_takeNumber 60 = .ok (.bipush 10, 2) := by decide +kernel
theorem dX6_takeNumber_62 : decode cX6_takeNumber 62 = .ok (.iload_n 3, 1) := by decide +kernel
theorem dX6_takeNumber_63 : decode cX6_takeNumber 63 = .ok (.imul, 1) := by decide +kernel
theorem dX6_takeNumber_64 : decode cX6_takeNumber 64 = .ok (.aload_n 0, 1) := by decide +kernel
theorem dX6_takeNumber_65 : decode cX6_takeNumber 65 = .ok (.invokevirtual 173, 3) := by decide +kernel
theorem dX6_takeNumber_68 : decode cX6_takeNumber 68 = .ok (.iadd, 1) := by decide +kernel
theorem dX6_takeNumber_69 : decode cX6_takeNumber 69 = .ok (.bipush 48, 2) := by decide +kernel
theorem dX6_takeNumber_71 : decode cX6_takeNumber 71 = .ok (.isub, 1) := by decide +kernel
theorem dX6_takeNumber_72 : decode cX6_takeNumber 72 = .ok (.istore_n 3, 1) := by decide +kernel
theorem dX6_takeNumber_73 : decode cX6_takeNumber 73 = .ok (.aload_n 0, 1) := by decide +kernel
theorem dX6_takeNumber_74 : decode cX6_takeNumber 74 = .ok (.dup, 1) := by decide +kernel
theorem dX6_takeNumber_75 : decode cX6_takeNumber 75 = .ok (.getfield 166, 3) := by decide +kernel
theorem dX6_takeNumber_78 : decode cX6_takeNumber 78 = .ok (.iconst 1, 1) := by decide +kernel
theorem dX6_takeNumber_79 : decode cX6_takeNumber 79 = .ok (.iadd, 1) := by decide +kernel
theorem dX6_takeNumber_80 : decode cX6_takeNumber 80 = .ok (.putfield 166, 3) := by decide +kernel
theorem dX6_takeNumber_83 : decode cX6_takeNumber 83 = .ok (.goto (-64), 3) := by decide +kernel
theorem dX6_takeNumber_86 : decode cX6_takeNumber 86 = .ok (.iload_n 3, 1) := by decide +kernel
theorem dX6_takeNumber_87 : decode cX6_takeNumber 87 = .ok (.ireturn, 1) := by decide +kernel
set_option maxRecDepth 20000 in
theorem ggX6_takePoint_X6_takeNumber : GoodIn wsX6_takePoint wsX6_takeNumber := goodIn_r _ [9, 1, 2, 10, 11, 12, 8, 13, 14, 15, 16, 17, 18, 19, 20, 21, 22, 23, 24, 25, 26, 27, 28, 29, 30, 31, 32, 33, 34, 35, 36, 37, 38] (by decide +kernel) (by decide +kernel)
set_option maxRecDepth 20000 in
theorem gX6_takePoint_X6_takeNumber : GoodIn wsX6_takePoint (wsV RX6 180 RX6 yX6_takeNumber wsX6_takeNumber) := goodIn_app (goodIn_of _ (by decide +kernel)) ggX6_takePoint_X6_takeNumber
set_option maxRecDepth 20000 in
theorem ggX6_takePoint_X6_sign : GoodIn wsX6_takePoint wsX6_sign := goodIn_r _ [13, 2, 14, 15, 23, 24, 25, 26, 27, 28, 29, 30, 31, 32, 33, 34, 35, 36, 37, 38] (by decide +kernel) (by decide +kernel)
set_option maxRecDepth 20000 in
theorem gX6_takePoint_X6_sign : GoodIn wsX6_takePoint (wsV RX6 173 RX6 yX6_sign wsX6_sign) := goodIn_app (goodIn_of _ (by decide +kernel)) ggX6_takePoint_X6_sign
set_option maxRecDepth 20000 in
theorem ggX6_takePoint_X6_take : GoodIn wsX6_takePoint wsX6_take := goodIn_r _ [22, 1, 2, 23, 24, 25, 26, 27, 28, 29, 30, 31, 32, 33, 34, 35, 36, 37, 38] (by decide +kernel) (by decide +kernel)
set_option maxRecDepth 20000 in
theorem gX6_takePoint_X6_take : GoodIn wsX6_takePoint (wsV RX6 176 RX6 yX6_take wsX6_take) := goodIn_app (goodIn_of _ (by decide +kernel)) ggX6_takePoint_X6_take
theorem dX6_takePoint_0 : decode cX6_takePoint 0 = .ok (.aload_n 0, 1) := by decide +kernel
theorem dX6_takePoint_1 : decode cX6_takePoint 1 = .ok (.iconst 0, 1) := by decide +kernel
theorem dX6_takePoint_2 : decode cX6_takePoint 2 = .ok (.bipush 99, 2) := by decide +kernel
theorem dX6_takePoint_4 : decode cX6_takePoint 4 = .ok (.invokevirtual 180, 3) := by decide +kernel
theorem dX6_takePoint_7 : decode cX6_takePoint 7 = .ok (.istore_n 1, 1) := by decide +kernel
theorem dX6_takePoint_8 : decode cX6_takePoint 8 = .ok (.aload_n 0, 1) := by decide +kernel
theorem dX6_takePoint_9 : decode cX6_takePoint 9 = .ok (.aload_n 0, 1) := by decide +kernel
theorem dX6_takePoint_10 : decode cX6_takePoint 10 = .ok (.invokevirtual 173, 3) := by decide +kernel
theorem dX6_takePoint_13 : decode cX6_takePoint 13 = .ok (.bipush 44, 2) := by decide +kernel
theorem dX6_takePoint_15 : decode cX6_takePoint 15 = .ok (.if_icmp .ne 7, 3) := by decide +kernel
theorem dX6_takePoint_18 : decode cX6_takePoint 18 = .ok (.iconst 1, 1) := by decide +kernel
theorem dX6_takePoint_19 : decode cX6_takePoint 19 = .ok (.goto 4, 3) := by decide +kernel
theorem dX6_takePoint_22 : decode cX6_takePoint 22 = .ok (.iconst 0, 1) := by decide +kernel
theorem dX6_takePoint_23 : decode cX6_takePoint 23 = .ok (.invokevirtual 176, 3) := by decide +kernel
theorem dX6_takePoint_26 : decode cX6_takePoint 26 = .ok (.aload_n 0, 1) := by decide +kernel
theorem dX6_takePoint_27 : decode cX6_takePoint 27 = .ok (.getfield 169, 3) := by decide +kernel
theorem dX6_takePoint_30 : decode cX6_takePoint 30 = .ok (.ifCond .eq 7, 3) := by decide +kernel
theorem dX6_takePoint_33 : decode cX6_takePoint 33 = .ok (.iconst 0, 1) := by decide +kernel
theorem dX6_takePoint_34 : decode cX6_takePoint 34 = .ok (.goto 10, 3) := by decide +kernel
theorem dX6_takePoint_37 : decode cX6_takePoint 37 = .ok (.aload_n 0, 1) := by decide +kernel
theorem dX6_takePoint_38 : decode cX6_takePoint 38 = .ok (.iconst 0, 1) := by decide +kernel
theorem dX6_takePoint_39 : decode cX6_takePoint 39 = .ok (.bipush 99, 2) := by decide +kernel
theorem dX6_takePoint_41 : decode cX6_takePoint 41 = .ok (.invokevirtual 180, 3) := by decide +kernel
theorem dX6_takePoint_44 : decode cX6_takePoint 44 = .ok (.istore_n 2, 1) := by decide +kernel
theorem dX6_takePoint_45 : decode cX6_takePoint 45 = .ok (.iconst 5, 1) := by decide +kernel
theorem dX6_takePoint_46 : decode cX6_takePoint 46 = .ok (.istore_n 3, 1) := by decide +kernel
theorem dX6_takePoint_47 : decode cX6_takePoint 47 = .ok (.aload_n 0, 1) := by decide +kernel
theorem dX6_takePoint_48 : decode cX6_takePoint 48 = .ok (.getfield 169, 3) := by decide +kernel
theorem dX6_takePoint_51 : decode cX6_takePoint 51 = .ok (.ifCond .ne 30, 3) := by decide +kernel
theorem dX6_takePoint_54 : decode cX6_takePoint 54 = .ok (.aload_n 0, 1) := by decide +kernel
theorem dX6_takePoint_55 : decode cX6_takePoint 55 = .ok (.invokevirtual 173, 3) := by decide +kernel
theorem dX6_takePoint_58 : decode cX6_takePoint 58 = .ok (.bipush 119, 2) := by decide +kernel
theorem dX6_takePoint_60 : decode cX6_takePoint 60 = .ok (.if_icmp .ne 21, 3) := by decide +kernel
theorem dX6_takePoint_63 : decode cX6_takePoint 63 = .ok (.aload_n 0, 1) := by decide +kernel
theorem dX6_takePoint_64 : decode cX6_takePoint 64 = .ok (.dup, 1) := by decide +kernel
theorem dX6_takePoint_65 : decode cX6_takePoint 65 = .ok (.getfield 166, 3) := by decide +kernel
theorem dX6_takePoint_68 : decode cX6_takePoint 68 = .ok (.iconst 1, 1) := by decide +kernel
theorem dX6_takePoint_69 : decode cX6_takePoint 69 = .ok (.iadd, 1) := by decide +kernel
theorem dX6_takePoint_70 : decode cX6_takePoint 70 = .ok (.putfield 166, 3) := by decide +kernel
theorem dX6_takePoint_73 : decode cX6_takePoint 73 = .ok (.aload_n 0, 1) := by decide +kernel
theorem dX6_takePoint_74 : decode cX6_takePoint 74 = .ok (.iconst 1, 1) := by decide +kernel
theorem dX6_takePoint_75 : decode cX6_takePoint 75 = .ok (.bipush 20, 2) := by decide +kernel
theorem dX6_takePoint_77 : decode cX6_takePoint 77 = .ok (.invokevirtual 180, 3) := by decide +kernel
theorem dX6_takePoint_80 : decode cX6_takePoint 80 = .ok (.istore_n 3, 1) := by decide +kernel
theorem dX6_takePoint_81 : decode cX6_takePoint 81 = .ok (.aload_n 0, 1) := by decide +kernel
theorem dX6_takePoint_82 : decode cX6_takePoint 82 = .ok (.getfield 169, 3) := by decide +kernel
theorem dX6_takePoint_85 : decode cX6_takePoint 85 = .ok (.ifCond .ne 53, 3) := by decide +kernel
theorem dX6_takePoint_88 : decode cX6_takePoint 88 = .ok (.aload_n 0, 1) := by decide +kernel
theorem dX6_takePoint_89 : decode cX6_takePoint 89 = .ok (.getfield 32, 3) := by decide +kernel
theorem dX6_takePoint_92 : decode cX6_takePoint 92 = .ok (.iconst 3, 1) := by decide +kernel
theorem dX6_takePoint_93 : decode cX6_takePoint 93 = .ok (.aload_n 0, 1) := by decide +kernel
theorem dX6_takePoint_94 : decode cX6_takePoint 94 = .ok (.getfield 138, 3) := by decide +kernel
theorem dX6_takePoint_97 : decode cX6_takePoint 97 = .ok (.imul, 1) := by decide +kernel
theorem dX6_takePoint_98 : decode cX6_takePoint 98 = .ok (.iload_n 1, 1) := by decide +kernel
theorem dX6_takePoint_99 : decode cX6_takePoint 99 = .ok (.iastore, 1) := by decide +kernel
theorem dX6_takePoint_100 : decode cX6_takePoint 100 = .ok (.aload_n 0, 1) := by decide +kernel
theorem dX6_takePoint_101 : decode cX6_takePoint 101 = .ok (.getfield 32, 3) := by decide +kernel
theorem dX6_takePoint_104 : decode cX6_takePoint 104 = .ok (.iconst 3, 1) := by decide +kernel
theorem dX6_takePoint_105 : decode cX6_takePoint 105 = .ok (.aload_n 0, 1) := by decide +kernel
theorem dX6_takePoint_106 : decode cX6_takePoint 106 = .ok (.getfield 138, 3) := by decide +kernel
theorem dX6_takePoint_109 : decode cX6_takePoint 109 = .ok (.imul, 1) := by decide +kernel
theorem dX6_takePoint_110 : decode cX6_takePoint 110 = .ok (.iconst 1, 1) := by decide +kernel
theorem dX6_takePoint_111 : decode cX6_takePoint 111 = .ok (.iadd, 1) := by decide +kernel
theorem dX6_takePoint_112 : decode cX6_takePoint 112 = .ok (.iload_n 2, 1) := by decide +kernel
theorem dX6_takePoint_113 : decode cX6_takePoint 113 = .ok (.iastore, 1) := by decide +kernel
theorem dX6_takePoint_114 : decode cX6_takePoint 114 = .ok (.aload_n 0, 1) := by decide +kernel
theorem dX6_takePoint_115 : decode cX6_takePoint 115 = .ok (.getfield 32, 3) := by decide +kernel
theorem dX6_takePoint_118 : decode cX6_takePoint 118 = .ok (.iconst 3, 1) := by decide +kernel
theorem dX6_takePoint_119 : decode cX6_takePoint 119 = .ok (.aload_n 0, 1) := by decide +kernel
theorem dX6_takePoint_120 : decode cX6_takePoint 120 = .ok (.getfield 138, 3) := by decide +kernel
theorem dX6_takePoint_123 : decode cX6_takePoint 123 = .ok (.imul, 1) := by decide +kernel
theorem dX6_takePoint_124 : decode cX6_takePoint 124 = .ok (.iconst 2, 1) := by decide +kernel
theorem dX6_takePoint_125 : decode cX6_takePoint 125 = .ok (.iadd, 1) := by decide +kernel
theorem dX6_takePoint_126 : decode cX6_takePoint 126 = .ok (.iload_n 3, 1) := by decide +kernel
theorem dX6_takePoint_127 : decode cX6_takePoint 127 = .ok (.iastore, 1) := by decide +kernel
theorem dX6_takePoint_128 : decode cX6_takePoint 128 = .ok (.aload_n 0, 1) := by decide +kernel
theorem dX6_takePoint_129 : decode cX6_takePoint 129 = .ok (.dup, 1) := by decide +kernel
theorem dX6_takePoint_130 : decode cX6_takePoint 130 = .ok (.getfield 138, 3) := by decide +kernel
theorem dX6_takePoint_133 : decode cX6_takePoint 133 = .ok (.iconst 1, 1) := by decide +kernel
theorem dX6_takePoint_134 : decode cX6_takePoint 134 = .ok (.iadd, 1) := by decide +kernel
theorem dX6_takePoint_135 : decode cX6_takePoint 135 = .ok (.putfield 138, 3) := by decide +kernel
theorem dX6_takePoint_138 : decode cX6_takePoint 138 = .ok (.return_, 1) := by decide +kernel
set_option maxRecDepth 20000 in
theorem ggX6_findError_X6_takePoint : GoodIn wsX6_findError wsX6_takePoint := goodIn_r _ [9, 2, 1, 10, 3, 11, 12, 13, 8, 14, 15, 16, 17, 18, 4, 19, 20, 21, 22, 23, 24, 25, 26, 27, 28, 29, 30, 31, 32, 33, 34, 35, 36, 37, 38, 39, 40, 41, 42] (by decide +kernel) (by decide +kernel)
set_option maxRecDepth 20000 in
theorem gX6_findError_X6_takePoint : GoodIn wsX6_findError (wsV RX6 183 RX6 yX6_takePoint wsX6_takePoint) := goodIn_app (goodIn_of _ (by decide +kernel)) ggX6_findError_X6_takePoint
set_option maxRecDepth 20000 in
theorem ggX6_findError_X6_sign : GoodIn wsX6_findError wsX6_sign := goodIn_r _ [18, 1, 4, 19, 27, 28, 29, 30, 31, 32, 33, 34, 35, 36, 37, 38, 39, 40, 41, 42] (by decide +kernel) (by decide +kernel)
set_option maxRecDepth 20000 in
theorem gX6_findError_X6_sign : GoodIn wsX6_findError (wsV RX6 173 RX6 yX6_sign wsX6_sign) := goodIn_app (goodIn_of _ (by decide +kernel)) ggX6_findError_X6_sign
set_option maxRecDepth 20000 in
theorem ggX6_findError_X6_take : GoodIn wsX6_findError wsX6_take := goodIn_r _ [26, 2, 1, 27, 28, 29, 30, 31, 32, 33, 34, 35, 36, 37, 38, 39, 40, 41, 42] (by decide +kernel) (by decide +kernel)
set_option maxRecDepth 20000 in
theorem gX6_findError_X6_take : GoodIn wsX6_findError (wsV RX6 176 RX6 yX6_take wsX6_take) := goodIn_app (goodIn_of _ (by decide +kernel)) ggX6_findError_X6_take
theorem dX6_findError_0 : decode cX6_findError 0 = .ok (.aload_n 0, 1) := by decide +kernel
theorem dX6_findError_1 : decode cX6_findError 1 = .ok (.iconst 0, 1) := by decide +kernel
theorem dX6_findError_2 : decode cX6_findError 2 = .ok (.putfield 166, 3) := by decide +kernel
theorem dX6_findError_5 : decode cX6_findError 5 = .ok (.aload_n 0, 1) := by decide +kernel
theorem dX6_findError_6 : decode cX6_findError 6 = .ok (.iconst 0, 1) := by decide +kernel
theorem dX6_findError_7 : decode cX6_findError 7 = .ok (.putfield 169, 3) := by decide +kernel
theorem dX6_findError_10 : decode cX6_findError 10 = .ok (.aload_n 0, 1) := by decide +kernel
theorem dX6_findError_11 : decode cX6_findError 11 = .ok (.iconst 0, 1) := by decide +kernel
theorem dX6_findError_12 : decode cX6_findError 12 = .ok (.putfield 138, 3) := by decide +kernel
theorem dX6_findError_15 : decode cX6_findError 15 = .ok (.aload_n 0, 1) := by decide +kernel
theorem dX6_findError_16 : decode cX6_findError 16 = .ok (.invokevirtual 183, 3) := by decide +kernel
theorem dX6_findError_19 : decode cX6_findError 19 = .ok (.aload_n 0, 1) := by decide +kernel
theorem dX6_findError_20 : decode cX6_findError 20 = .ok (.getfield 169, 3) := by decide +kernel
theorem dX6_findError_23 : decode cX6_findError 23 = .ok (.ifCond .ne 65, 3) := by decide +kernel
theorem dX6_findError_26 : decode cX6_findError 26 = .ok (.aload_n 0, 1) := by decide +kernel
theorem dX6_findError_27 : decode cX6_findError 27 = .ok (.getfield 166, 3) := by decide +kernel
theorem dX6_findError_30 : decode cX6_findError 30 = .ok (.aload_n 0, 1) := by decide +kernel
theorem dX6_findError_31 : decode cX6_findError 31 = .ok (.getfield 141, 3) := by decide +kernel
theorem dX6_findError_34 : decode cX6_findError 34 = .ok (.if_icmp .ne 13, 3) := by decide +kernel
theorem dX6_findError_37 : decode cX6_findError 37 = .ok (.aload_n 0, 1) := by decide +kernel
theorem dX6_findError_38 : decode cX6_findError 38 = .ok (.getfield 138, 3) := by decide +kernel
theorem dX6_findError_41 : decode cX6_findError 41 = .ok (.iconst 1, 1) := by decide +kernel
theorem dX6_findError_42 : decode cX6_findError 42 = .ok (.if_icmp .le 5, 3) := by decide +kernel
theorem dX6_findError_45 : decode cX6_findError 45 = .ok (.iconst (-1), 1) := by decide +kernel
theorem dX6_findError_46 : decode cX6_findError 46 = .ok (.ireturn, 1) := by decide +kernel
theorem dX6_findError_47 : decode cX6_findError 47 = .ok (.aload_n 0, 1) := by decide +kernel
theorem dX6_findError_48 : decode cX6_findError 48 = .ok (.aload_n 0, 1) := by decide +kernel
theorem dX6_findError_49 : decode cX6_findError 49 = .ok (.invokevirtual 173, 3) := by decide +kernel
theorem dX6_findError_52 : decode cX6_findError 52 = .ok (.bipush 59, 2) := by decide +kernel
theorem dX6_findError_54 : decode cX6_findError 54 = .ok (.if_icmp .ne 16, 3) := by decide +kernel
theorem dX6_findError_57 : decode cX6_findError 57 = .ok (.aload_n 0, 1) := by decide +kernel
theorem dX6_findError_58 : decode cX6_findError 58 = .ok (.getfield 138, 3) := by decide +kernel
theorem dX6_findError_61 : decode cX6_findError 61 = .ok (.bipush 24, 2) := by decide +kernel
theorem dX6_findError_63 : decode cX6_findError 63 = .ok (.if_icmp .ge 7, 3) := by decide +kernel
theorem dX6_findError_66 : decode cX6_findError 66 = .ok (.iconst 1, 1) := by decide +kernel
theorem dX6_findError_67 : decode cX6_findError 67 = .ok (.goto 4, 3) := by decide +kernel
theorem dX6_findError_70 : decode cX6_findError 70 = .ok (.iconst 0, 1) := by decide +kernel
theorem dX6_findError_71 : decode cX6_findError 71 = .ok (.invokevirtual 176, 3) := by decide +kernel
theorem dX6_findError_74 : decode cX6_findError 74 = .ok (.aload_n 0, 1) := by decide +kernel
theorem dX6_findError_75 : decode cX6_findError 75 = .ok (.getfield 169, 3) := by decide +kernel
theorem dX6_findError_78 : decode cX6_findError 78 = .ok (.ifCond .ne (-59), 3) := by decide +kernel
theorem dX6_findError_81 : decode cX6_findError 81 = .ok (.aload_n 0, 1) := by decide +kernel
theorem dX6_findError_82 : decode cX6_findError 82 = .ok (.invokevirtual 183, 3) := by decide +kernel
theorem dX6_findError_85 : decode cX6_findError 85 = .ok (.goto (-66), 3) := by decide +kernel
theorem dX6_findError_88 : decode cX6_findError 88 = .ok (.aload_n 0, 1) := by decide +kernel
theorem dX6_findError_89 : decode cX6_findError 89 = .ok (.getfield 166, 3) := by decide +kernel
theorem dX6_findError_92 : decode cX6_findError 92 = .ok (.ireturn, 1) := by decide +kernel
set_option maxRecDepth 20000 in
theorem ggX6_firstError_X6_findError : GoodIn wsX6_firstError wsX6_findError := goodIn_r _ [7, 8, 9, 10, 2, 11, 12, 13, 6, 14, 15, 16, 17, 18, 19, 20, 21, 22, 23, 24, 25, 26, 27, 28, 29, 30, 31, 32, 33, 34, 35, 36, 37, 38, 39, 40, 41, 42, 43, 44, 45, 46, 47] (by decide +kernel) (by decide +kernel)
set_option maxRecDepth 20000 in
theorem gX6_firstError_X6_findError : GoodIn wsX6_firstError (wsV RX6 134 RX6 yX6_findError wsX6_findError) := goodIn_app (goodIn_of _ (by decide +kernel)) ggX6_firstError_X6_findError
theorem dX6_firstError_0 : decode cX6_firstError 0 = .ok (.aload_n 0, 1) := by decide +kernel
theorem dX6_firstError_1 : decode cX6_firstError 1 = .ok (.iconst 0, 1) := by decide +kernel
theorem dX6_firstError_2 : decode cX6_firstError 2 = .ok (.putfield 35, 3) := by decide +kernel
theorem dX6_firstError_5 : decode cX6_firstError 5 = .ok (.aload_n 0, 1) := by decide +kernel
theorem dX6_firstError_6 : decode cX6_firstError 6 = .ok (.invokevirtual 134, 3) := by decide +kernel
theorem dX6_firstError_9 : decode cX6_firstError 9 = .ok (.istore_n 1, 1) := by decide +kernel
theorem dX6_firstError_10 : decode cX6_firstError 10 = .ok (.iload_n 1, 1) := by decide +kernel
theorem dX6_firstError_11 : decode cX6_firstError 11 = .ok (.ifCond .ge 10, 3) := by decide +kernel
theorem dX6_firstError_14 : decode cX6_firstError 14 = .ok (.aload_n 0, 1) := by decide +kernel
theorem dX6_firstError_15 : decode cX6_firstError 15 = .ok (.getfield 141, 3) := by decide +kernel
theorem dX6_firstError_18 : decode cX6_firstError 18 = .ok (.goto 4, 3) := by decide +kernel
theorem dX6_firstError_21 : decode cX6_firstError 21 = .ok (.iload_n 1, 1) := by decide +kernel
theorem dX6_firstError_22 : decode cX6_firstError 22 = .ok (.ireturn, 1) := by decide +kernel
set_option maxRecDepth 20000 in
theorem ggX6_stray_X6_keptOf : GoodIn wsX6_stray wsX6_keptOf := goodIn_r _ [5, 6, 39, 40, 41, 42, 43, 44, 45, 46, 47, 48, 49, 50, 51, 52, 53, 54] (by decide +kernel) (by decide +kernel)
set_option maxRecDepth 20000 in
theorem gX6_stray_X6_keptOf : GoodIn wsX6_stray (wsV RX6 160 RX6 yX6_keptOf wsX6_keptOf) := goodIn_app (goodIn_of _ (by decide +kernel)) ggX6_stray_X6_keptOf
set_option maxRecDepth 20000 in
theorem ggX6_stray_X6_has : GoodIn wsX6_stray wsX6_has := goodIn_r _ [9] (by decide +kernel) (by decide +kernel)
set_option maxRecDepth 20000 in
theorem gX6_stray_X6_has : GoodIn wsX6_stray (va_wsS RX6 54 yX6_has wsX6_has) := goodIn_app (goodIn_of _ (by decide +kernel)) ggX6_stray_X6_has
set_option maxRecDepth 20000 in
theorem ggX6_stray_X6_ahead : GoodIn wsX6_stray wsX6_ahead := goodIn_r _ [12, 7, 8, 4, 9] (by decide +kernel) (by decide +kernel)
set_option maxRecDepth 20000 in
theorem gX6_stray_X6_ahead : GoodIn wsX6_stray (va_wsS RX6 186 yX6_ahead wsX6_ahead) := goodIn_app (goodIn_of _ (by decide +kernel)) ggX6_stray_X6_ahead
set_option maxRecDepth 20000 in
theorem ggX6_stray_X6_behind : GoodIn wsX6_stray wsX6_behind := goodIn_r _ [15, 7, 8, 4, 9] (by decide +kernel) (by decide +kernel)
set_option maxRecDepth 20000 in
theorem gX6_stray_X6_behind : GoodIn wsX6_stray (va_wsS RX6 101 yX6_behind wsX6_behind) := goodIn_app (goodIn_of _ (by decide +kernel)) ggX6_stray_X6_behind
set_option maxRecDepth 20000 in
theorem ggX6_stray_X6_hundredths : GoodIn wsX6_stray wsX6_hundredths := goodIn_r _ [19, 20, 21, 22, 23, 24, 25, 4, 26, 27, 28, 29, 30, 6, 31, 32, 33, 34, 35, 36, 37, 38, 39, 40, 41, 42, 43, 44, 45, 46, 47, 48, 49, 50, 51, 52, 53, 54] (by decide +kernel) (by decide +kernel)
set_option maxRecDepth 20000 in
theorem gX6_stray_X6_hundredths : GoodIn wsX6_stray (wsV RX6 189 RX6 yX6_hundredths wsX6_hundredths) := goodIn_app (goodIn_of _ (by decide +kernel)) ggX6_stray_X6_hundredths
theorem dX6_stray_0 : decode cX6_stray 0 = .ok (.aload_n 0, 1) := by decide +kernel
theorem dX6_stray_1 : decode cX6_stray 1 = .ok (.iload_n 1, 1) := by decide +kernel
theorem dX6_stray_2 : decode cX6_stray 2 = .ok (.invokevirtual 160, 3) := by decide +kernel
theorem dX6_stray_5 : decode cX6_stray 5 = .ok (.istore_n 3, 1) := by decide +kernel
theorem dX6_stray_6 : decode cX6_stray 6 = .ok (.iload_n 3, 1) := by decide +kernel
theorem dX6_stray_7 : decode cX6_stray 7 = .ok (.iload_n 2, 1) := by decide +kernel
theorem dX6_stray_8 : decode cX6_stray 8 = .ok (.invokestatic 54, 3) := by decide +kernel
theorem dX6_stray_11 : decode cX6_stray 11 = .ok (.ifCond .eq 7, 3) := by decide +kernel
theorem dX6_stray_14 : decode cX6_stray 14 = .ok (.iconst 0, 1) := by decide +kernel
theorem dX6_stray_15 : decode cX6_stray 15 = .ok (.goto 19, 3) := by decide +kernel
theorem dX6_stray_18 : decode cX6_stray 18 = .ok (.aload_n 0, 1) := by decide +kernel
theorem dX6_stray_19 : decode cX6_stray 19 = .ok (.iload_n 1, 1) := by decide +kernel
theorem dX6_stray_20 : decode cX6_stray 20 = .ok (.iload_n 2, 1) := by decide +kernel
theorem dX6_stray_21 : decode cX6_stray 21 = .ok (.iload_n 3, 1) := by decide +kernel
theorem dX6_stray_22 : decode cX6_stray 22 = .ok (.iload_n 2, 1) := by decide +kernel
theorem dX6_stray_23 : decode cX6_stray 23 = .ok (.invokestatic 186, 3) := by decide +kernel
theorem dX6_stray_26 : decode cX6_stray 26 = .ok (.iload_n 3, 1) := by decide +kernel
theorem dX6_stray_27 : decode cX6_stray 27 = .ok (.iload_n 2, 1) := by decide +kernel
theorem dX6_stray_28 : decode cX6_stray 28 = .ok (.invokestatic 101, 3) := by decide +kernel
theorem dX6_stray_31 : decode cX6_stray 31 = .ok (.invokevirtual 189, 3) := by decide +kernel
theorem dX6_stray_34 : decode cX6_stray 34 = .ok (.ireturn, 1) := by decide +kernel
set_option maxRecDepth 20000 in
theorem ggX6_point_X6_isPoint : GoodIn wsX6_point wsX6_isPoint := goodIn_r _ [6, 7, 8, 9, 5, 10, 11, 12, 13, 14, 15, 16, 17, 18, 67, 68, 69, 70, 71, 72, 73, 74, 75, 76, 77, 78, 79, 80, 81, 82] (by decide +kernel) (by decide +kernel)
set_option maxRecDepth 20000 in
theorem gX6_point_X6_isPoint : GoodIn wsX6_point (wsV RX6 147 RX6 yX6_isPoint wsX6_isPoint) := goodIn_app (goodIn_of _ (by decide +kernel)) ggX6_point_X6_isPoint
set_option maxRecDepth 20000 in
theorem ggX6_point_X6_in : GoodIn wsX6_point wsX6_in := goodIn_r _ [14] (by decide +kernel) (by decide +kernel)
set_option maxRecDepth 20000 in
theorem gX6_point_X6_in : GoodIn wsX6_point (va_wsS RX6 39 yX6_in wsX6_in) := goodIn_app (goodIn_of _ (by decide +kernel)) ggX6_point_X6_in
set_option maxRecDepth 20000 in
theorem ggX6_point_X6_of : GoodIn wsX6_point wsX6_of := goodIn_r _ [22, 11, 67, 68, 69, 70, 71, 72, 73, 74, 75, 76, 77, 78, 79, 80, 81, 82] (by decide +kernel) (by decide +kernel)
set_option maxRecDepth 20000 in
theorem gX6_point_X6_of : GoodIn wsX6_point (wsV RX6 65 RX6 yX6_of wsX6_of) := goodIn_app (goodIn_of _ (by decide +kernel)) ggX6_point_X6_of
set_option maxRecDepth 20000 in
theorem ggX6_point_X6_keptOf : GoodIn wsX6_point wsX6_keptOf := goodIn_r _ [26, 11, 67, 68, 69, 70, 71, 72, 73, 74, 75, 76, 77, 78, 79, 80, 81, 82] (by decide +kernel) (by decide +kernel)
set_option maxRecDepth 20000 in
theorem gX6_point_X6_keptOf : GoodIn wsX6_point (wsV RX6 160 RX6 yX6_keptOf wsX6_keptOf) := goodIn_app (goodIn_of _ (by decide +kernel)) ggX6_point_X6_keptOf
set_option maxRecDepth 20000 in
theorem ggX6_point_X6_fixedBy : GoodIn wsX6_point wsX6_fixedBy := goodIn_r _ [30, 11, 15, 16, 17, 5, 18, 19, 20, 21, 22, 31, 32, 33, 34, 35, 67, 68, 69, 70, 71, 72, 73, 74, 75, 76, 77, 78, 79, 80, 81, 82] (by decide +kernel) (by decide +kernel)
set_option maxRecDepth 20000 in
theorem gX6_point_X6_fixedBy : GoodIn wsX6_point (wsV RX6 94 RX6 yX6_fixedBy wsX6_fixedBy) := goodIn_app (goodIn_of _ (by decide +kernel)) ggX6_point_X6_fixedBy
set_option maxRecDepth 20000 in
theorem ggX6_point_X6_stray : GoodIn wsX6_point wsX6_stray := goodIn_r _ [39, 23, 24, 25, 5, 26, 11, 40, 41, 42, 43, 44, 45, 46, 47, 48, 49, 50, 51, 52, 35, 53, 54, 55, 56, 57, 58, 19, 20, 21, 22, 59, 60, 61, 62, 63, 64, 65, 66, 67, 68, 69, 70, 71, 72, 73, 74, 75, 76, 77, 78, 79, 80, 81, 82] (by decide +kernel) (by decide +kernel)
set_option maxRecDepth 20000 in
theorem gX6_point_X6_stray : GoodIn wsX6_point (wsV RX6 192 RX6 yX6_stray wsX6_stray) := goodIn_app (goodIn_of _ (by decide +kernel)) ggX6_point_X6_stray
theorem dX6_point_0 : decode cX6_point 0 = .ok (.aload_n 0, 1) := by decide +kernel
theorem dX6_point_1 : decode cX6_point 1 = .ok (.aload_n 0, 1) := by decide +kernel
theorem dX6_point_2 : decode cX6_point 2 = .ok (.iload_n 1, 1) := by decide +kernel
theorem dX6_point_3 : decode cX6_point 3 = .ok (.iload_n 2, 1) := by decide +kernel
theorem dX6_point_4 : decode cX6_point 4 = .ok (.invokevirtual 147, 3) := by decide +kernel
theorem dX6_point_7 : decode cX6_point 7 = .ok (.ifCond .ne 7, 3) := by decide +kernel
theorem dX6_point_10 : decode cX6_point 10 = .ok (.iconst 1, 1) := by decide +kernel
theorem dX6_point_11 : decode cX6_point 11 = .ok (.goto 17, 3) := by decide +kernel
theorem dX6_point_14 : decode cX6_point 14 = .ok (.iload_n 3, 1) := by decide +kernel
theorem dX6_point_15 : decode cX6_point 15 = .ok (.iconst 0, 1) := by decide +kernel
theorem dX6_point_16 : decode cX6_point 16 = .ok (.iconst 5, 1) := by decide +kernel
theorem dX6_point_17 : decode cX6_point 17 = .ok (.invokestatic 39, 3) := by decide +kernel
theorem dX6_point_20 : decode cX6_point 20 = .ok (.ifCond .eq 7, 3) := by decide +kernel
theorem dX6_point_23 : decode cX6_point 23 = .ok (.iconst 0, 1) := by decide +kernel
theorem dX6_point_24 : decode cX6_point 24 = .ok (.goto 4, 3) := by decide +kernel
theorem dX6_point_27 : decode cX6_point 27 = .ok (.iconst 2, 1) := by decide +kernel
theorem dX6_point_28 : decode cX6_point 28 = .ok (.putfield 35, 3) := by decide +kernel
theorem dX6_point_31 : decode cX6_point 31 = .ok (.aload_n 0, 1) := by decide +kernel
theorem dX6_point_32 : decode cX6_point 32 = .ok (.getfield 35, 3) := by decide +kernel
theorem dX6_point_35 : decode cX6_point 35 = .ok (.ifCond .le 5, 3) := by decide +kernel
theorem dX6_point_38 : decode cX6_point 38 = .ok (.iconst 0, 1) := by decide +kernel
theorem dX6_point_39 : decode cX6_point 39 = .ok (.ireturn, 1) := by decide +kernel
theorem dX6_point_40 : decode cX6_point 40 = .ok (.iload_n 3, 1) := by decide +kernel
theorem dX6_point_41 : decode cX6_point 41 = .ok (.iconst 3, 1) := by decide +kernel
theorem dX6_point_42 : decode cX6_point 42 = .ok (.if_icmp .ge 11, 3) := by decide +kernel
theorem dX6_point_45 : decode cX6_point 45 = .ok (.aload_n 0, 1) := by decide +kernel
theorem dX6_point_46 : decode cX6_point 46 = .ok (.iload_n 1, 1) := by decide +kernel
theorem dX6_point_47 : decode cX6_point 47 = .ok (.iload_n 2, 1) := by decide +kernel
theorem dX6_point_48 : decode cX6_point 48 = .ok (.iload_n 3, 1) := by decide +kernel
theorem dX6_point_49 : decode cX6_point 49 = .ok (.invokevirtual 65, 3) := by decide +kernel
theorem dX6_point_52 : decode cX6_point 52 = .ok (.ireturn, 1) := by decide +kernel
theorem dX6_point_53 : decode cX6_point 53 = .ok (.iload_n 3, 1) := by decide +kernel
theorem dX6_point_54 : decode cX6_point 54 = .ok (.iconst 3, 1) := by decide +kernel
theorem dX6_point_55 : decode cX6_point 55 = .ok (.if_icmp .ne 15, 3) := by decide +kernel
theorem dX6_point_58 : decode cX6_point 58 = .ok (.aload_n 0, 1) := by decide +kernel
theorem dX6_point_59 : decode cX6_point 59 = .ok (.iload_n 1, 1) := by decide +kernel
theorem dX6_point_60 : decode cX6_point 60 = .ok (.invokevirtual 160, 3) := by decide +kernel
theorem dX6_point_63 : decode cX6_point 63 = .ok (.iload_n 2, 1) := by decide +kernel
theorem dX6_point_64 : decode cX6_point 64 = .ok (.ishr, 1) := by decide +kernel
theorem dX6_point_65 : decode cX6_point 65 = .ok (.iconst 1, 1) := by decide +kernel
theorem dX6_point_66 : decode cX6_point 66 = .ok (.iand, 1) := by decide +kernel
theorem dX6_point_67 : decode cX6_point 67 = .ok (.goto 23, 3) := by decide +kernel
theorem dX6_point_70 : decode cX6_point 70 = .ok (.iload_n 3, 1) := by decide +kernel
theorem dX6_point_71 : decode cX6_point 71 = .ok (.iconst 4, 1) := by decide +kernel
theorem dX6_point_72 : decode cX6_point 72 = .ok (.if_icmp .ne 12, 3) := by decide +kernel
theorem dX6_point_75 : decode cX6_point 75 = .ok (.aload_n 0, 1) := by decide +kernel
theorem dX6_point_76 : decode cX6_point 76 = .ok (.iload_n 1, 1) := by decide +kernel
theorem dX6_point_77 : decode cX6_point 77 = .ok (.iload_n 2, 1) := by decide +kernel
theorem dX6_point_78 : decode cX6_point 78 = .ok (.invokevirtual 94, 3) := by decide +kernel
theorem dX6_point_81 : decode cX6_point 81 = .ok (.goto 9, 3) := by decide +kernel
theorem dX6_point_84 : decode cX6_point 84 = .ok (.aload_n 0, 1) := by decide +kernel
theorem dX6_point_85 : decode cX6_point 85 = .ok (.iload_n 1, 1) := by decide +kernel
theorem dX6_point_86 : decode cX6_point 86 = .ok (.iload_n 2, 1) := by decide +kernel
theorem dX6_point_87 : decode cX6_point 87 = .ok (.invokevirtual 192, 3) := by decide +kernel
theorem dX6_point_90 : decode cX6_point 90 = .ok (.ireturn, 1) := by decide +kernel
set_option maxRecDepth 20000 in
theorem ggX6_fixedMany_X6_points : GoodIn wsX6_fixedMany wsX6_points := goodIn_r _ [5, 6, 20, 21, 22, 23, 24, 25, 26, 27, 28, 29, 30, 31, 32, 33, 34, 35] (by decide +kernel) (by decide +kernel)
set_option maxRecDepth 20000 in
theorem gX6_fixedMany_X6_points : GoodIn wsX6_fixedMany (wsV RX6 47 RX6 yX6_points wsX6_points) := goodIn_app (goodIn_of _ (by decide +kernel)) ggX6_fixedMany_X6_points
set_option maxRecDepth 20000 in
theorem ggX6_fixedMany_X6_fixedBy : GoodIn wsX6_fixedMany wsX6_fixedBy := goodIn_r _ [10, 6, 1, 2, 3, 4, 5, 11, 12, 13, 14, 15, 16, 17, 18, 19, 20, 21, 22, 23, 24, 25, 26, 27, 28, 29, 30, 31, 32, 33, 34, 35] (by decide +kernel) (by decide +kernel)
set_option maxRecDepth 20000 in
theorem gX6_fixedMany_X6_fixedBy : GoodIn wsX6_fixedMany (wsV RX6 94 RX6 yX6_fixedBy wsX6_fixedBy) := goodIn_app (goodIn_of _ (by decide +kernel)) ggX6_fixedMany_X6_fixedBy
theorem dX6_fixedMany_0 : decode cX6_fixedMany 0 = .ok (.iconst 0, 1) := by decide +kernel
theorem dX6_fixedMany_1 : decode cX6_fixedMany 1 = .ok (.istore_n 3, 1) := by decide +kernel
theorem dX6_fixedMany_2 : decode cX6_fixedMany 2 = .ok (.iconst 0, 1) := by decide +kernel
theorem dX6_fixedMany_3 : decode cX6_fixedMany 3 = .ok (.istore 4, 2) := by decide +kernel
theorem dX6_fixedMany_5 : decode cX6_fixedMany 5 = .ok (.iload 4, 2) := by decide +kernel
theorem dX6_fixedMany_7 : decode cX6_fixedMany 7 = .ok (.aload_n 0, 1) := by decide +kernel
theorem dX6_fixedMany_8 : decode cX6_fixedMany 8 = .ok (.iload_n 1, 1) := by decide +kernel
theorem dX6_fixedMany_9 : decode cX6_fixedMany 9 = .ok (.invokevirtual 47, 3) := by decide +kernel
theorem dX6_fixedMany_12 : decode cX6_fixedMany 12 = .ok (.if_icmp .ge 29, 3) := by decide +kernel
theorem dX6_fixedMany_15 : decode cX6_fixedMany 15 = .ok (.iload_n 3, 1) := by decide +kernel
theorem dX6_fixedMany_16 : decode cX6_fixedMany 16 = .ok (.aload_n 0, 1) := by decide +kernel
theorem dX6_fixedMany_17 : decode cX6_fixedMany 17 = .ok (.iload_n 1, 1) := by decide +kernel
theorem dX6_fixedMany_18 : decode cX6_fixedMany 18 = .ok (.iload 4, 2) := by decide +kernel
theorem dX6_fixedMany_20 : decode cX6_fixedMany 20 = .ok (.invokevirtual 94, 3) := by decide +kernel
theorem dX6_fixedMany_23 : decode cX6_fixedMany 23 = .ok (.iload_n 2, 1) := by decide +kernel
theorem dX6_fixedMany_24 : decode cX6_fixedMany 24 = .ok (.iand, 1) := by decide +kernel
theorem dX6_fixedMany_25 : decode cX6_fixedMany 25 = .ok (.ifCond .eq 7, 3) := by decide +kernel
theorem dX6_fixedMany_28 : decode cX6_fixedMany 28 = .ok (.iconst 1, 1) := by decide +kernel
theorem dX6_fixedMany_29 : decode cX6_fixedMany 29 = .ok (.goto 4, 3) := by decide +kernel
theorem dX6_fixedMany_32 : decode cX6_fixedMany 32 = .ok (.iconst 0, 1) := by decide +kernel
theorem dX6_fixedMany_33 : decode cX6_fixedMany 33 = .ok (.iadd, 1) := by decide +kernel
theorem dX6_fixedMany_34 : decode cX6_fixedMany 34 = .ok (.istore_n 3, 1) := by decide +kernel
theorem dX6_fixedMany_35 : decode cX6_fixedMany 35 = .ok (.iinc 4 1, 3) := by decide +kernel
theorem dX6_fixedMany_38 : decode cX6_fixedMany 38 = .ok (.goto (-33), 3) := by decide +kernel
theorem dX6_fixedMany_41 : decode cX6_fixedMany 41 = .ok (.iload_n 3, 1) := by decide +kernel
theorem dX6_fixedMany_42 : decode cX6_fixedMany 42 = .ok (.ireturn, 1) := by decide +kernel
set_option maxRecDepth 20000 in
theorem ggX6_lengthOf_X6_keptOf : GoodIn wsX6_lengthOf wsX6_keptOf := goodIn_r _ [6, 7, 30, 31, 32, 33, 34, 35, 36, 37, 38, 39, 40, 41, 42, 43, 44, 45] (by decide +kernel) (by decide +kernel)
set_option maxRecDepth 20000 in
theorem gX6_lengthOf_X6_keptOf : GoodIn wsX6_lengthOf (wsV RX6 160 RX6 yX6_keptOf wsX6_keptOf) := goodIn_app (goodIn_of _ (by decide +kernel)) ggX6_lengthOf_X6_keptOf
set_option maxRecDepth 20000 in
theorem ggX6_lengthOf_X6_points : GoodIn wsX6_lengthOf wsX6_points := goodIn_r _ [11, 7, 30, 31, 32, 33, 34, 35, 36, 37, 38, 39, 40, 41, 42, 43, 44, 45] (by decide +kernel) (by decide +kernel)
set_option maxRecDepth 20000 in
theorem gX6_lengthOf_X6_points : GoodIn wsX6_lengthOf (wsV RX6 47 RX6 yX6_points wsX6_points) := goodIn_app (goodIn_of _ (by decide +kernel)) ggX6_lengthOf_X6_points
set_option maxRecDepth 20000 in
theorem ggX6_lengthOf_X6_behind : GoodIn wsX6_lengthOf wsX6_behind := goodIn_r _ [14, 15, 16, 5, 17] (by decide +kernel) (by decide +kernel)
set_option maxRecDepth 20000 in
theorem gX6_lengthOf_X6_behind : GoodIn wsX6_lengthOf (va_wsS RX6 101 yX6_behind wsX6_behind) := goodIn_app (goodIn_of _ (by decide +kernel)) ggX6_lengthOf_X6_behind
set_option maxRecDepth 20000 in
theorem ggX6_lengthOf_X6_square : GoodIn wsX6_lengthOf wsX6_square := goodIn_r _ [21, 22, 23, 24, 5, 25, 7, 30, 31, 32, 33, 34, 35, 36, 37, 38, 39, 40, 41, 42, 43, 44, 45] (by decide +kernel) (by decide +kernel)
set_option maxRecDepth 20000 in
theorem gX6_lengthOf_X6_square : GoodIn wsX6_lengthOf (wsV RX6 76 RX6 yX6_square wsX6_square) := goodIn_app (goodIn_of _ (by decide +kernel)) ggX6_lengthOf_X6_square
set_option maxRecDepth 20000 in
theorem ggX6_lengthOf_X6_root : GoodIn wsX6_lengthOf wsX6_root := goodIn_r _ [28, 29] (by decide +kernel) (by decide +kernel)
set_option maxRecDepth 20000 in
theorem gX6_lengthOf_X6_root : GoodIn wsX6_lengthOf (va_wsS RX6 86 yX6_root wsX6_root) := goodIn_app (goodIn_of _ (by decide +kernel)) ggX6_lengthOf_X6_root
theorem dX6_lengthOf_0 : decode cX6_lengthOf 0 = .ok (.aload_n 0, 1) := by decide +kernel
theorem dX6_lengthOf_1 : decode cX6_lengthOf 1 = .ok (.iload_n 1, 1) := by decide +kernel
theorem dX6_lengthOf_2 : decode cX6_lengthOf 2 = .ok (.invokevirtual 160, 3) := by decide +kernel
theorem dX6_lengthOf_5 : decode cX6_lengthOf 5 = .ok (.istore_n 2, 1) := by decide +kernel
theorem dX6_lengthOf_6 : decode cX6_lengthOf 6 = .ok (.iconst 0, 1) := by decide +kernel
theorem dX6_lengthOf_7 : decode cX6_lengthOf 7 = .ok (.istore_n 3, 1) := by decide +kernel
theorem dX6_lengthOf_8 : decode cX6_lengthOf 8 = .ok (.iconst 0, 1) := by decide +kernel
theorem dX6_lengthOf_9 : decode cX6_lengthOf 9 = .ok (.istore 4, 2) := by decide +kernel
theorem dX6_lengthOf_11 : decode cX6_lengthOf 11 = .ok (.iload 4, 2) := by decide +kernel
theorem dX6_lengthOf_13 : decode cX6_lengthOf 13 = .ok (.aload_n 0, 1) := by decide +kernel
theorem dX6_lengthOf_14 : decode cX6_lengthOf 14 = .ok (.iload_n 1, 1) := by decide +kernel
theorem dX6_lengthOf_15 : decode cX6_lengthOf 15 = .ok (.invokevirtual 47, 3) := by decide +kernel
theorem dX6_lengthOf_18 : decode cX6_lengthOf 18 = .ok (.iconst 1, 1) := by decide +kernel
theorem dX6_lengthOf_19 : decode cX6_lengthOf 19 = .ok (.isub, 1) := by decide +kernel
theorem dX6_lengthOf_20 : decode cX6_lengthOf 20 = .ok (.if_icmp .ge 37, 3) := by decide +kernel
theorem dX6_lengthOf_23 : decode cX6_lengthOf 23 = .ok (.iload_n 2, 1) := by decide +kernel
theorem dX6_lengthOf_24 : decode cX6_lengthOf 24 = .ok (.iload 4, 2) := by decide +kernel
theorem dX6_lengthOf_26 : decode cX6_lengthOf 26 = .ok (.invokestatic 101, 3) := by decide +kernel
theorem dX6_lengthOf_29 : decode cX6_lengthOf 29 = .ok (.istore 5, 2) := by decide +kernel
theorem dX6_lengthOf_31 : decode cX6_lengthOf 31 = .ok (.iload_n 3, 1) := by decide +kernel
theorem dX6_lengthOf_32 : decode cX6_lengthOf 32 = .ok (.ldc2_w 84, 3) := by decide +kernel
theorem dX6_lengthOf_35 : decode cX6_lengthOf 35 = .ok (.aload_n 0, 1) := by decide +kernel
theorem dX6_lengthOf_36 : decode cX6_lengthOf 36 = .ok (.iload_n 1, 1) := by decide +kernel
theorem dX6_lengthOf_37 : decode cX6_lengthOf 37 = .ok (.iload 4, 2) := by decide +kernel
theorem dX6_lengthOf_39 : decode cX6_lengthOf 39 = .ok (.iload 5, 2) := by decide +kernel
theorem dX6_lengthOf_41 : decode cX6_lengthOf 41 = .ok (.invokevirtual 76, 3) := by decide +kernel
theorem dX6_lengthOf_44 : decode cX6_lengthOf 44 = .ok (.lmul, 1) := by decide +kernel
theorem dX6_lengthOf_45 : decode cX6_lengthOf 45 = .ok (.invokestatic 86, 3) := by decide +kernel
theorem dX6_lengthOf_48 : decode cX6_lengthOf 48 = .ok (.iadd, 1) := by decide +kernel
theorem dX6_lengthOf_49 : decode cX6_lengthOf 49 = .ok (.istore_n 3, 1) := by decide +kernel
theorem dX6_lengthOf_50 : decode cX6_lengthOf 50 = .ok (.iload 5, 2) := by decide +kernel
theorem dX6_lengthOf_52 : decode cX6_lengthOf 52 = .ok (.istore 4, 2) := by decide +kernel
theorem dX6_lengthOf_54 : decode cX6_lengthOf 54 = .ok (.goto (-43), 3) := by decide +kernel
theorem dX6_lengthOf_57 : decode cX6_lengthOf 57 = .ok (.iload_n 3, 1) := by decide +kernel
theorem dX6_lengthOf_58 : decode cX6_lengthOf 58 = .ok (.ireturn, 1) := by decide +kernel
set_option maxRecDepth 20000 in
theorem ggX6_greatestStray_X6_points : GoodIn wsX6_greatestStray wsX6_points := goodIn_r _ [5, 6, 47, 48, 49, 50, 51, 52, 53, 54, 55, 56, 57, 58, 59, 60, 61, 62] (by decide +kernel) (by decide +kernel)
set_option maxRecDepth 20000 in
theorem gX6_greatestStray_X6_points : GoodIn wsX6_greatestStray (wsV RX6 47 RX6 yX6_points wsX6_points) := goodIn_app (goodIn_of _ (by decide +kernel)) ggX6_greatestStray_X6_points
set_option maxRecDepth 20000 in
theorem ggX6_greatestStray_X6_stray : GoodIn wsX6_greatestStray wsX6_stray := goodIn_r _ [10, 11, 12, 13, 4, 14, 6, 15, 16, 17, 18, 19, 20, 21, 22, 23, 24, 25, 26, 27, 28, 29, 30, 31, 32, 33, 34, 35, 36, 37, 38, 39, 40, 41, 42, 43, 44, 45, 46, 47, 48, 49, 50, 51, 52, 53, 54, 55, 56, 57, 58, 59, 60, 61, 62] (by decide +kernel) (by decide +kernel)
set_option maxRecDepth 20000 in
theorem gX6_greatestStray_X6_stray : GoodIn wsX6_greatestStray (wsV RX6 192 RX6 yX6_stray wsX6_stray) := goodIn_app (goodIn_of _ (by decide +kernel)) ggX6_greatestStray_X6_stray
theorem dX6_greatestStray_0 : decode cX6_greatestStray 0 = .ok (.iconst 0, 1) := by decide +kernel
theorem dX6_greatestStray_1 : decode cX6_greatestStray 1 = .ok (.istore_n 2, 1) := by decide +kernel
theorem dX6_greatestStray_2 : decode cX6_greatestStray 2 = .ok (.iconst 0, 1) := by decide +kernel
theorem dX6_greatestStray_3 : decode cX6_greatestStray 3 = .ok (.istore_n 3, 1) := by decide +kernel
theorem dX6_greatestStray_4 : decode cX6_greatestStray 4 = .ok (.iload_n 3, 1) := by decide +kernel
theorem dX6_greatestStray_5 : decode cX6_greatestStray 5 = .ok (.aload_n 0, 1) := by decide +kernel
theorem dX6_greatestStray_6 : decode cX6_greatestStray 6 = .ok (.iload_n 1, 1) := by decide +kernel
theorem dX6_greatestStray_7 : decode cX6_greatestStray 7 = .ok (.invokevirtual 47, 3) := by decide +kernel
theorem dX6_greatestStray_10 : decode cX6_greatestStray 10 = .ok (.if_icmp .ge 30, 3) := by decide +kernel
theorem dX6_greatestStray_13 : decode cX6_greatestStray 13 = .ok (.aload_n 0, 1) := by decide +kernel
theorem dX6_greatestStray_14 : decode cX6_greatestStray 14 = .ok (.iload_n 1, 1) := by decide +kernel
theorem dX6_greatestStray_15 : decode cX6_greatestStray 15 = .ok (.iload_n 3, 1) := by decide +kernel
theorem dX6_greatestStray_16 : decode cX6_greatestStray 16 = .ok (.invokevirtual 192, 3) := by decide +kernel
theorem dX6_greatestStray_19 : decode cX6_greatestStray 19 = .ok (.istore 4, 2) := by decide +kernel
theorem dX6_greatestStray_21 : decode cX6_greatestStray 21 = .ok (.iload 4, 2) := by decide +kernel
theorem dX6_greatestStray_23 : decode cX6_greatestStray 23 = .ok (.iload_n 2, 1) := by decide +kernel
theorem dX6_greatestStray_24 : decode cX6_greatestStray 24 = .ok (.if_icmp .le 8, 3) := by decide +kernel
theorem dX6_greatestStray_27 : decode cX6_greatestStray 27 = .ok (.iload 4, 2) := by decide +kernel
theorem dX6_greatestStray_29 : decode cX6_greatestStray 29 = .ok (.goto 4, 3) := by decide +kernel
theorem dX6_greatestStray_32 : decode cX6_greatestStray 32 = .ok (.iload_n 2, 1) := by decide +kernel
theorem dX6_greatestStray_33 : decode cX6_greatestStray 33 = .ok (.istore_n 2, 1) := by decide +kernel
theorem dX6_greatestStray_34 : decode cX6_greatestStray 34 = .ok (.iinc 3 1, 3) := by decide +kernel
theorem dX6_greatestStray_37 : decode cX6_greatestStray 37 = .ok (.goto (-33), 3) := by decide +kernel
theorem dX6_greatestStray_40 : decode cX6_greatestStray 40 = .ok (.iload_n 2, 1) := by decide +kernel
theorem dX6_greatestStray_41 : decode cX6_greatestStray 41 = .ok (.ireturn, 1) := by decide +kernel
set_option maxRecDepth 20000 in
theorem ggX6_firstStray_X6_greatestStray : GoodIn wsX6_firstStray wsX6_greatestStray := goodIn_r _ [5, 6, 7, 8, 4, 9, 10, 11, 12, 13, 14, 15, 16, 17, 18, 19, 20, 21, 22, 23, 24, 25, 26, 27, 28, 29, 30, 31, 32, 33, 34, 35, 36, 37, 38, 39, 40, 41, 42, 43, 44, 45, 46, 47, 48, 49, 50, 51, 52, 53, 54, 55, 56, 57, 58, 59, 60, 61, 62, 63, 64, 65, 66] (by decide +kernel) (by decide +kernel)
set_option maxRecDepth 20000 in
theorem gX6_firstStray_X6_greatestStray : GoodIn wsX6_firstStray (wsV RX6 195 RX6 yX6_greatestStray wsX6_greatestStray) := goodIn_app (goodIn_of _ (by decide +kernel)) ggX6_firstStray_X6_greatestStray
set_option maxRecDepth 20000 in
theorem ggX6_firstStray_X6_points : GoodIn wsX6_firstStray wsX6_points := goodIn_r _ [9, 10, 51, 52, 53, 54, 55, 56, 57, 58, 59, 60, 61, 62, 63, 64, 65, 66] (by decide +kernel) (by decide +kernel)
set_option maxRecDepth 20000 in
theorem gX6_firstStray_X6_points : GoodIn wsX6_firstStray (wsV RX6 47 RX6 yX6_points wsX6_points) := goodIn_app (goodIn_of _ (by decide +kernel)) ggX6_firstStray_X6_points
set_option maxRecDepth 20000 in
theorem ggX6_firstStray_X6_stray : GoodIn wsX6_firstStray wsX6_stray := goodIn_r _ [14, 15, 16, 17, 4, 18, 10, 19, 20, 21, 22, 23, 24, 25, 26, 27, 28, 29, 30, 31, 32, 33, 34, 35, 36, 37, 38, 39, 40, 41, 42, 43, 44, 45, 46, 47, 48, 49, 50, 51, 52, 53, 54, 55, 56, 57, 58, 59, 60, 61, 62, 63, 64, 65, 66] (by decide +kernel) (by decide +kernel)
set_option maxRecDepth 20000 in
theorem gX6_firstStray_X6_stray : GoodIn wsX6_firstStray (wsV RX6 192 RX6 yX6_stray wsX6_stray) := goodIn_app (goodIn_of _ (by decide +kernel)) ggX6_firstStray_X6_stray
theorem dX6_firstStray_0 : decode cX6_firstStray 0 = .ok (.aload_n 0, 1) := by decide +kernel
theorem dX6_firstStray_1 : decode cX6_firstStray 1 = .ok (.iload_n 1, 1) := by decide +kernel
theorem dX6_firstStray_2 : decode cX6_firstStray 2 = .ok (.invokevirtual 195, 3) := by decide +kernel
theorem dX6_firstStray_5 : decode cX6_firstStray 5 = .ok (.istore_n 2, 1) := by decide +kernel
theorem dX6_firstStray_6 : decode cX6_firstStray 6 = .ok (.iconst (-1), 1) := by decide +kernel
theorem dX6_firstStray_7 : decode cX6_firstStray 7 = .ok (.istore_n 3, 1) := by decide +kernel
theorem dX6_firstStray_8 : decode cX6_firstStray 8 = .ok (.aload_n 0, 1) := by decide +kernel
theorem dX6_firstStray_9 : decode cX6_firstStray 9 = .ok (.iload_n 1, 1) := by decide +kernel
theorem dX6_firstStray_10 : decode cX6_firstStray 10 = .ok (.invokevirtual 47, 3) := by decide +kernel
theorem dX6_firstStray_13 : decode cX6_firstStray 13 = .ok (.iconst 1, 1) := by decide +kernel
theorem dX6_firstStray_14 : decode cX6_firstStray 14 = .ok (.isub, 1) := by decide +kernel
theorem dX6_firstStray_15 : decode cX6_firstStray 15 = .ok (.istore 4, 2) := by decide +kernel
theorem dX6_firstStray_17 : decode cX6_firstStray 17 = .ok (.iload 4, 2) := by decide +kernel
theorem dX6_firstStray_19 : decode cX6_firstStray 19 = .ok (.ifCond .lt 27, 3) := by decide +kernel
theorem dX6_firstStray_22 : decode cX6_firstStray 22 = .ok (.aload_n 0, 1) := by decide +kernel
theorem dX6_firstStray_23 : decode cX6_firstStray 23 = .ok (.iload_n 1, 1) := by decide +kernel
theorem dX6_firstStray_24 : decode cX6_firstStray 24 = .ok (.iload 4, 2) := by decide +kernel
theorem dX6_firstStray_26 : decode cX6_firstStray 26 = .ok (.invokevirtual 192, 3) := by decide +kernel
theorem dX6_firstStray_29 : decode cX6_firstStray 29 = .ok (.iload_n 2, 1) := by decide +kernel
theorem dX6_firstStray_30 : decode cX6_firstStray 30 = .ok (.if_icmp .ne 8, 3) := by decide +kernel
theorem dX6_firstStray_33 : decode cX6_firstStray 33 = .ok (.iload 4, 2) := by decide +kernel
theorem dX6_firstStray_35 : decode cX6_firstStray 35 = .ok (.goto 4, 3) := by decide +kernel
theorem dX6_firstStray_38 : decode cX6_firstStray 38 = .ok (.iload_n 3, 1) := by decide +kernel
theorem dX6_firstStray_39 : decode cX6_firstStray 39 = .ok (.istore_n 3, 1) := by decide +kernel
theorem dX6_firstStray_40 : decode cX6_firstStray 40 = .ok (.iinc 4 (-1), 3) := by decide +kernel
theorem dX6_firstStray_43 : decode cX6_firstStray 43 = .ok (.goto (-26), 3) := by decide +kernel
theorem dX6_firstStray_46 : decode cX6_firstStray 46 = .ok (.iload_n 3, 1) := by decide +kernel
theorem dX6_firstStray_47 : decode cX6_firstStray 47 = .ok (.ireturn, 1) := by decide +kernel
set_option maxRecDepth 20000 in
theorem ggX6_spread_X6_points : GoodIn wsX6_spread wsX6_points := goodIn_r _ [5, 6, 11, 12, 13, 14, 15, 16, 17, 18, 19, 20, 21, 22, 23, 24, 25, 26] (by decide +kernel) (by decide +kernel)
set_option maxRecDepth 20000 in
theorem gX6_spread_X6_points : GoodIn wsX6_spread (wsV RX6 47 RX6 yX6_points wsX6_points) := goodIn_app (goodIn_of _ (by decide +kernel)) ggX6_spread_X6_points
set_option maxRecDepth 20000 in
theorem ggX6_spread_X6_of : GoodIn wsX6_spread wsX6_of := goodIn_r _ [10, 6, 11, 12, 13, 14, 15, 16, 17, 18, 19, 20, 21, 22, 23, 24, 25, 26] (by decide +kernel) (by decide +kernel)
set_option maxRecDepth 20000 in
theorem gX6_spread_X6_of : GoodIn wsX6_spread (wsV RX6 65 RX6 yX6_of wsX6_of) := goodIn_app (goodIn_of _ (by decide +kernel)) ggX6_spread_X6_of
theorem dX6_spread_0 : decode cX6_spread 0 = .ok (.bipush 99, 2) := by decide +kernel
theorem dX6_spread_2 : decode cX6_spread 2 = .ok (.istore_n 3, 1) := by decide +kernel
theorem dX6_spread_3 : decode cX6_spread 3 = .ok (.iconst 0, 1) := by decide +kernel
theorem dX6_spread_4 : decode cX6_spread 4 = .ok (.istore 4, 2) := by decide +kernel
theorem dX6_spread_6 : decode cX6_spread 6 = .ok (.iconst 0, 1) := by decide +kernel
theorem dX6_spread_7 : decode cX6_spread 7 = .ok (.istore 5, 2) := by decide +kernel
theorem dX6_spread_9 : decode cX6_spread 9 = .ok (.iload 5, 2) := by decide +kernel
theorem dX6_spread_11 : decode cX6_spread 11 = .ok (.aload_n 0, 1) := by decide +kernel
theorem dX6_spread_12 : decode cX6_spread 12 = .ok (.iload_n 1, 1) := by decide +kernel
theorem dX6_spread_13 : decode cX6_spread 13 = .ok (.invokevirtual 47, 3) := by decide +kernel
theorem dX6_spread_16 : decode cX6_spread 16 = .ok (.if_icmp .ge 48, 3) := by decide +kernel
theorem dX6_spread_19 : decode cX6_spread 19 = .ok (.aload_n 0, 1) := by decide +kernel
theorem dX6_spread_20 : decode cX6_spread 20 = .ok (.iload_n 1, 1) := by decide +kernel
theorem dX6_spread_21 : decode cX6_spread 21 = .ok (.iload 5, 2) := by decide +kernel
theorem dX6_spread_23 : decode cX6_spread 23 = .ok (.iload_n 2, 1) := by decide +kernel
theorem dX6_spread_24 : decode cX6_spread 24 = .ok (.invokevirtual 65, 3) := by decide +kernel
theorem dX6_spread_27 : decode cX6_spread 27 = .ok (.istore 6, 2) := by decide +kernel
theorem dX6_spread_29 : decode cX6_spread 29 = .ok (.iload 6, 2) := by decide +kernel
theorem dX6_spread_31 : decode cX6_spread 31 = .ok (.iload_n 3, 1) := by decide +kernel
theorem dX6_spread_32 : decode cX6_spread 32 = .ok (.if_icmp .ge 8, 3) := by decide +kernel
theorem dX6_spread_35 : decode cX6_spread 35 = .ok (.iload 6, 2) := by decide +kernel
theorem dX6_spread_37 : decode cX6_spread 37 = .ok (.goto 4, 3) := by decide +kernel
theorem dX6_spread_40 : decode cX6_spread 40 = .ok (.iload_n 3, 1) := by decide +kernel
theorem dX6_spread_41 : decode cX6_spread 41 = .ok (.istore_n 3, 1) := by decide +kernel
theorem dX6_spread_42 : decode cX6_spread 42 = .ok (.iload 6, 2) := by decide +kernel
theorem dX6_spread_44 : decode cX6_spread 44 = .ok (.iload 4, 2) := by decide +kernel
theorem dX6_spread_46 : decode cX6_spread 46 = .ok (.if_icmp .le 8, 3) := by decide +kernel
theorem dX6_spread_49 : decode cX6_spread 49 = .ok (.iload 6, 2) := by decide +kernel
theorem dX6_spread_51 : decode cX6_spread 51 = .ok (.goto 5, 3) := by decide +kernel
theorem dX6_spread_54 : decode cX6_spread 54 = .ok (.iload 4, 2) := by decide +kernel
theorem dX6_spread_56 : decode cX6_spread 56 = .ok (.istore 4, 2) := by decide +kernel
theorem dX6_spread_58 : decode cX6_spread 58 = .ok (.iinc 5 1, 3) := by decide +kernel
theorem dX6_spread_61 : decode cX6_spread 61 = .ok (.goto (-52), 3) := by decide +kernel
theorem dX6_spread_64 : decode cX6_spread 64 = .ok (.iload 4, 2) := by decide +kernel
theorem dX6_spread_66 : decode cX6_spread 66 = .ok (.iload_n 3, 1) := by decide +kernel
theorem dX6_spread_67 : decode cX6_spread 67 = .ok (.isub, 1) := by decide +kernel
theorem dX6_spread_68 : decode cX6_spread 68 = .ok (.ireturn, 1) := by decide +kernel
set_option maxRecDepth 20000 in
theorem ggX6_joins_X6_keptOf : GoodIn wsX6_joins wsX6_keptOf := goodIn_r _ [6, 1, 29, 30, 31, 32, 33, 34, 35, 36, 37, 38, 39, 40, 41, 42, 43, 44] (by decide +kernel) (by decide +kernel)
set_option maxRecDepth 20000 in
theorem gX6_joins_X6_keptOf : GoodIn wsX6_joins (wsV RX6 160 RX6 yX6_keptOf wsX6_keptOf) := goodIn_app (goodIn_of _ (by decide +kernel)) ggX6_joins_X6_keptOf
set_option maxRecDepth 20000 in
theorem ggX6_joins_X6_points : GoodIn wsX6_joins wsX6_points := goodIn_r _ [10, 1, 29, 30, 31, 32, 33, 34, 35, 36, 37, 38, 39, 40, 41, 42, 43, 44] (by decide +kernel) (by decide +kernel)
set_option maxRecDepth 20000 in
theorem gX6_joins_X6_points : GoodIn wsX6_joins (wsV RX6 47 RX6 yX6_points wsX6_points) := goodIn_app (goodIn_of _ (by decide +kernel)) ggX6_joins_X6_points
set_option maxRecDepth 20000 in
theorem ggX6_joins_X6_has : GoodIn wsX6_joins wsX6_has := goodIn_r _ [13] (by decide +kernel) (by decide +kernel)
set_option maxRecDepth 20000 in
theorem gX6_joins_X6_has : GoodIn wsX6_joins (va_wsS RX6 54 yX6_has wsX6_has) := goodIn_app (goodIn_of _ (by decide +kernel)) ggX6_joins_X6_has
set_option maxRecDepth 20000 in
theorem ggX6_joins_X6_ahead : GoodIn wsX6_joins wsX6_ahead := goodIn_r _ [16, 11, 12, 5, 13] (by decide +kernel) (by decide +kernel)
set_option maxRecDepth 20000 in
theorem gX6_joins_X6_ahead : GoodIn wsX6_joins (va_wsS RX6 186 yX6_ahead wsX6_ahead) := goodIn_app (goodIn_of _ (by decide +kernel)) ggX6_joins_X6_ahead
set_option maxRecDepth 20000 in
theorem ggX6_joins_X6_behind : GoodIn wsX6_joins wsX6_behind := goodIn_r _ [19, 11, 12, 5, 13] (by decide +kernel) (by decide +kernel)
set_option maxRecDepth 20000 in
theorem gX6_joins_X6_behind : GoodIn wsX6_joins (va_wsS RX6 101 yX6_behind wsX6_behind) := goodIn_app (goodIn_of _ (by decide +kernel)) ggX6_joins_X6_behind
set_option maxRecDepth 20000 in
theorem ggX6_joins_X6_isSharp : GoodIn wsX6_joins wsX6_isSharp := goodIn_r _ [23, 24, 25, 26, 27, 5, 28, 1, 29, 30, 31, 32, 33, 34, 35, 36, 37, 38, 39, 40, 41, 42, 43, 44] (by decide +kernel) (by decide +kernel)
set_option maxRecDepth 20000 in
theorem gX6_joins_X6_isSharp : GoodIn wsX6_joins (wsV RX6 90 RX6 yX6_isSharp wsX6_isSharp) := goodIn_app (goodIn_of _ (by decide +kernel)) ggX6_joins_X6_isSharp
theorem dX6_joins_0 : decode cX6_joins 0 = .ok (.aload_n 0, 1) := by decide +kernel
theorem dX6_joins_1 : decode cX6_joins 1 = .ok (.iload_n 1, 1) := by decide +kernel
theorem dX6_joins_2 : decode cX6_joins 2 = .ok (.invokevirtual 160, 3) := by decide +kernel
theorem dX6_joins_5 : decode cX6_joins 5 = .ok (.istore_n 2, 1) := by decide +kernel
theorem dX6_joins_6 : decode cX6_joins 6 = .ok (.iconst 0, 1) := by decide +kernel
theorem dX6_joins_7 : decode cX6_joins 7 = .ok (.istore_n 3, 1) := by decide +kernel
theorem dX6_joins_8 : decode cX6_joins 8 = .ok (.iconst 1, 1) := by decide +kernel
theorem dX6_joins_9 : decode cX6_joins 9 = .ok (.istore 4, 2) := by decide +kernel
theorem dX6_joins_11 : decode cX6_joins 11 = .ok (.iload 4, 2) := by decide +kernel
theorem dX6_joins_13 : decode cX6_joins 13 = .ok (.aload_n 0, 1) := by decide +kernel
theorem dX6_joins_14 : decode cX6_joins 14 = .ok (.iload_n 1, 1) := by decide +kernel
theorem dX6_joins_15 : decode cX6_joins 15 = .ok (.invokevirtual 47, 3) := by decide +kernel
theorem dX6_joins_18 : decode cX6_joins 18 = .ok (.iconst 1, 1) := by decide +kernel
theorem dX6_joins_19 : decode cX6_joins 19 = .ok (.isub, 1) := by decide +kernel
theorem dX6_joins_20 : decode cX6_joins 20 = .ok (.if_icmp .ge 56, 3) := by decide +kernel
theorem dX6_joins_23 : decode cX6_joins 23 = .ok (.iload_n 3, 1) := by decide +kernel
theorem dX6_joins_24 : decode cX6_joins 24 = .ok (.iload_n 2, 1) := by decide +kernel
theorem dX6_joins_25 : decode cX6_joins 25 = .ok (.iload 4, 2) := by decide +kernel
theorem dX6_joins_27 : decode cX6_joins 27 = .ok (.invokestatic 54, 3) := by decide +kernel
theorem dX6_joins_30 : decode cX6_joins 30 = .ok (.ifCond .eq 37, 3) := by decide +kernel
theorem dX6_joins_33 : decode cX6_joins 33 = .ok (.aload_n 0, 1) := by decide +kernel
theorem dX6_joins_34 : decode cX6_joins 34 = .ok (.iload_n 1, 1) := by decide +kernel
theorem dX6_joins_35 : decode cX6_joins 35 = .ok (.iload_n 2, 1) := by decide +kernel
theorem dX6_joins_36 : decode cX6_joins 36 = .ok (.iload 4, 2) := by decide +kernel
theorem dX6_joins_38 : decode cX6_joins 38 = .ok (.invokestatic 186, 3) := by decide +kernel
theorem dX6_joins_41 : decode cX6_joins 41 = .ok (.iload 4, 2) := by decide +kernel
theorem dX6_joins_43 : decode cX6_joins 43 = .ok (.iload_n 2, 1) := by decide +kernel
theorem dX6_joins_44 : decode cX6_joins 44 = .ok (.iload 4, 2) := by decide +kernel
theorem dX6_joins_46 : decode cX6_joins 46 = .ok (.invokestatic 101, 3) := by decide +kernel
theorem dX6_joins_49 : decode cX6_joins 49 = .ok (.aload_n 0, 1) := by decide +kernel
theorem dX6_joins_50 : decode cX6_joins 50 = .ok (.getfield 7, 3) := by decide +kernel
theorem dX6_joins_53 : decode cX6_joins 53 = .ok (.sipush 300, 3) := by decide +kernel
theorem dX6_joins_56 : decode cX6_joins 56 = .ok (.iaload, 1) := by decide +kernel
theorem dX6_joins_57 : decode cX6_joins 57 = .ok (.invokevirtual 90, 3) := by decide +kernel
theorem dX6_joins_60 : decode cX6_joins 60 = .ok (.ifCond .eq 7, 3) := by decide +kernel
theorem dX6_joins_63 : decode cX6_joins 63 = .ok (.iconst 1, 1) := by decide +kernel
theorem dX6_joins_64 : decode cX6_joins 64 = .ok (.goto 4, 3) := by decide +kernel
theorem dX6_joins_67 : decode cX6_joins 67 = .ok (.iconst 0, 1) := by decide +kernel
theorem dX6_joins_68 : decode cX6_joins 68 = .ok (.iadd, 1) := by decide +kernel
theorem dX6_joins_69 : decode cX6_joins 69 = .ok (.istore_n 3, 1) := by decide +kernel
theorem dX6_joins_70 : decode cX6_joins 70 = .ok (.iinc 4 1, 3) := by decide +kernel
theorem dX6_joins_73 : decode cX6_joins 73 = .ok (.goto (-62), 3) := by decide +kernel
theorem dX6_joins_76 : decode cX6_joins 76 = .ok (.iload_n 3, 1) := by decide +kernel
theorem dX6_joins_77 : decode cX6_joins 77 = .ok (.ireturn, 1) := by decide +kernel
set_option maxRecDepth 20000 in
theorem ggX6_strokeOf_X6_isStroke : GoodIn wsX6_strokeOf wsX6_isStroke := goodIn_r _ [6, 7, 8, 9, 5, 10, 90, 91, 92, 93, 94, 95, 96, 97, 98, 99, 100, 101, 102, 103, 104, 105] (by decide +kernel) (by decide +kernel)
set_option maxRecDepth 20000 in
theorem gX6_strokeOf_X6_isStroke : GoodIn wsX6_strokeOf (wsV RX6 43 RX6 yX6_isStroke wsX6_isStroke) := goodIn_app (goodIn_of _ (by decide +kernel)) ggX6_strokeOf_X6_isStroke
set_option maxRecDepth 20000 in
theorem ggX6_strokeOf_X6_in : GoodIn wsX6_strokeOf wsX6_in := goodIn_r _ [10] (by decide +kernel) (by decide +kernel)
set_option maxRecDepth 20000 in
theorem gX6_strokeOf_X6_in : GoodIn wsX6_strokeOf (va_wsS RX6 39 yX6_in wsX6_in) := goodIn_app (goodIn_of _ (by decide +kernel)) ggX6_strokeOf_X6_in
set_option maxRecDepth 20000 in
theorem ggX6_strokeOf_X6_points : GoodIn wsX6_strokeOf wsX6_points := goodIn_r _ [14, 7, 90, 91, 92, 93, 94, 95, 96, 97, 98, 99, 100, 101, 102, 103, 104, 105] (by decide +kernel) (by decide +kernel)
set_option maxRecDepth 20000 in
theorem gX6_strokeOf_X6_points : GoodIn wsX6_strokeOf (wsV RX6 47 RX6 yX6_points wsX6_points) := goodIn_app (goodIn_of _ (by decide +kernel)) ggX6_strokeOf_X6_points
set_option maxRecDepth 20000 in
theorem ggX6_strokeOf_X6_keptOf : GoodIn wsX6_strokeOf wsX6_keptOf := goodIn_r _ [18, 7, 90, 91, 92, 93, 94, 95, 96, 97, 98, 99, 100, 101, 102, 103, 104, 105] (by decide +kernel) (by decide +kernel)
set_option maxRecDepth 20000 in
theorem gX6_strokeOf_X6_keptOf : GoodIn wsX6_strokeOf (wsV RX6 160 RX6 yX6_keptOf wsX6_keptOf) := goodIn_app (goodIn_of _ (by decide +kernel)) ggX6_strokeOf_X6_keptOf
set_option maxRecDepth 20000 in
theorem ggX6_strokeOf_X6_ones : GoodIn wsX6_strokeOf wsX6_ones := goodIn_r _ [21] (by decide +kernel) (by decide +kernel)
set_option maxRecDepth 20000 in
theorem gX6_strokeOf_X6_ones : GoodIn wsX6_strokeOf (va_wsS RX6 157 yX6_ones wsX6_ones) := goodIn_app (goodIn_of _ (by decide +kernel)) ggX6_strokeOf_X6_ones
set_option maxRecDepth 20000 in
theorem ggX6_strokeOf_X6_fixedMany : GoodIn wsX6_strokeOf wsX6_fixedMany := goodIn_r _ [25, 11, 12, 13, 5, 14, 7, 26, 27, 28, 29, 30, 31, 32, 33, 34, 35, 36, 37, 38, 90, 91, 92, 93, 94, 95, 96, 97, 98, 99, 100, 101, 102, 103, 104, 105] (by decide +kernel) (by decide +kernel)
set_option maxRecDepth 20000 in
theorem gX6_strokeOf_X6_fixedMany : GoodIn wsX6_strokeOf (wsV RX6 198 RX6 yX6_fixedMany wsX6_fixedMany) := goodIn_app (goodIn_of _ (by decide +kernel)) ggX6_strokeOf_X6_fixedMany
set_option maxRecDepth 20000 in
theorem ggX6_strokeOf_X6_lengthOf : GoodIn wsX6_strokeOf wsX6_lengthOf := goodIn_r _ [42, 38, 15, 16, 17, 5, 18, 7, 11, 12, 13, 14, 43, 44, 45, 46, 47, 48, 49, 50, 51, 52, 30, 31, 32, 33, 53, 54, 55, 56, 90, 91, 92, 93, 94, 95, 96, 97, 98, 99, 100, 101, 102, 103, 104, 105] (by decide +kernel) (by decide +kernel)
set_option maxRecDepth 20000 in
theorem gX6_strokeOf_X6_lengthOf : GoodIn wsX6_strokeOf (wsV RX6 201 RX6 yX6_lengthOf wsX6_lengthOf) := goodIn_app (goodIn_of _ (by decide +kernel)) ggX6_strokeOf_X6_lengthOf
set_option maxRecDepth 20000 in
theorem ggX6_strokeOf_X6_greatestStray : GoodIn wsX6_strokeOf wsX6_greatestStray := goodIn_r _ [60, 11, 12, 13, 5, 14, 7, 61, 62, 63, 64, 15, 16, 17, 18, 46, 47, 48, 65, 66, 67, 43, 44, 45, 68, 69, 70, 71, 38, 72, 73, 74, 75, 76, 77, 30, 31, 32, 33, 49, 50, 51, 52, 53, 54, 55, 56, 90, 91, 92, 93, 94, 95, 96, 97, 98, 99, 100, 101, 102, 103, 104, 105] (by decide +kernel) (by decide +kernel)
set_option maxRecDepth 20000 in
theorem gX6_strokeOf_X6_greatestStray : GoodIn wsX6_strokeOf (wsV RX6 195 RX6 yX6_greatestStray wsX6_greatestStray) := goodIn_app (goodIn_of _ (by decide +kernel)) ggX6_strokeOf_X6_greatestStray
set_option maxRecDepth 20000 in
theorem ggX6_strokeOf_X6_firstStray : GoodIn wsX6_strokeOf wsX6_firstStray := goodIn_r _ [81, 57, 58, 59, 5, 60, 11, 12, 13, 14, 7, 61, 62, 63, 64, 15, 16, 17, 18, 46, 47, 48, 65, 66, 67, 43, 44, 45, 68, 69, 70, 71, 38, 72, 73, 74, 75, 76, 77, 30, 31, 32, 33, 49, 50, 51, 52, 53, 54, 55, 56, 90, 91, 92, 93, 94, 95, 96, 97, 98, 99, 100, 101, 102, 103, 104, 105] (by decide +kernel) (by decide +kernel)
set_option maxRecDepth 20000 in
theorem gX6_strokeOf_X6_firstStray : GoodIn wsX6_strokeOf (wsV RX6 204 RX6 yX6_firstStray wsX6_firstStray) := goodIn_app (goodIn_of _ (by decide +kernel)) ggX6_strokeOf_X6_firstStray
set_option maxRecDepth 20000 in
theorem ggX6_strokeOf_X6_spread : GoodIn wsX6_strokeOf wsX6_spread := goodIn_r _ [85, 11, 12, 13, 5, 14, 7, 30, 31, 32, 33, 90, 91, 92, 93, 94, 95, 96, 97, 98, 99, 100, 101, 102, 103, 104, 105] (by decide +kernel) (by decide +kernel)
set_option maxRecDepth 20000 in
theorem gX6_strokeOf_X6_spread : GoodIn wsX6_strokeOf (wsV RX6 207 RX6 yX6_spread wsX6_spread) := goodIn_app (goodIn_of _ (by decide +kernel)) ggX6_strokeOf_X6_spread
set_option maxRecDepth 20000 in
theorem ggX6_strokeOf_X6_joins : GoodIn wsX6_strokeOf wsX6_joins := goodIn_r _ [89, 7, 15, 16, 17, 5, 18, 11, 12, 13, 14, 46, 47, 48, 65, 66, 67, 43, 44, 45, 34, 35, 36, 37, 38, 30, 31, 32, 33, 90, 91, 92, 93, 94, 95, 96, 97, 98, 99, 100, 101, 102, 103, 104, 105] (by decide +kernel) (by decide +kernel)
set_option maxRecDepth 20000 in
theorem gX6_strokeOf_X6_joins : GoodIn wsX6_strokeOf (wsV RX6 210 RX6 yX6_joins wsX6_joins) := goodIn_app (goodIn_of _ (by decide +kernel)) ggX6_strokeOf_X6_joins
theorem dX6_strokeOf_0 : decode cX6_strokeOf 0 = .ok (.aload_n 0, 1) := by decide +kernel
theorem dX6_strokeOf_1 : decode cX6_strokeOf 1 = .ok (.aload_n 0, 1) := by decide +kernel
theorem dX6_strokeOf_2 : decode cX6_strokeOf 2 = .ok (.iload_n 1, 1) := by decide +kernel
theorem dX6_strokeOf_3 : decode cX6_strokeOf 3 = .ok (.invokevirtual 43, 3) := by decide +kernel
theorem dX6_strokeOf_6 : decode cX6_strokeOf 6 = .ok (.ifCond .ne 7, 3) := by decide +kernel
theorem dX6_strokeOf_9 : decode cX6_strokeOf 9 = .ok (.iconst 1, 1) := by decide +kernel
theorem dX6_strokeOf_10 : decode cX6_strokeOf 10 = .ok (.goto 18, 3) := by decide +kernel
theorem dX6_strokeOf_13 : decode cX6_strokeOf 13 = .ok (.iload_n 2, 1) := by decide +kernel
theorem dX6_strokeOf_14 : decode cX6_strokeOf 14 = .ok (.iconst 0, 1) := by decide +kernel
theorem dX6_strokeOf_15 : decode cX6_strokeOf 15 = .ok (.bipush 10, 2) := by decide +kernel
theorem dX6_strokeOf_17 : decode cX6_strokeOf 17 = .ok (.invokestatic 39, 3) := by decide +kernel
theorem dX6_strokeOf_20 : decode cX6_strokeOf 20 = .ok (.ifCond .eq 7, 3) := by decide +kernel
theorem dX6_strokeOf_23 : decode cX6_strokeOf 23 = .ok (.iconst 0, 1) := by decide +kernel
theorem dX6_strokeOf_24 : decode cX6_strokeOf 24 = .ok (.goto 4, 3) := by decide +kernel
theorem dX6_strokeOf_27 : decode cX6_strokeOf 27 = .ok (.iconst 2, 1) := by decide +kernel
theorem dX6_strokeOf_28 : decode cX6_strokeOf 28 = .ok (.putfield 35, 3) := by decide +kernel
theorem dX6_strokeOf_31 : decode cX6_strokeOf 31 = .ok (.aload_n 0, 1) := by decide +kernel
theorem dX6_strokeOf_32 : decode cX6_strokeOf 32 = .ok (.getfield 35, 3) := by decide +kernel
theorem dX6_strokeOf_35 : decode cX6_strokeOf 35 = .ok (.ifCond .le 5, 3) := by decide +kernel
theorem dX6_strokeOf_38 : decode cX6_strokeOf 38 = .ok (.iconst 0, 1) := by decide +kernel
theorem dX6_strokeOf_39 : decode cX6_strokeOf 39 = .ok (.ireturn, 1) := by decide +kernel
theorem dX6_strokeOf_40 : decode cX6_strokeOf 40 = .ok (.iload_n 2, 1) := by decide +kernel
theorem dX6_strokeOf_41 : decode cX6_strokeOf 41 = .ok (.tableswitch 122 0 9 #[55, 61, 70, 77, 84, 90, 96, 102, 109, 116], 55) := by decide +kernel
theorem dX6_strokeOf_96 : decode cX6_strokeOf 96 = .ok (.aload_n 0, 1) := by decide +kernel
theorem dX6_strokeOf_97 : decode cX6_strokeOf 97 = .ok (.iload_n 1, 1) := by decide +kernel
theorem dX6_strokeOf_98 : decode cX6_strokeOf 98 = .ok (.invokevirtual 47, 3) := by decide +kernel
theorem dX6_strokeOf_101 : decode cX6_strokeOf 101 = .ok (.ireturn, 1) := by decide +kernel
theorem dX6_strokeOf_102 : decode cX6_strokeOf 102 = .ok (.aload_n 0, 1) := by decide +kernel
theorem dX6_strokeOf_103 : decode cX6_strokeOf 103 = .ok (.iload_n 1, 1) := by decide +kernel
theorem dX6_strokeOf_104 : decode cX6_strokeOf 104 = .ok (.invokevirtual 160, 3) := by decide +kernel
theorem dX6_strokeOf_107 : decode cX6_strokeOf 107 = .ok (.invokestatic 157, 3) := by decide +kernel
theorem dX6_strokeOf_110 : decode cX6_strokeOf 110 = .ok (.ireturn, 1) := by decide +kernel
theorem dX6_strokeOf_111 : decode cX6_strokeOf 111 = .ok (.aload_n 0, 1) := by decide +kernel
theorem dX6_strokeOf_112 : decode cX6_strokeOf 112 = .ok (.iload_n 1, 1) := by decide +kernel
theorem dX6_strokeOf_113 : decode cX6_strokeOf 113 = .ok (.iconst 2, 1) := by decide +kernel
theorem dX6_strokeOf_114 : decode cX6_strokeOf 114 = .ok (.invokevirtual 198, 3) := by decide +kernel
theorem dX6_strokeOf_117 : decode cX6_strokeOf 117 = .ok (.ireturn, 1) := by decide +kernel
theorem dX6_strokeOf_118 : decode cX6_strokeOf 118 = .ok (.aload_n 0, 1) := by decide +kernel
theorem dX6_strokeOf_119 : decode cX6_strokeOf 119 = .ok (.iload_n 1, 1) := by decide +kernel
theorem dX6_strokeOf_120 : decode cX6_strokeOf 120 = .ok (.iconst 4, 1) := by decide +kernel
theorem dX6_strokeOf_121 : decode cX6_strokeOf 121 = .ok (.invokevirtual 198, 3) := by decide +kernel
theorem dX6_strokeOf_124 : decode cX6_strokeOf 124 = .ok (.ireturn, 1) := by decide +kernel
theorem dX6_strokeOf_125 : decode cX6_strokeOf 125 = .ok (.aload_n 0, 1) := by decide +kernel
theorem dX6_strokeOf_126 : decode cX6_strokeOf 126 = .ok (.iload_n 1, 1) := by decide +kernel
theorem dX6_strokeOf_127 : decode cX6_strokeOf 127 = .ok (.invokevirtual 201, 3) := by decide +kernel
theorem dX6_strokeOf_130 : decode cX6_strokeOf 130 = .ok (.ireturn, 1) := by decide +kernel
theorem dX6_strokeOf_131 : decode cX6_strokeOf 131 = .ok (.aload_n 0, 1) := by decide +kernel
theorem dX6_strokeOf_132 : decode cX6_strokeOf 132 = .ok (.iload_n 1, 1) := by decide +kernel
theorem dX6_strokeOf_133 : decode cX6_strokeOf 133 = .ok (.invokevirtual 195, 3) := by decide +kernel
theorem dX6_strokeOf_136 : decode cX6_strokeOf 136 = .ok (.ireturn, 1) := by decide +kernel
theorem dX6_strokeOf_137 : decode cX6_strokeOf 137 = .ok (.aload_n 0, 1) := by decide +kernel
theorem dX6_strokeOf_138 : decode cX6_strokeOf 138 = .ok (.iload_n 1, 1) := by decide +kernel
theorem dX6_strokeOf_139 : decode cX6_strokeOf 139 = .ok (.invokevirtual 204, 3) := by decide +kernel
theorem dX6_strokeOf_142 : decode cX6_strokeOf 142 = .ok (.ireturn, 1) := by decide +kernel
theorem dX6_strokeOf_143 : decode cX6_strokeOf 143 = .ok (.aload_n 0, 1) := by decide +kernel
theorem dX6_strokeOf_144 : decode cX6_strokeOf 144 = .ok (.iload_n 1, 1) := by decide +kernel
theorem dX6_strokeOf_145 : decode cX6_strokeOf 145 = .ok (.iconst 0, 1) := by decide +kernel
theorem dX6_strokeOf_146 : decode cX6_strokeOf 146 = .ok (.invokevirtual 207, 3) := by decide +kernel
theorem dX6_strokeOf_149 : decode cX6_strokeOf 149 = .ok (.ireturn, 1) := by decide +kernel
theorem dX6_strokeOf_150 : decode cX6_strokeOf 150 = .ok (.aload_n 0, 1) := by decide +kernel
theorem dX6_strokeOf_151 : decode cX6_strokeOf 151 = .ok (.iload_n 1, 1) := by decide +kernel
theorem dX6_strokeOf_152 : decode cX6_strokeOf 152 = .ok (.iconst 1, 1) := by decide +kernel
theorem dX6_strokeOf_153 : decode cX6_strokeOf 153 = .ok (.invokevirtual 207, 3) := by decide +kernel
theorem dX6_strokeOf_156 : decode cX6_strokeOf 156 = .ok (.ireturn, 1) := by decide +kernel
theorem dX6_strokeOf_157 : decode cX6_strokeOf 157 = .ok (.aload_n 0, 1) := by decide +kernel
theorem dX6_strokeOf_158 : decode cX6_strokeOf 158 = .ok (.iload_n 1, 1) := by decide +kernel
theorem dX6_strokeOf_159 : decode cX6_strokeOf 159 = .ok (.invokevirtual 210, 3) := by decide +kernel
theorem dX6_strokeOf_162 : decode cX6_strokeOf 162 = .ok (.ireturn, 1) := by decide +kernel
theorem dX6_strokeOf_163 : decode cX6_strokeOf 163 = .ok (.aload_n 0, 1) := by decide +kernel
theorem dX6_strokeOf_164 : decode cX6_strokeOf 164 = .ok (.iload_n 1, 1) := by decide +kernel
theorem dX6_strokeOf_165 : decode cX6_strokeOf 165 = .ok (.invokevirtual 160, 3) := by decide +kernel
theorem dX6_strokeOf_168 : decode cX6_strokeOf 168 = .ok (.ireturn, 1) := by decide +kernel
set_option maxRecDepth 20000 in
theorem ggX6_distance_X6_isPoint : GoodIn wsX6_distance wsX6_isPoint := goodIn_r _ [6, 7, 8, 9, 5, 10, 11, 12, 13, 14, 15, 16, 17, 18, 42, 43, 44, 45, 46, 47, 48, 49, 50, 51, 52, 53, 54, 55, 56, 57] (by decide +kernel) (by decide +kernel)
set_option maxRecDepth 20000 in
theorem gX6_distance_X6_isPoint : GoodIn wsX6_distance (wsV RX6 147 RX6 yX6_isPoint wsX6_isPoint) := goodIn_app (goodIn_of _ (by decide +kernel)) ggX6_distance_X6_isPoint
set_option maxRecDepth 20000 in
theorem ggX6_distance_X6_hundredths : GoodIn wsX6_distance wsX6_hundredths := goodIn_r _ [22, 23, 24, 25, 26, 27, 28, 5, 29, 30, 31, 32, 33, 11, 34, 35, 36, 37, 38, 39, 40, 41, 42, 43, 44, 45, 46, 47, 48, 49, 50, 51, 52, 53, 54, 55, 56, 57] (by decide +kernel) (by decide +kernel)
set_option maxRecDepth 20000 in
theorem gX6_distance_X6_hundredths : GoodIn wsX6_distance (wsV RX6 189 RX6 yX6_hundredths wsX6_hundredths) := goodIn_app (goodIn_of _ (by decide +kernel)) ggX6_distance_X6_hundredths
theorem dX6_distance_0 : decode cX6_distance 0 = .ok (.aload_n 0, 1) := by decide +kernel
theorem dX6_distance_1 : decode cX6_distance 1 = .ok (.aload_n 0, 1) := by decide +kernel
theorem dX6_distance_2 : decode cX6_distance 2 = .ok (.iload_n 1, 1) := by decide +kernel
theorem dX6_distance_3 : decode cX6_distance 3 = .ok (.iload_n 2, 1) := by decide +kernel
theorem dX6_distance_4 : decode cX6_distance 4 = .ok (.invokevirtual 147, 3) := by decide +kernel
theorem dX6_distance_7 : decode cX6_distance 7 = .ok (.ifCond .eq 26, 3) := by decide +kernel
theorem dX6_distance_10 : decode cX6_distance 10 = .ok (.aload_n 0, 1) := by decide +kernel
theorem dX6_distance_11 : decode cX6_distance 11 = .ok (.iload_n 1, 1) := by decide +kernel
theorem dX6_distance_12 : decode cX6_distance 12 = .ok (.iload_n 3, 1) := by decide +kernel
theorem dX6_distance_13 : decode cX6_distance 13 = .ok (.invokevirtual 147, 3) := by decide +kernel
theorem dX6_distance_16 : decode cX6_distance 16 = .ok (.ifCond .eq 17, 3) := by decide +kernel
theorem dX6_distance_19 : decode cX6_distance 19 = .ok (.aload_n 0, 1) := by decide +kernel
theorem dX6_distance_20 : decode cX6_distance 20 = .ok (.iload_n 1, 1) := by decide +kernel
theorem dX6_distance_21 : decode cX6_distance 21 = .ok (.iload 4, 2) := by decide +kernel
theorem dX6_distance_23 : decode cX6_distance 23 = .ok (.invokevirtual 147, 3) := by decide +kernel
theorem dX6_distance_26 : decode cX6_distance 26 = .ok (.ifCond .eq 7, 3) := by decide +kernel
theorem dX6_distance_29 : decode cX6_distance 29 = .ok (.iconst 0, 1) := by decide +kernel
theorem dX6_distance_30 : decode cX6_distance 30 = .ok (.goto 4, 3) := by decide +kernel
theorem dX6_distance_33 : decode cX6_distance 33 = .ok (.iconst 1, 1) := by decide +kernel
theorem dX6_distance_34 : decode cX6_distance 34 = .ok (.putfield 35, 3) := by decide +kernel
theorem dX6_distance_37 : decode cX6_distance 37 = .ok (.aload_n 0, 1) := by decide +kernel
theorem dX6_distance_38 : decode cX6_distance 38 = .ok (.getfield 35, 3) := by decide +kernel
theorem dX6_distance_41 : decode cX6_distance 41 = .ok (.ifCond .le 7, 3) := by decide +kernel
theorem dX6_distance_44 : decode cX6_distance 44 = .ok (.iconst 0, 1) := by decide +kernel
theorem dX6_distance_45 : decode cX6_distance 45 = .ok (.goto 12, 3) := by decide +kernel
theorem dX6_distance_48 : decode cX6_distance 48 = .ok (.aload_n 0, 1) := by decide +kernel
theorem dX6_distance_49 : decode cX6_distance 49 = .ok (.iload_n 1, 1) := by decide +kernel
theorem dX6_distance_50 : decode cX6_distance 50 = .ok (.iload_n 2, 1) := by decide +kernel
theorem dX6_distance_51 : decode cX6_distance 51 = .ok (.iload_n 3, 1) := by decide +kernel
theorem dX6_distance_52 : decode cX6_distance 52 = .ok (.iload 4, 2) := by decide +kernel
theorem dX6_distance_54 : decode cX6_distance 54 = .ok (.invokevirtual 189, 3) := by decide +kernel
theorem dX6_distance_57 : decode cX6_distance 57 = .ok (.ireturn, 1) := by decide +kernel
set_option maxRecDepth 20000 in
theorem ggX6_side_X6_of : GoodIn wsX6_side wsX6_of := goodIn_r _ [5, 6, 7, 8, 9, 10, 11, 12, 13, 14, 15, 16, 17, 18, 19, 20, 21, 22] (by decide +kernel) (by decide +kernel)
set_option maxRecDepth 20000 in
theorem gX6_side_X6_of : GoodIn wsX6_side (wsV RX6 65 RX6 yX6_of wsX6_of) := goodIn_app (goodIn_of _ (by decide +kernel)) ggX6_side_X6_of
theorem dX6_side_0 : decode cX6_side 0 = .ok (.aload_n 0, 1) := by decide +kernel
theorem dX6_side_1 : decode cX6_side 1 = .ok (.iload_n 1, 1) := by decide +kernel
theorem dX6_side_2 : decode cX6_side 2 = .ok (.iload_n 3, 1) := by decide +kernel
theorem dX6_side_3 : decode cX6_side 3 = .ok (.iconst 0, 1) := by decide +kernel
theorem dX6_side_4 : decode cX6_side 4 = .ok (.invokevirtual 65, 3) := by decide +kernel
theorem dX6_side_7 : decode cX6_side 7 = .ok (.aload_n 0, 1) := by decide +kernel
theorem dX6_side_8 : decode cX6_side 8 = .ok (.iload_n 1, 1) := by decide +kernel
theorem dX6_side_9 : decode cX6_side 9 = .ok (.iload_n 2, 1) := by decide +kernel
theorem dX6_side_10 : decode cX6_side 10 = .ok (.iconst 0, 1) := by decide +kernel
theorem dX6_side_11 : decode cX6_side 11 = .ok (.invokevirtual 65, 3) := by decide +kernel
theorem dX6_side_14 : decode cX6_side 14 = .ok (.isub, 1) := by decide +kernel
theorem dX6_side_15 : decode cX6_side 15 = .ok (.istore 5, 2) := by decide +kernel
theorem dX6_side_17 : decode cX6_side 17 = .ok (.aload_n 0, 1) := by decide +kernel
theorem dX6_side_18 : decode cX6_side 18 = .ok (.iload_n 1, 1) := by decide +kernel
theorem dX6_side_19 : decode cX6_side 19 = .ok (.iload_n 3, 1) := by decide +kernel
theorem dX6_side_20 : decode cX6_side 20 = .ok (.iconst 1, 1) := by decide +kernel
theorem dX6_side_21 : decode cX6_side 21 = .ok (.invokevirtual 65, 3) := by decide +kernel
theorem dX6_side_24 : decode cX6_side 24 = .ok (.aload_n 0, 1) := by decide +kernel
theorem dX6_side_25 : decode cX6_side 25 = .ok (.iload_n 1, 1) := by decide +kernel
theorem dX6_side_26 : decode cX6_side 26 = .ok (.iload_n 2, 1) := by decide +kernel
theorem dX6_side_27 : decode cX6_side 27 = .ok (.iconst 1, 1) := by decide +kernel
theorem dX6_side_28 : decode cX6_side 28 = .ok (.invokevirtual 65, 3) := by decide +kernel
theorem dX6_side_31 : decode cX6_side 31 = .ok (.isub, 1) := by decide +kernel
theorem dX6_side_32 : decode cX6_side 32 = .ok (.istore 6, 2) := by decide +kernel
theorem dX6_side_34 : decode cX6_side 34 = .ok (.aload_n 0, 1) := by decide +kernel
theorem dX6_side_35 : decode cX6_side 35 = .ok (.iload_n 1, 1) := by decide +kernel
theorem dX6_side_36 : decode cX6_side 36 = .ok (.iload 4, 2) := by decide +kernel
theorem dX6_side_38 : decode cX6_side 38 = .ok (.iconst 0, 1) := by decide +kernel
theorem dX6_side_39 : decode cX6_side 39 = .ok (.invokevirtual 65, 3) := by decide +kernel
theorem dX6_side_42 : decode cX6_side 42 = .ok (.aload_n 0, 1) := by decide +kernel
theorem dX6_side_43 : decode cX6_side 43 = .ok (.iload_n 1, 1) := by decide +kernel
theorem dX6_side_44 : decode cX6_side 44 = .ok (.iload_n 2, 1) := by decide +kernel
theorem dX6_side_45 : decode cX6_side 45 = .ok (.iconst 0, 1) := by decide +kernel
theorem dX6_side_46 : decode cX6_side 46 = .ok (.invokevirtual 65, 3) := by decide +kernel
theorem dX6_side_49 : decode cX6_side 49 = .ok (.isub, 1) := by decide +kernel
theorem dX6_side_50 : decode cX6_side 50 = .ok (.istore 7, 2) := by decide +kernel
theorem dX6_side_52 : decode cX6_side 52 = .ok (.aload_n 0, 1) := by decide +kernel
theorem dX6_side_53 : decode cX6_side 53 = .ok (.iload_n 1, 1) := by decide +kernel
theorem dX6_side_54 : decode cX6_side 54 = .ok (.iload 4, 2) := by decide +kernel
theorem dX6_side_56 : decode cX6_side 56 = .ok (.iconst 1, 1) := by decide +kernel
theorem dX6_side_57 : decode cX6_side 57 = .ok (.invokevirtual 65, 3) := by decide +kernel
theorem dX6_side_60 : decode cX6_side 60 = .ok (.aload_n 0, 1) := by decide +kernel
theorem dX6_side_61 : decode cX6_side 61 = .ok (.iload_n 1, 1) := by decide +kernel
theorem dX6_side_62 : decode cX6_side 62 = .ok (.iload_n 2, 1) := by decide +kernel
theorem dX6_side_63 : decode cX6_side 63 = .ok (.iconst 1, 1) := by decide +kernel
theorem dX6_side_64 : decode cX6_side 64 = .ok (.invokevirtual 65, 3) := by decide +kernel
theorem dX6_side_67 : decode cX6_side 67 = .ok (.isub, 1) := by decide +kernel
theorem dX6_side_68 : decode cX6_side 68 = .ok (.istore 8, 2) := by decide +kernel
theorem dX6_side_70 : decode cX6_side 70 = .ok (.iload 5, 2) := by decide +kernel
theorem dX6_side_72 : decode cX6_side 72 = .ok (.iload 8, 2) := by decide +kernel
theorem dX6_side_74 : decode cX6_side 74 = .ok (.imul, 1) := by decide +kernel
theorem dX6_side_75 : decode cX6_side 75 = .ok (.iload 6, 2) := by decide +kernel
theorem dX6_side_77 : decode cX6_side 77 = .ok (.iload 7, 2) := by decide +kernel
theorem dX6_side_79 : decode cX6_side 79 = .ok (.imul, 1) := by decide +kernel
theorem dX6_side_80 : decode cX6_side 80 = .ok (.isub, 1) := by decide +kernel
theorem dX6_side_81 : decode cX6_side 81 = .ok (.ireturn, 1) := by decide +kernel
theorem dX6_areOpposite_0 : decode cX6_areOpposite 0 = .ok (.iload_n 0, 1) := by decide +kernel
theorem dX6_areOpposite_1 : decode cX6_areOpposite 1 = .ok (.ifCond .ge 7, 3) := by decide +kernel
theorem dX6_areOpposite_4 : decode cX6_areOpposite 4 = .ok (.iload_n 1, 1) := by decide +kernel
theorem dX6_areOpposite_5 : decode cX6_areOpposite 5 = .ok (.ifCond .gt 11, 3) := by decide +kernel
theorem dX6_areOpposite_8 : decode cX6_areOpposite 8 = .ok (.iload_n 0, 1) := by decide +kernel
theorem dX6_areOpposite_9 : decode cX6_areOpposite 9 = .ok (.ifCond .le 11, 3) := by decide +kernel
theorem dX6_areOpposite_12 : decode cX6_areOpposite 12 = .ok (.iload_n 1, 1) := by decide +kernel
theorem dX6_areOpposite_13 : decode cX6_areOpposite 13 = .ok (.ifCond .ge 7, 3) := by decide +kernel
theorem dX6_areOpposite_16 : decode cX6_areOpposite 16 = .ok (.iconst 1, 1) := by decide +kernel
theorem dX6_areOpposite_17 : decode cX6_areOpposite 17 = .ok (.goto 4, 3) := by decide +kernel
theorem dX6_areOpposite_20 : decode cX6_areOpposite 20 = .ok (.iconst 0, 1) := by decide +kernel
theorem dX6_areOpposite_21 : decode cX6_areOpposite 21 = .ok (.ireturn, 1) := by decide +kernel
set_option maxRecDepth 20000 in
theorem ggX6_cross_X6_side : GoodIn wsX6_cross wsX6_side := goodIn_r _ [5, 6, 7, 8, 4, 9, 10, 14, 15, 16, 17, 18, 19, 20, 21, 22, 23, 24, 25, 26, 27, 28, 29] (by decide +kernel) (by decide +kernel)
set_option maxRecDepth 20000 in
theorem gX6_cross_X6_side : GoodIn wsX6_cross (wsV RX6 213 RX6 yX6_side wsX6_side) := goodIn_app (goodIn_of _ (by decide +kernel)) ggX6_cross_X6_side
set_option maxRecDepth 20000 in
theorem ggX6_cross_X6_areOpposite : GoodIn wsX6_cross wsX6_areOpposite := goodIn_r _ [13] (by decide +kernel) (by decide +kernel)
set_option maxRecDepth 20000 in
theorem gX6_cross_X6_areOpposite : GoodIn wsX6_cross (va_wsS RX6 216 yX6_areOpposite wsX6_areOpposite) := goodIn_app (goodIn_of _ (by decide +kernel)) ggX6_cross_X6_areOpposite
theorem dX6_cross_0 : decode cX6_cross 0 = .ok (.aload_n 0, 1) := by decide +kernel
theorem dX6_cross_1 : decode cX6_cross 1 = .ok (.iload_n 1, 1) := by decide +kernel
theorem dX6_cross_2 : decode cX6_cross 2 = .ok (.iload_n 2, 1) := by decide +kernel
theorem dX6_cross_3 : decode cX6_cross 3 = .ok (.iload_n 3, 1) := by decide +kernel
theorem dX6_cross_4 : decode cX6_cross 4 = .ok (.iload 4, 2) := by decide +kernel
theorem dX6_cross_6 : decode cX6_cross 6 = .ok (.invokevirtual 213, 3) := by decide +kernel
theorem dX6_cross_9 : decode cX6_cross 9 = .ok (.aload_n 0, 1) := by decide +kernel
theorem dX6_cross_10 : decode cX6_cross 10 = .ok (.iload_n 1, 1) := by decide +kernel
theorem dX6_cross_11 : decode cX6_cross 11 = .ok (.iload_n 2, 1) := by decide +kernel
theorem dX6_cross_12 : decode cX6_cross 12 = .ok (.iload_n 3, 1) := by decide +kernel
theorem dX6_cross_13 : decode cX6_cross 13 = .ok (.iload 5, 2) := by decide +kernel
theorem dX6_cross_15 : decode cX6_cross 15 = .ok (.invokevirtual 213, 3) := by decide +kernel
theorem dX6_cross_18 : decode cX6_cross 18 = .ok (.invokestatic 216, 3) := by decide +kernel
theorem dX6_cross_21 : decode cX6_cross 21 = .ok (.ifCond .eq 33, 3) := by decide +kernel
theorem dX6_cross_24 : decode cX6_cross 24 = .ok (.aload_n 0, 1) := by decide +kernel
theorem dX6_cross_25 : decode cX6_cross 25 = .ok (.iload_n 1, 1) := by decide +kernel
theorem dX6_cross_26 : decode cX6_cross 26 = .ok (.iload 4, 2) := by decide +kernel
theorem dX6_cross_28 : decode cX6_cross 28 = .ok (.iload 5, 2) := by decide +kernel
theorem dX6_cross_30 : decode cX6_cross 30 = .ok (.iload_n 2, 1) := by decide +kernel
theorem dX6_cross_31 : decode cX6_cross 31 = .ok (.invokevirtual 213, 3) := by decide +kernel
theorem dX6_cross_34 : decode cX6_cross 34 = .ok (.aload_n 0, 1) := by decide +kernel
theorem dX6_cross_35 : decode cX6_cross 35 = .ok (.iload_n 1, 1) := by decide +kernel
theorem dX6_cross_36 : decode cX6_cross 36 = .ok (.iload 4, 2) := by decide +kernel
theorem dX6_cross_38 : decode cX6_cross 38 = .ok (.iload 5, 2) := by decide +kernel
theorem dX6_cross_40 : decode cX6_cross 40 = .ok (.iload_n 3, 1) := by decide +kernel
theorem dX6_cross_41 : decode cX6_cross 41 = .ok (.invokevirtual 213, 3) := by decide +kernel
theorem dX6_cross_44 : decode cX6_cross 44 = .ok (.invokestatic 216, 3) := by decide +kernel
theorem dX6_cross_47 : decode cX6_cross 47 = .ok (.ifCond .eq 7, 3) := by decide +kernel
theorem dX6_cross_50 : decode cX6_cross 50 = .ok (.iconst 1, 1) := by decide +kernel
theorem dX6_cross_51 : decode cX6_cross 51 = .ok (.goto 4, 3) := by decide +kernel
theorem dX6_cross_54 : decode cX6_cross 54 = .ok (.iconst 0, 1) := by decide +kernel
theorem dX6_cross_55 : decode cX6_cross 55 = .ok (.ireturn, 1) := by decide +kernel
set_option maxRecDepth 20000 in
theorem ggX6_crossings_X6_isStroke : GoodIn wsX6_crossings wsX6_isStroke := goodIn_r _ [6, 7, 8, 9, 5, 10, 40, 41, 42, 43, 44, 45, 46, 47, 48, 49, 50, 51, 52, 53, 54, 55] (by decide +kernel) (by decide +kernel)
set_option maxRecDepth 20000 in
theorem gX6_crossings_X6_isStroke : GoodIn wsX6_crossings (wsV RX6 43 RX6 yX6_isStroke wsX6_isStroke) := goodIn_app (goodIn_of _ (by decide +kernel)) ggX6_crossings_X6_isStroke
set_option maxRecDepth 20000 in
theorem ggX6_crossings_X6_keptOf : GoodIn wsX6_crossings wsX6_keptOf := goodIn_r _ [14, 7, 40, 41, 42, 43, 44, 45, 46, 47, 48, 49, 50, 51, 52, 53, 54, 55] (by decide +kernel) (by decide +kernel)
set_option maxRecDepth 20000 in
theorem gX6_crossings_X6_keptOf : GoodIn wsX6_crossings (wsV RX6 160 RX6 yX6_keptOf wsX6_keptOf) := goodIn_app (goodIn_of _ (by decide +kernel)) ggX6_crossings_X6_keptOf
set_option maxRecDepth 20000 in
theorem ggX6_crossings_X6_points : GoodIn wsX6_crossings wsX6_points := goodIn_r _ [18, 7, 40, 41, 42, 43, 44, 45, 46, 47, 48, 49, 50, 51, 52, 53, 54, 55] (by decide +kernel) (by decide +kernel)
set_option maxRecDepth 20000 in
theorem gX6_crossings_X6_points : GoodIn wsX6_crossings (wsV RX6 47 RX6 yX6_points wsX6_points) := goodIn_app (goodIn_of _ (by decide +kernel)) ggX6_crossings_X6_points
set_option maxRecDepth 20000 in
theorem ggX6_crossings_X6_behind : GoodIn wsX6_crossings wsX6_behind := goodIn_r _ [21, 22, 23, 5, 24] (by decide +kernel) (by decide +kernel)
set_option maxRecDepth 20000 in
theorem gX6_crossings_X6_behind : GoodIn wsX6_crossings (va_wsS RX6 101 yX6_behind wsX6_behind) := goodIn_app (goodIn_of _ (by decide +kernel)) ggX6_crossings_X6_behind
set_option maxRecDepth 20000 in
theorem ggX6_crossings_X6_cross : GoodIn wsX6_crossings wsX6_cross := goodIn_r _ [28, 29, 30, 31, 5, 32, 33, 34, 35, 36, 7, 37, 38, 39, 40, 41, 42, 43, 44, 45, 46, 47, 48, 49, 50, 51, 52, 53, 54, 55] (by decide +kernel) (by decide +kernel)
set_option maxRecDepth 20000 in
theorem gX6_crossings_X6_cross : GoodIn wsX6_crossings (wsV RX6 219 RX6 yX6_cross wsX6_cross) := goodIn_app (goodIn_of _ (by decide +kernel)) ggX6_crossings_X6_cross
theorem dX6_crossings_0 : decode cX6_crossings 0 = .ok (.aload_n 0, 1) := by decide +kernel
theorem dX6_crossings_1 : decode cX6_crossings 1 = .ok (.aload_n 0, 1) := by decide +kernel
theorem dX6_crossings_2 : decode cX6_crossings 2 = .ok (.iload_n 1, 1) := by decide +kernel
theorem dX6_crossings_3 : decode cX6_crossings 3 = .ok (.invokevirtual 43, 3) := by decide +kernel
theorem dX6_crossings_6 : decode cX6_crossings 6 = .ok (.ifCond .eq 7, 3) := by decide +kernel
theorem dX6_crossings_9 : decode cX6_crossings 9 = .ok (.iconst 0, 1) := by decide +kernel
theorem dX6_crossings_10 : decode cX6_crossings 10 = .ok (.goto 4, 3) := by decide +kernel
theorem dX6_crossings_13 : decode cX6_crossings 13 = .ok (.iconst 1, 1) := by decide +kernel
theorem dX6_crossings_14 : decode cX6_crossings 14 = .ok (.putfield 35, 3) := by decide +kernel
theorem dX6_crossings_17 : decode cX6_crossings 17 = .ok (.aload_n 0, 1) := by decide +kernel
theorem dX6_crossings_18 : decode cX6_crossings 18 = .ok (.getfield 35, 3) := by decide +kernel
theorem dX6_crossings_21 : decode cX6_crossings 21 = .ok (.ifCond .le 5, 3) := by decide +kernel
theorem dX6_crossings_24 : decode cX6_crossings 24 = .ok (.iconst 0, 1) := by decide +kernel
theorem dX6_crossings_25 : decode cX6_crossings 25 = .ok (.ireturn, 1) := by decide +kernel
theorem dX6_crossings_26 : decode cX6_crossings 26 = .ok (.aload_n 0, 1) := by decide +kernel
theorem dX6_crossings_27 : decode cX6_crossings 27 = .ok (.iload_n 1, 1) := by decide +kernel
theorem dX6_crossings_28 : decode cX6_crossings 28 = .ok (.invokevirtual 160, 3) := by decide +kernel
theorem dX6_crossings_31 : decode cX6_crossings 31 = .ok (.istore_n 2, 1) := by decide +kernel
theorem dX6_crossings_32 : decode cX6_crossings 32 = .ok (.aload_n 0, 1) := by decide +kernel
theorem dX6_crossings_33 : decode cX6_crossings 33 = .ok (.iload_n 1, 1) := by decide +kernel
theorem dX6_crossings_34 : decode cX6_crossings 34 = .ok (.invokevirtual 47, 3) := by decide +kernel
theorem dX6_crossings_37 : decode cX6_crossings 37 = .ok (.iconst 1, 1) := by decide +kernel
theorem dX6_crossings_38 : decode cX6_crossings 38 = .ok (.isub, 1) := by decide +kernel
theorem dX6_crossings_39 : decode cX6_crossings 39 = .ok (.istore_n 3, 1) := by decide +kernel
theorem dX6_crossings_40 : decode cX6_crossings 40 = .ok (.iconst 0, 1) := by decide +kernel
theorem dX6_crossings_41 : decode cX6_crossings 41 = .ok (.istore 4, 2) := by decide +kernel
theorem dX6_crossings_43 : decode cX6_crossings 43 = .ok (.iconst 0, 1) := by decide +kernel
theorem dX6_crossings_44 : decode cX6_crossings 44 = .ok (.istore 5, 2) := by decide +kernel
theorem dX6_crossings_46 : decode cX6_crossings 46 = .ok (.iload 5, 2) := by decide +kernel
theorem dX6_crossings_48 : decode cX6_crossings 48 = .ok (.iload_n 3, 1) := by decide +kernel
theorem dX6_crossings_49 : decode cX6_crossings 49 = .ok (.if_icmp .ge 87, 3) := by decide +kernel
theorem dX6_crossings_52 : decode cX6_crossings 52 = .ok (.iload_n 2, 1) := by decide +kernel
theorem dX6_crossings_53 : decode cX6_crossings 53 = .ok (.iload 5, 2) := by decide +kernel
theorem dX6_crossings_55 : decode cX6_crossings 55 = .ok (.invokestatic 101, 3) := by decide +kernel
theorem dX6_crossings_58 : decode cX6_crossings 58 = .ok (.istore 6, 2) := by decide +kernel
theorem dX6_crossings_60 : decode cX6_crossings 60 = .ok (.iload 6, 2) := by decide +kernel
theorem dX6_crossings_62 : decode cX6_crossings 62 = .ok (.iload_n 3, 1) := by decide +kernel
theorem dX6_crossings_63 : decode cX6_crossings 63 = .ok (.if_icmp .ge 12, 3) := by decide +kernel
theorem dX6_crossings_66 : decode cX6_crossings 66 = .ok (.iload_n 2, 1) := by decide +kernel
theorem dX6_crossings_67 : decode cX6_crossings 67 = .ok (.iload 6, 2) := by decide +kernel
theorem dX6_crossings_69 : decode cX6_crossings 69 = .ok (.invokestatic 101, 3) := by decide +kernel
theorem dX6_crossings_72 : decode cX6_crossings 72 = .ok (.goto 4, 3) := by decide +kernel
theorem dX6_crossings_75 : decode cX6_crossings 75 = .ok (.iload_n 3, 1) := by decide +kernel
theorem dX6_crossings_76 : decode cX6_crossings 76 = .ok (.istore 7, 2) := by decide +kernel
theorem dX6_crossings_78 : decode cX6_crossings 78 = .ok (.iload 7, 2) := by decide +kernel
theorem dX6_crossings_80 : decode cX6_crossings 80 = .ok (.iload_n 3, 1) := by decide +kernel
theorem dX6_crossings_81 : decode cX6_crossings 81 = .ok (.if_icmp .ge 44, 3) := by decide +kernel
theorem dX6_crossings_84 : decode cX6_crossings 84 = .ok (.iload_n 2, 1) := by decide +kernel
theorem dX6_crossings_85 : decode cX6_crossings 85 = .ok (.iload 7, 2) := by decide +kernel
theorem dX6_crossings_87 : decode cX6_crossings 87 = .ok (.invokestatic 101, 3) := by decide +kernel
theorem dX6_crossings_90 : decode cX6_crossings 90 = .ok (.istore 8, 2) := by decide +kernel
theorem dX6_crossings_92 : decode cX6_crossings 92 = .ok (.iload 4, 2) := by decide +kernel
theorem dX6_crossings_94 : decode cX6_crossings 94 = .ok (.aload_n 0, 1) := by decide +kernel
theorem dX6_crossings_95 : decode cX6_crossings 95 = .ok (.iload_n 1, 1) := by decide +kernel
theorem dX6_crossings_96 : decode cX6_crossings 96 = .ok (.iload 5, 2) := by decide +kernel
theorem dX6_crossings_98 : decode cX6_crossings 98 = .ok (.iload 6, 2) := by decide +kernel
theorem dX6_crossings_100 : decode cX6_crossings 100 = .ok (.iload 7, 2) := by decide +kernel
theorem dX6_crossings_102 : decode cX6_crossings 102 = .ok (.iload 8, 2) := by decide +kernel
theorem dX6_crossings_104 : decode cX6_crossings 104 = .ok (.invokevirtual 219, 3) := by decide +kernel
theorem dX6_crossings_107 : decode cX6_crossings 107 = .ok (.ifCond .eq 7, 3) := by decide +kernel
theorem dX6_crossings_110 : decode cX6_crossings 110 = .ok (.iconst 1, 1) := by decide +kernel
theorem dX6_crossings_111 : decode cX6_crossings 111 = .ok (.goto 4, 3) := by decide +kernel
theorem dX6_crossings_114 : decode cX6_crossings 114 = .ok (.iconst 0, 1) := by decide +kernel
theorem dX6_crossings_115 : decode cX6_crossings 115 = .ok (.iadd, 1) := by decide +kernel
theorem dX6_crossings_116 : decode cX6_crossings 116 = .ok (.istore 4, 2) := by decide +kernel
theorem dX6_crossings_118 : decode cX6_crossings 118 = .ok (.iload 8, 2) := by decide +kernel
theorem dX6_crossings_120 : decode cX6_crossings 120 = .ok (.istore 7, 2) := by decide +kernel
theorem dX6_crossings_122 : decode cX6_crossings 122 = .ok (.goto (-44), 3) := by decide +kernel
theorem dX6_crossings_125 : decode cX6_crossings 125 = .ok (.iload_n 2, 1) := by decide +kernel
theorem dX6_crossings_126 : decode cX6_crossings 126 = .ok (.iload 5, 2) := by decide +kernel
theorem dX6_crossings_128 : decode cX6_crossings 128 = .ok (.invokestatic 101, 3) := by decide +kernel
theorem dX6_crossings_131 : decode cX6_crossings 131 = .ok (.istore 5, 2) := by decide +kernel
theorem dX6_crossings_133 : decode cX6_crossings 133 = .ok (.goto (-87), 3) := by decide +kernel
theorem dX6_crossings_136 : decode cX6_crossings 136 = .ok (.iload 4, 2) := by decide +kernel
theorem dX6_crossings_138 : decode cX6_crossings 138 = .ok (.ireturn, 1) := by decide +kernel
set_option maxRecDepth 20000 in
theorem ggX6_allPoints_X6_points : GoodIn wsX6_allPoints wsX6_points := goodIn_r _ [6, 1, 7, 8, 9, 10, 11, 12, 13, 14, 15, 16, 17, 18, 19, 20, 21, 22] (by decide +kernel) (by decide +kernel)
set_option maxRecDepth 20000 in
theorem gX6_allPoints_X6_points : GoodIn wsX6_allPoints (wsV RX6 47 RX6 yX6_points wsX6_points) := goodIn_app (goodIn_of _ (by decide +kernel)) ggX6_allPoints_X6_points
theorem dX6_allPoints_0 : decode cX6_allPoints 0 = .ok (.iconst 0, 1) := by decide +kernel
theorem dX6_allPoints_1 : decode cX6_allPoints 1 = .ok (.istore_n 1, 1) := by decide +kernel
theorem dX6_allPoints_2 : decode cX6_allPoints 2 = .ok (.iconst 0, 1) := by decide +kernel
theorem dX6_allPoints_3 : decode cX6_allPoints 3 = .ok (.istore_n 2, 1) := by decide +kernel
theorem dX6_allPoints_4 : decode cX6_allPoints 4 = .ok (.iload_n 2, 1) := by decide +kernel
theorem dX6_allPoints_5 : decode cX6_allPoints 5 = .ok (.aload_n 0, 1) := by decide +kernel
theorem dX6_allPoints_6 : decode cX6_allPoints 6 = .ok (.getfield 7, 3) := by decide +kernel
theorem dX6_allPoints_9 : decode cX6_allPoints 9 = .ok (.sipush 296, 3) := by decide +kernel
theorem dX6_allPoints_12 : decode cX6_allPoints 12 = .ok (.iaload, 1) := by decide +kernel
theorem dX6_allPoints_13 : decode cX6_allPoints 13 = .ok (.if_icmp .ge 17, 3) := by decide +kernel
theorem dX6_allPoints_16 : decode cX6_allPoints 16 = .ok (.iload_n 1, 1) := by decide +kernel
theorem dX6_allPoints_17 : decode cX6_allPoints 17 = .ok (.aload_n 0, 1) := by decide +kernel
theorem dX6_allPoints_18 : decode cX6_allPoints 18 = .ok (.iload_n 2, 1) := by decide +kernel
theorem dX6_allPoints_19 : decode cX6_allPoints 19 = .ok (.invokevirtual 47, 3) := by decide +kernel
theorem dX6_allPoints_22 : decode cX6_allPoints 22 = .ok (.iadd, 1) := by decide +kernel
theorem dX6_allPoints_23 : decode cX6_allPoints 23 = .ok (.istore_n 1, 1) := by decide +kernel
theorem dX6_allPoints_24 : decode cX6_allPoints 24 = .ok (.iinc 2 1, 3) := by decide +kernel
theorem dX6_allPoints_27 : decode cX6_allPoints 27 = .ok (.goto (-23), 3) := by decide +kernel
theorem dX6_allPoints_30 : decode cX6_allPoints 30 = .ok (.iload_n 1, 1) := by decide +kernel
theorem dX6_allPoints_31 : decode cX6_allPoints 31 = .ok (.ireturn, 1) := by decide +kernel
set_option maxRecDepth 20000 in
theorem ggX6_allKept_X6_keptOf : GoodIn wsX6_allKept wsX6_keptOf := goodIn_r _ [6, 1, 10, 11, 12, 13, 14, 15, 16, 17, 18, 19, 20, 21, 22, 23, 24, 25] (by decide +kernel) (by decide +kernel)
set_option maxRecDepth 20000 in
theorem gX6_allKept_X6_keptOf : GoodIn wsX6_allKept (wsV RX6 160 RX6 yX6_keptOf wsX6_keptOf) := goodIn_app (goodIn_of _ (by decide +kernel)) ggX6_allKept_X6_keptOf
set_option maxRecDepth 20000 in
theorem ggX6_allKept_X6_ones : GoodIn wsX6_allKept wsX6_ones := goodIn_r _ [9] (by decide +kernel) (by decide +kernel)
set_option maxRecDepth 20000 in
theorem gX6_allKept_X6_ones : GoodIn wsX6_allKept (va_wsS RX6 157 yX6_ones wsX6_ones) := goodIn_app (goodIn_of _ (by decide +kernel)) ggX6_allKept_X6_ones
theorem dX6_allKept_0 : decode cX6_allKept 0 = .ok (.iconst 0, 1) := by decide +kernel
theorem dX6_allKept_1 : decode cX6_allKept 1 = .ok (.istore_n 1, 1) := by decide +kernel
theorem dX6_allKept_2 : decode cX6_allKept 2 = .ok (.iconst 0, 1) := by decide +kernel
theorem dX6_allKept_3 : decode cX6_allKept 3 = .ok (.istore_n 2, 1) := by decide +kernel
theorem dX6_allKept_4 : decode cX6_allKept 4 = .ok (.iload_n 2, 1) := by decide +kernel
theorem dX6_allKept_5 : decode cX6_allKept 5 = .ok (.aload_n 0, 1) := by decide +kernel
theorem dX6_allKept_6 : decode cX6_allKept 6 = .ok (.getfield 7, 3) := by decide +kernel
theorem dX6_allKept_9 : decode cX6_allKept 9 = .ok (.sipush 296, 3) := by decide +kernel
theorem dX6_allKept_12 : decode cX6_allKept 12 = .ok (.iaload, 1) := by decide +kernel
theorem dX6_allKept_13 : decode cX6_allKept 13 = .ok (.if_icmp .ge 20, 3) := by decide +kernel
theorem dX6_allKept_16 : decode cX6_allKept 16 = .ok (.iload_n 1, 1) := by decide +kernel
theorem dX6_allKept_17 : decode cX6_allKept 17 = .ok (.aload_n 0, 1) := by decide +kernel
theorem dX6_allKept_18 : decode cX6_allKept 18 = .ok (.iload_n 2, 1) := by decide +kernel
theorem dX6_allKept_19 : decode cX6_allKept 19 = .ok (.invokevirtual 160, 3) := by decide +kernel
theorem dX6_allKept_22 : decode cX6_allKept 22 = .ok (.invokestatic 157, 3) := by decide +kernel
theorem dX6_allKept_25 : decode cX6_allKept 25 = .ok (.iadd, 1) := by decide +kernel
theorem dX6_allKept_26 : decode cX6_allKept 26 = .ok (.istore_n 1, 1) := by decide +kernel
theorem dX6_allKept_27 : decode cX6_allKept 27 = .ok (.iinc 2 1, 3) := by decide +kernel
theorem dX6_allKept_30 : decode cX6_allKept 30 = .ok (.goto (-26), 3) := by decide +kernel
theorem dX6_allKept_33 : decode cX6_allKept 33 = .ok (.iload_n 1, 1) := by decide +kernel
theorem dX6_allKept_34 : decode cX6_allKept 34 = .ok (.ireturn, 1) := by decide +kernel
set_option maxRecDepth 20000 in
theorem ggX6_count_X6_in : GoodIn wsX6_count wsX6_in := goodIn_r _ [8] (by decide +kernel) (by decide +kernel)
set_option maxRecDepth 20000 in
theorem gX6_count_X6_in : GoodIn wsX6_count (va_wsS RX6 39 yX6_in wsX6_in) := goodIn_app (goodIn_of _ (by decide +kernel)) ggX6_count_X6_in
set_option maxRecDepth 20000 in
theorem ggX6_count_X6_allPoints : GoodIn wsX6_count wsX6_allPoints := goodIn_r _ [12, 2, 13, 14, 15, 7, 16, 28, 29, 30, 31, 32, 33, 34, 35, 36, 37, 38, 39, 40, 41, 42, 43] (by decide +kernel) (by decide +kernel)
set_option maxRecDepth 20000 in
theorem gX6_count_X6_allPoints : GoodIn wsX6_count (wsV RX6 222 RX6 yX6_allPoints wsX6_allPoints) := goodIn_app (goodIn_of _ (by decide +kernel)) ggX6_count_X6_allPoints
set_option maxRecDepth 20000 in
theorem ggX6_count_X6_allKept : GoodIn wsX6_count wsX6_allKept := goodIn_r _ [20, 2, 21, 22, 23, 7, 24, 25, 26, 27, 28, 29, 30, 31, 32, 33, 34, 35, 36, 37, 38, 39, 40, 41, 42, 43] (by decide +kernel) (by decide +kernel)
set_option maxRecDepth 20000 in
theorem gX6_count_X6_allKept : GoodIn wsX6_count (wsV RX6 225 RX6 yX6_allKept wsX6_allKept) := goodIn_app (goodIn_of _ (by decide +kernel)) ggX6_count_X6_allKept
theorem dX6_count_0 : decode cX6_count 0 = .ok (.aload_n 0, 1) := by decide +kernel
theorem dX6_count_1 : decode cX6_count 1 = .ok (.iload_n 1, 1) := by decide +kernel
theorem dX6_count_2 : decode cX6_count 2 = .ok (.iconst 0, 1) := by decide +kernel
theorem dX6_count_3 : decode cX6_count 3 = .ok (.bipush 6, 2) := by decide +kernel
theorem dX6_count_5 : decode cX6_count 5 = .ok (.invokestatic 39, 3) := by decide +kernel
theorem dX6_count_8 : decode cX6_count 8 = .ok (.ifCond .eq 7, 3) := by decide +kernel
theorem dX6_count_11 : decode cX6_count 11 = .ok (.iconst 0, 1) := by decide +kernel
theorem dX6_count_12 : decode cX6_count 12 = .ok (.goto 4, 3) := by decide +kernel
theorem dX6_count_15 : decode cX6_count 15 = .ok (.iconst 1, 1) := by decide +kernel
theorem dX6_count_16 : decode cX6_count 16 = .ok (.putfield 35, 3) := by decide +kernel
theorem dX6_count_19 : decode cX6_count 19 = .ok (.aload_n 0, 1) := by decide +kernel
theorem dX6_count_20 : decode cX6_count 20 = .ok (.getfield 35, 3) := by decide +kernel
theorem dX6_count_23 : decode cX6_count 23 = .ok (.ifCond .le 5, 3) := by decide +kernel
theorem dX6_count_26 : decode cX6_count 26 = .ok (.iconst 0, 1) := by decide +kernel
theorem dX6_count_27 : decode cX6_count 27 = .ok (.ireturn, 1) := by decide +kernel
theorem dX6_count_28 : decode cX6_count 28 = .ok (.iload_n 1, 1) := by decide +kernel
theorem dX6_count_29 : decode cX6_count 29 = .ok (.tableswitch 81 0 5 #[39, 48, 53, 58, 67, 76], 39) := by decide +kernel
theorem dX6_count_68 : decode cX6_count 68 = .ok (.aload_n 0, 1) := by decide +kernel
theorem dX6_count_69 : decode cX6_count 69 = .ok (.getfield 7, 3) := by decide +kernel
theorem dX6_count_72 : decode cX6_count 72 = .ok (.sipush 296, 3) := by decide +kernel
theorem dX6_count_75 : decode cX6_count 75 = .ok (.iaload, 1) := by decide +kernel
theorem dX6_count_76 : decode cX6_count 76 = .ok (.ireturn, 1) := by decide +kernel
theorem dX6_count_77 : decode cX6_count 77 = .ok (.aload_n 0, 1) := by decide +kernel
theorem dX6_count_78 : decode cX6_count 78 = .ok (.invokevirtual 222, 3) := by decide +kernel
theorem dX6_count_81 : decode cX6_count 81 = .ok (.ireturn, 1) := by decide +kernel
theorem dX6_count_82 : decode cX6_count 82 = .ok (.aload_n 0, 1) := by decide +kernel
theorem dX6_count_83 : decode cX6_count 83 = .ok (.invokevirtual 225, 3) := by decide +kernel
theorem dX6_count_86 : decode cX6_count 86 = .ok (.ireturn, 1) := by decide +kernel
theorem dX6_count_87 : decode cX6_count 87 = .ok (.aload_n 0, 1) := by decide +kernel
theorem dX6_count_88 : decode cX6_count 88 = .ok (.getfield 7, 3) := by decide +kernel
theorem dX6_count_91 : decode cX6_count 91 = .ok (.sipush 301, 3) := by decide +kernel
theorem dX6_count_94 : decode cX6_count 94 = .ok (.iaload, 1) := by decide +kernel
theorem dX6_count_95 : decode cX6_count 95 = .ok (.ireturn, 1) := by decide +kernel
theorem dX6_count_96 : decode cX6_count 96 = .ok (.aload_n 0, 1) := by decide +kernel
theorem dX6_count_97 : decode cX6_count 97 = .ok (.getfield 7, 3) := by decide +kernel
theorem dX6_count_100 : decode cX6_count 100 = .ok (.sipush 302, 3) := by decide +kernel
theorem dX6_count_103 : decode cX6_count 103 = .ok (.iaload, 1) := by decide +kernel
theorem dX6_count_104 : decode cX6_count 104 = .ok (.ireturn, 1) := by decide +kernel
theorem dX6_count_105 : decode cX6_count 105 = .ok (.aload_n 0, 1) := by decide +kernel
theorem dX6_count_106 : decode cX6_count 106 = .ok (.getfield 59, 3) := by decide +kernel
theorem dX6_count_109 : decode cX6_count 109 = .ok (.ireturn, 1) := by decide +kernel
theorem dX6_count_110 : decode cX6_count 110 = .ok (.aload_n 0, 1) := by decide +kernel
theorem dX6_count_111 : decode cX6_count 111 = .ok (.getfield 141, 3) := by decide +kernel
theorem dX6_count_114 : decode cX6_count 114 = .ok (.ireturn, 1) := by decide +kernel
set_option maxRecDepth 20000 in
theorem ggX6_setting_X6_in : GoodIn wsX6_setting wsX6_in := goodIn_r _ [6] (by decide +kernel) (by decide +kernel)
set_option maxRecDepth 20000 in
theorem gX6_setting_X6_in : GoodIn wsX6_setting (va_wsS RX6 39 yX6_in wsX6_in) := goodIn_app (goodIn_of _ (by decide +kernel)) ggX6_setting_X6_in
theorem dX6_setting_0 : decode cX6_setting 0 = .ok (.aload_n 0, 1) := by decide +kernel
theorem dX6_setting_1 : decode cX6_setting 1 = .ok (.iload_n 1, 1) := by decide +kernel
theorem dX6_setting_2 : decode cX6_setting 2 = .ok (.iconst 0, 1) := by decide +kernel
theorem dX6_setting_3 : decode cX6_setting 3 = .ok (.iconst 3, 1) := by decide +kernel
theorem dX6_setting_4 : decode cX6_setting 4 = .ok (.invokestatic 39, 3) := by decide +kernel
theorem dX6_setting_7 : decode cX6_setting 7 = .ok (.ifCond .eq 7, 3) := by decide +kernel
theorem dX6_setting_10 : decode cX6_setting 10 = .ok (.iconst 0, 1) := by decide +kernel
theorem dX6_setting_11 : decode cX6_setting 11 = .ok (.goto 4, 3) := by decide +kernel
theorem dX6_setting_14 : decode cX6_setting 14 = .ok (.iconst 1, 1) := by decide +kernel
theorem dX6_setting_15 : decode cX6_setting 15 = .ok (.putfield 35, 3) := by decide +kernel
theorem dX6_setting_18 : decode cX6_setting 18 = .ok (.aload_n 0, 1) := by decide +kernel
theorem dX6_setting_19 : decode cX6_setting 19 = .ok (.getfield 35, 3) := by decide +kernel
theorem dX6_setting_22 : decode cX6_setting 22 = .ok (.ifCond .le 7, 3) := by decide +kernel
theorem dX6_setting_25 : decode cX6_setting 25 = .ok (.iconst 0, 1) := by decide +kernel
theorem dX6_setting_26 : decode cX6_setting 26 = .ok (.goto 13, 3) := by decide +kernel
theorem dX6_setting_29 : decode cX6_setting 29 = .ok (.aload_n 0, 1) := by decide +kernel
theorem dX6_setting_30 : decode cX6_setting 30 = .ok (.getfield 7, 3) := by decide +kernel
theorem dX6_setting_33 : decode cX6_setting 33 = .ok (.sipush 297, 3) := by decide +kernel
theorem dX6_setting_36 : decode cX6_setting 36 = .ok (.iload_n 1, 1) := by decide +kernel
theorem dX6_setting_37 : decode cX6_setting 37 = .ok (.iadd, 1) := by decide +kernel
theorem dX6_setting_38 : decode cX6_setting 38 = .ok (.iaload, 1) := by decide +kernel
theorem dX6_setting_39 : decode cX6_setting 39 = .ok (.ireturn, 1) := by decide +kernel
set_option maxRecDepth 20000 in
theorem ggX6_nearest_X6_isAt : GoodIn wsX6_nearest wsX6_isAt := goodIn_r _ [6, 7, 8, 5, 9] (by decide +kernel) (by decide +kernel)
set_option maxRecDepth 20000 in
theorem gX6_nearest_X6_isAt : GoodIn wsX6_nearest (va_wsS RX6 124 yX6_isAt wsX6_isAt) := goodIn_app (goodIn_of _ (by decide +kernel)) ggX6_nearest_X6_isAt
set_option maxRecDepth 20000 in
theorem ggX6_nearest_X6_points : GoodIn wsX6_nearest wsX6_points := goodIn_r _ [13, 2, 18, 19, 20, 21, 22, 23, 24, 25, 26, 27, 28, 29, 30, 31, 32, 33] (by decide +kernel) (by decide +kernel)
set_option maxRecDepth 20000 in
theorem gX6_nearest_X6_points : GoodIn wsX6_nearest (wsV RX6 47 RX6 yX6_points wsX6_points) := goodIn_app (goodIn_of _ (by decide +kernel)) ggX6_nearest_X6_points
set_option maxRecDepth 20000 in
theorem ggX6_nearest_X6_of : GoodIn wsX6_nearest wsX6_of := goodIn_r _ [17, 2, 18, 19, 20, 21, 22, 23, 24, 25, 26, 27, 28, 29, 30, 31, 32, 33] (by decide +kernel) (by decide +kernel)
set_option maxRecDepth 20000 in
theorem gX6_nearest_X6_of : GoodIn wsX6_nearest (wsV RX6 65 RX6 yX6_of wsX6_of) := goodIn_app (goodIn_of _ (by decide +kernel)) ggX6_nearest_X6_of
theorem dX6_nearest_0 : decode cX6_nearest 0 = .ok (.aload_n 0, 1) := by decide +kernel
theorem dX6_nearest_1 : decode cX6_nearest 1 = .ok (.iload_n 1, 1) := by decide +kernel
theorem dX6_nearest_2 : decode cX6_nearest 2 = .ok (.iload_n 2, 1) := by decide +kernel
theorem dX6_nearest_3 : decode cX6_nearest 3 = .ok (.invokestatic 124, 3) := by decide +kernel
theorem dX6_nearest_6 : decode cX6_nearest 6 = .ok (.ifCond .eq 7, 3) := by decide +kernel
theorem dX6_nearest_9 : decode cX6_nearest 9 = .ok (.iconst 0, 1) := by decide +kernel
theorem dX6_nearest_10 : decode cX6_nearest 10 = .ok (.goto 4, 3) := by decide +kernel
theorem dX6_nearest_13 : decode cX6_nearest 13 = .ok (.iconst 1, 1) := by decide +kernel
theorem dX6_nearest_14 : decode cX6_nearest 14 = .ok (.putfield 35, 3) := by decide +kernel
theorem dX6_nearest_17 : decode cX6_nearest 17 = .ok (.aload_n 0, 1) := by decide +kernel
theorem dX6_nearest_18 : decode cX6_nearest 18 = .ok (.getfield 35, 3) := by decide +kernel
theorem dX6_nearest_21 : decode cX6_nearest 21 = .ok (.ifCond .le 5, 3) := by decide +kernel
theorem dX6_nearest_24 : decode cX6_nearest 24 = .ok (.iconst 0, 1) := by decide +kernel
theorem dX6_nearest_25 : decode cX6_nearest 25 = .ok (.ireturn, 1) := by decide +kernel
theorem dX6_nearest_26 : decode cX6_nearest 26 = .ok (.iconst (-1), 1) := by decide +kernel
theorem dX6_nearest_27 : decode cX6_nearest 27 = .ok (.istore_n 3, 1) := by decide +kernel
theorem dX6_nearest_28 : decode cX6_nearest 28 = .ok (.iconst 0, 1) := by decide +kernel
theorem dX6_nearest_29 : decode cX6_nearest 29 = .ok (.istore 4, 2) := by decide +kernel
theorem dX6_nearest_31 : decode cX6_nearest 31 = .ok (.iconst 0, 1) := by decide +kernel
theorem dX6_nearest_32 : decode cX6_nearest 32 = .ok (.istore 5, 2) := by decide +kernel
theorem dX6_nearest_34 : decode cX6_nearest 34 = .ok (.iload 5, 2) := by decide +kernel
theorem dX6_nearest_36 : decode cX6_nearest 36 = .ok (.aload_n 0, 1) := by decide +kernel
theorem dX6_nearest_37 : decode cX6_nearest 37 = .ok (.getfield 7, 3) := by decide +kernel
theorem dX6_nearest_40 : decode cX6_nearest 40 = .ok (.sipush 296, 3) := by decide +kernel
theorem dX6_nearest_43 : decode cX6_nearest 43 = .ok (.iaload, 1) := by decide +kernel
theorem dX6_nearest_44 : decode cX6_nearest 44 = .ok (.if_icmp .ge 97, 3) := by decide +kernel
theorem dX6_nearest_47 : decode cX6_nearest 47 = .ok (.iconst 0, 1) := by decide +kernel
theorem dX6_nearest_48 : decode cX6_nearest 48 = .ok (.istore 6, 2) := by decide +kernel
theorem dX6_nearest_50 : decode cX6_nearest 50 = .ok (.iload 6, 2) := by decide +kernel
theorem dX6_nearest_52 : decode cX6_nearest 52 = .ok (.aload_n 0, 1) := by decide +kernel
theorem dX6_nearest_53 : decode cX6_nearest 53 = .ok (.iload 5, 2) := by decide +kernel
theorem dX6_nearest_55 : decode cX6_nearest 55 = .ok (.invokevirtual 47, 3) := by decide +kernel
theorem dX6_nearest_58 : decode cX6_nearest 58 = .ok (.if_icmp .ge 77, 3) := by decide +kernel
theorem dX6_nearest_61 : decode cX6_nearest 61 = .ok (.aload_n 0, 1) := by decide +kernel
theorem dX6_nearest_62 : decode cX6_nearest 62 = .ok (.iload 5, 2) := by decide +kernel
theorem dX6_nearest_64 : decode cX6_nearest 64 = .ok (.iload 6, 2) := by decide +kernel
theorem dX6_nearest_66 : decode cX6_nearest 66 = .ok (.iconst 0, 1) := by decide +kernel
theorem dX6_nearest_67 : decode cX6_nearest 67 = .ok (.invokevirtual 65, 3) := by decide +kernel
theorem dX6_nearest_70 : decode cX6_nearest 70 = .ok (.iload_n 1, 1) := by decide +kernel
theorem dX6_nearest_71 : decode cX6_nearest 71 = .ok (.isub, 1) := by decide +kernel
theorem dX6_nearest_72 : decode cX6_nearest 72 = .ok (.istore 7, 2) := by decide +kernel
theorem dX6_nearest_74 : decode cX6_nearest 74 = .ok (.aload_n 0, 1) := by decide +kernel
theorem dX6_nearest_75 : decode cX6_nearest 75 = .ok (.iload 5, 2) := by decide +kernel
theorem dX6_nearest_77 : decode cX6_nearest 77 = .ok (.iload 6, 2) := by decide +kernel
theorem dX6_nearest_79 : decode cX6_nearest 79 = .ok (.iconst 1, 1) := by decide +kernel
theorem dX6_nearest_80 : decode cX6_nearest 80 = .ok (.invokevirtual 65, 3) := by decide +kernel
theorem dX6_nearest_83 : decode cX6_nearest 83 = .ok (.iload_n 2, 1) := by decide +kernel
theorem dX6_nearest_84 : decode cX6_nearest 84 = .ok (.isub, 1) := by decide +kernel
theorem dX6_nearest_85 : decode cX6_nearest 85 = .ok (.istore 8, 2) := by decide +kernel
theorem dX6_nearest_87 : decode cX6_nearest 87 = .ok (.iload_n 3, 1) := by decide +kernel
theorem dX6_nearest_88 : decode cX6_nearest 88 = .ok (.ifCond .lt 19, 3) := by decide +kernel
theorem dX6_nearest_91 : decode cX6_nearest 91 = .ok (.iload 7, 2) := by decide +kernel
theorem dX6_nearest_93 : decode cX6_nearest 93 = .ok (.iload 7, 2) := by decide +kernel
theorem dX6_nearest_95 : decode cX6_nearest 95 = .ok (.imul, 1) := by decide +kernel
theorem dX6_nearest_96 : decode cX6_nearest 96 = .ok (.iload 8, 2) := by decide +kernel
theorem dX6_nearest_98 : decode cX6_nearest 98 = .ok (.iload 8, 2) := by decide +kernel
theorem dX6_nearest_100 : decode cX6_nearest 100 = .ok (.imul, 1) := by decide +kernel
theorem dX6_nearest_101 : decode cX6_nearest 101 = .ok (.iadd, 1) := by decide +kernel
theorem dX6_nearest_102 : decode cX6_nearest 102 = .ok (.iload 4, 2) := by decide +kernel
theorem dX6_nearest_104 : decode cX6_nearest 104 = .ok (.if_icmp .ge 25, 3) := by decide +kernel
theorem dX6_nearest_107 : decode cX6_nearest 107 = .ok (.bipush 100, 2) := by decide +kernel
theorem dX6_nearest_109 : decode cX6_nearest 109 = .ok (.iload 5, 2) := by decide +kernel
theorem dX6_nearest_111 : decode cX6_nearest 111 = .ok (.imul, 1) := by decide +kernel
theorem dX6_nearest_112 : decode cX6_nearest 112 = .ok (.iload 6, 2) := by decide +kernel
theorem dX6_nearest_114 : decode cX6_nearest 114 = .ok (.iadd, 1) := by decide +kernel
theorem dX6_nearest_115 : decode cX6_nearest 115 = .ok (.istore_n 3, 1) := by decide +kernel
theorem dX6_nearest_116 : decode cX6_nearest 116 = .ok (.iload 7, 2) := by decide +kernel
theorem dX6_nearest_118 : decode cX6_nearest 118 = .ok (.iload 7, 2) := by decide +kernel
theorem dX6_nearest_120 : decode cX6_nearest 120 = .ok (.imul, 1) := by decide +kernel
theorem dX6_nearest_121 : decode cX6_nearest 121 = .ok (.iload 8, 2) := by decide +kernel
theorem dX6_nearest_123 : decode cX6_nearest 123 = .ok (.iload 8, 2) := by decide +kernel
theorem dX6_nearest_125 : decode cX6_nearest 125 = .ok (.imul, 1) := by decide +kernel
theorem dX6_nearest_126 : decode cX6_nearest 126 = .ok (.iadd, 1) := by decide +kernel
theorem dX6_nearest_127 : decode cX6_nearest 127 = .ok (.istore 4, 2) := by decide +kernel
theorem dX6_nearest_129 : decode cX6_nearest 129 = .ok (.iinc 6 1, 3) := by decide +kernel
theorem dX6_nearest_132 : decode cX6_nearest 132 = .ok (.goto (-82), 3) := by decide +kernel
theorem dX6_nearest_135 : decode cX6_nearest 135 = .ok (.iinc 5 1, 3) := by decide +kernel
theorem dX6_nearest_138 : decode cX6_nearest 138 = .ok (.goto (-104), 3) := by decide +kernel
theorem dX6_nearest_141 : decode cX6_nearest 141 = .ok (.iload_n 3, 1) := by decide +kernel
theorem dX6_nearest_142 : decode cX6_nearest 142 = .ok (.ireturn, 1) := by decide +kernel
set_option maxRecDepth 20000 in
theorem ggX6_ifSimplified_X6_isStroke : GoodIn wsX6_ifSimplified wsX6_isStroke := goodIn_r _ [6, 7, 8, 9, 5, 10, 77, 78, 79, 80, 81, 82, 83, 84, 85, 86, 87, 88, 89, 90, 91, 92] (by decide +kernel) (by decide +kernel)
set_option maxRecDepth 20000 in
theorem gX6_ifSimplified_X6_isStroke : GoodIn wsX6_ifSimplified (wsV RX6 43 RX6 yX6_isStroke wsX6_isStroke) := goodIn_app (goodIn_of _ (by decide +kernel)) ggX6_ifSimplified_X6_isStroke
set_option maxRecDepth 20000 in
theorem ggX6_ifSimplified_X6_in : GoodIn wsX6_ifSimplified wsX6_in := goodIn_r _ [10] (by decide +kernel) (by decide +kernel)
set_option maxRecDepth 20000 in
theorem gX6_ifSimplified_X6_in : GoodIn wsX6_ifSimplified (va_wsS RX6 39 yX6_in wsX6_in) := goodIn_app (goodIn_of _ (by decide +kernel)) ggX6_ifSimplified_X6_in
set_option maxRecDepth 20000 in
theorem ggX6_ifSimplified_X6_simplified : GoodIn wsX6_ifSimplified wsX6_simplified := goodIn_r _ [14, 15, 16, 17, 5, 18, 19, 20, 21, 22, 23, 24, 25, 26, 7, 27, 28, 29, 30, 31, 32, 33, 34, 35, 36, 37, 38, 39, 40, 41, 42, 43, 44, 45, 46, 47, 48, 49, 50, 51, 52, 53, 54, 55, 56, 57, 58, 59, 60, 61, 62, 63, 64, 65, 66, 67, 68, 69, 70, 71, 72, 73, 77, 78, 79, 80, 81, 82, 83, 84, 85, 86, 87, 88, 89, 90, 91, 92] (by decide +kernel) (by decide +kernel)
set_option maxRecDepth 20000 in
theorem gX6_ifSimplified_X6_simplified : GoodIn wsX6_ifSimplified (wsV RX6 154 RX6 yX6_simplified wsX6_simplified) := goodIn_app (goodIn_of _ (by decide +kernel)) ggX6_ifSimplified_X6_simplified
set_option maxRecDepth 20000 in
theorem ggX6_ifSimplified_X6_ones : GoodIn wsX6_ifSimplified wsX6_ones := goodIn_r _ [76] (by decide +kernel) (by decide +kernel)
set_option maxRecDepth 20000 in
theorem gX6_ifSimplified_X6_ones : GoodIn wsX6_ifSimplified (va_wsS RX6 157 yX6_ones wsX6_ones) := goodIn_app (goodIn_of _ (by decide +kernel)) ggX6_ifSimplified_X6_ones
theorem dX6_ifSimplified_0 : decode cX6_ifSimplified 0 = .ok (.aload_n 0, 1) := by decide +kernel
theorem dX6_ifSimplified_1 : decode cX6_ifSimplified 1 = .ok (.aload_n 0, 1) := by decide +kernel
theorem dX6_ifSimplified_2 : decode cX6_ifSimplified 2 = .ok (.iload_n 1, 1) := by decide +kernel
theorem dX6_ifSimplified_3 : decode cX6_ifSimplified 3 = .ok (.invokevirtual 43, 3) := by decide +kernel
theorem dX6_ifSimplified_6 : decode cX6_ifSimplified 6 = .ok (.ifCond .ne 7, 3) := by decide +kernel
theorem dX6_ifSimplified_9 : decode cX6_ifSimplified 9 = .ok (.iconst 1, 1) := by decide +kernel
theorem dX6_ifSimplified_10 : decode cX6_ifSimplified 10 = .ok (.goto 27, 3) := by decide +kernel
theorem dX6_ifSimplified_13 : decode cX6_ifSimplified 13 = .ok (.iload_n 2, 1) := by decide +kernel
theorem dX6_ifSimplified_14 : decode cX6_ifSimplified 14 = .ok (.iconst 0, 1) := by decide +kernel
theorem dX6_ifSimplified_15 : decode cX6_ifSimplified 15 = .ok (.bipush 50, 2) := by decide +kernel
theorem dX6_ifSimplified_17 : decode cX6_ifSimplified 17 = .ok (.invokestatic 39, 3) := by decide +kernel
theorem dX6_ifSimplified_20 : decode cX6_ifSimplified 20 = .ok (.ifCond .eq 16, 3) := by decide +kernel
theorem dX6_ifSimplified_23 : decode cX6_ifSimplified 23 = .ok (.iload_n 3, 1) := by decide +kernel
theorem dX6_ifSimplified_24 : decode cX6_ifSimplified 24 = .ok (.iconst 0, 1) := by decide +kernel
theorem dX6_ifSimplified_25 : decode cX6_ifSimplified 25 = .ok (.iconst 1, 1) := by decide +kernel
theorem dX6_ifSimplified_26 : decode cX6_ifSimplified 26 = .ok (.invokestatic 39, 3) := by decide +kernel
theorem dX6_ifSimplified_29 : decode cX6_ifSimplified 29 = .ok (.ifCond .eq 7, 3) := by decide +kernel
theorem dX6_ifSimplified_32 : decode cX6_ifSimplified 32 = .ok (.iconst 0, 1) := by decide +kernel
theorem dX6_ifSimplified_33 : decode cX6_ifSimplified 33 = .ok (.goto 4, 3) := by decide +kernel
theorem dX6_ifSimplified_36 : decode cX6_ifSimplified 36 = .ok (.iconst 2, 1) := by decide +kernel
theorem dX6_ifSimplified_37 : decode cX6_ifSimplified 37 = .ok (.putfield 35, 3) := by decide +kernel
theorem dX6_ifSimplified_40 : decode cX6_ifSimplified 40 = .ok (.aload_n 0, 1) := by decide +kernel
theorem dX6_ifSimplified_41 : decode cX6_ifSimplified 41 = .ok (.getfield 35, 3) := by decide +kernel
theorem dX6_ifSimplified_44 : decode cX6_ifSimplified 44 = .ok (.ifCond .le 7, 3) := by decide +kernel
theorem dX6_ifSimplified_47 : decode cX6_ifSimplified 47 = .ok (.iconst 0, 1) := by decide +kernel
theorem dX6_ifSimplified_48 : decode cX6_ifSimplified 48 = .ok (.goto 13, 3) := by decide +kernel
theorem dX6_ifSimplified_51 : decode cX6_ifSimplified 51 = .ok (.aload_n 0, 1) := by decide +kernel
theorem dX6_ifSimplified_52 : decode cX6_ifSimplified 52 = .ok (.iload_n 1, 1) := by decide +kernel
theorem dX6_ifSimplified_53 : decode cX6_ifSimplified 53 = .ok (.iload_n 2, 1) := by decide +kernel
theorem dX6_ifSimplified_54 : decode cX6_ifSimplified 54 = .ok (.iload_n 3, 1) := by decide +kernel
theorem dX6_ifSimplified_55 : decode cX6_ifSimplified 55 = .ok (.invokevirtual 154, 3) := by decide +kernel
theorem dX6_ifSimplified_58 : decode cX6_ifSimplified 58 = .ok (.invokestatic 157, 3) := by decide +kernel
theorem dX6_ifSimplified_61 : decode cX6_ifSimplified 61 = .ok (.ireturn, 1) := by decide +kernel
set_option maxRecDepth 20000 in
theorem ggX6_leastBound_X6_isStroke : GoodIn wsX6_leastBound wsX6_isStroke := goodIn_r _ [6, 7, 8, 9, 5, 10, 77, 78, 79, 80, 81, 82, 83, 84, 85, 86, 87, 88, 89, 90, 91, 92] (by decide +kernel) (by decide +kernel)
set_option maxRecDepth 20000 in
theorem gX6_leastBound_X6_isStroke : GoodIn wsX6_leastBound (wsV RX6 43 RX6 yX6_isStroke wsX6_isStroke) := goodIn_app (goodIn_of _ (by decide +kernel)) ggX6_leastBound_X6_isStroke
set_option maxRecDepth 20000 in
theorem ggX6_leastBound_X6_in : GoodIn wsX6_leastBound wsX6_in := goodIn_r _ [10] (by decide +kernel) (by decide +kernel)
set_option maxRecDepth 20000 in
theorem gX6_leastBound_X6_in : GoodIn wsX6_leastBound (va_wsS RX6 39 yX6_in wsX6_in) := goodIn_app (goodIn_of _ (by decide +kernel)) ggX6_leastBound_X6_in
set_option maxRecDepth 20000 in
theorem ggX6_leastBound_X6_simplified : GoodIn wsX6_leastBound wsX6_simplified := goodIn_r _ [14, 15, 16, 17, 5, 18, 19, 20, 21, 22, 23, 24, 25, 26, 7, 27, 28, 29, 30, 31, 32, 33, 34, 35, 36, 37, 38, 39, 40, 41, 42, 43, 44, 45, 46, 47, 48, 49, 50, 51, 52, 53, 54, 55, 56, 57, 58, 59, 60, 61, 62, 63, 64, 65, 66, 67, 68, 69, 70, 71, 72, 73, 77, 78, 79, 80, 81, 82, 83, 84, 85, 86, 87, 88, 89, 90, 91, 92] (by decide +kernel) (by decide +kernel)
set_option maxRecDepth 20000 in
theorem gX6_leastBound_X6_simplified : GoodIn wsX6_leastBound (wsV RX6 154 RX6 yX6_simplified wsX6_simplified) := goodIn_app (goodIn_of _ (by decide +kernel)) ggX6_leastBound_X6_simplified
set_option maxRecDepth 20000 in
theorem ggX6_leastBound_X6_ones : GoodIn wsX6_leastBound wsX6_ones := goodIn_r _ [76] (by decide +kernel) (by decide +kernel)
set_option maxRecDepth 20000 in
theorem gX6_leastBound_X6_ones : GoodIn wsX6_leastBound (va_wsS RX6 157 yX6_ones wsX6_ones) := goodIn_app (goodIn_of _ (by decide +kernel)) ggX6_leastBound_X6_ones
theorem dX6_leastBound_0 : decode cX6_leastBound 0 = .ok (.aload_n 0, 1) := by decide +kernel
theorem dX6_leastBound_1 : decode cX6_leastBound 1 = .ok (.aload_n 0, 1) := by decide +kernel
theorem dX6_leastBound_2 : decode cX6_leastBound 2 = .ok (.iload_n 1, 1) := by decide +kernel
theorem dX6_leastBound_3 : decode cX6_leastBound 3 = .ok (.invokevirtual 43, 3) := by decide +kernel
theorem dX6_leastBound_6 : decode cX6_leastBound 6 = .ok (.ifCond .ne 7, 3) := by decide +kernel
theorem dX6_leastBound_9 : decode cX6_leastBound 9 = .ok (.iconst 1, 1) := by decide +kernel
theorem dX6_leastBound_10 : decode cX6_leastBound 10 = .ok (.goto 27, 3) := by decide +kernel
theorem dX6_leastBound_13 : decode cX6_leastBound 13 = .ok (.iload_n 2, 1) := by decide +kernel
theorem dX6_leastBound_14 : decode cX6_leastBound 14 = .ok (.iconst 2, 1) := by decide +kernel
theorem dX6_leastBound_15 : decode cX6_leastBound 15 = .ok (.bipush 24, 2) := by decide +kernel
theorem dX6_leastBound_17 : decode cX6_leastBound 17 = .ok (.invokestatic 39, 3) := by decide +kernel
theorem dX6_leastBound_20 : decode cX6_leastBound 20 = .ok (.ifCond .eq 16, 3) := by decide +kernel
theorem dX6_leastBound_23 : decode cX6_leastBound 23 = .ok (.iload_n 3, 1) := by decide +kernel
theorem dX6_leastBound_24 : decode cX6_leastBound 24 = .ok (.iconst 0, 1) := by decide +kernel
theorem dX6_leastBound_25 : decode cX6_leastBound 25 = .ok (.iconst 1, 1) := by decide +kernel
theorem dX6_leastBound_26 : decode cX6_leastBound 26 = .ok (.invokestatic 39, 3) := by decide +kernel
theorem dX6_leastBound_29 : decode cX6_leastBound 29 = .ok (.ifCond .eq 7, 3) := by decide +kernel
theorem dX6_leastBound_32 : decode cX6_leastBound 32 = .ok (.iconst 0, 1) := by decide +kernel
theorem dX6_leastBound_33 : decode cX6_leastBound 33 = .ok (.goto 4, 3) := by decide +kernel
theorem dX6_leastBound_36 : decode cX6_leastBound 36 = .ok (.iconst 2, 1) := by decide +kernel
theorem dX6_leastBound_37 : decode cX6_leastBound 37 = .ok (.putfield 35, 3) := by decide +kernel
theorem dX6_leastBound_40 : decode cX6_leastBound 40 = .ok (.aload_n 0, 1) := by decide +kernel
theorem dX6_leastBound_41 : decode cX6_leastBound 41 = .ok (.getfield 35, 3) := by decide +kernel
theorem dX6_leastBound_44 : decode cX6_leastBound 44 = .ok (.ifCond .le 5, 3) := by decide +kernel
theorem dX6_leastBound_47 : decode cX6_leastBound 47 = .ok (.iconst 0, 1) := by decide +kernel
theorem dX6_leastBound_48 : decode cX6_leastBound 48 = .ok (.ireturn, 1) := by decide +kernel
theorem dX6_leastBound_49 : decode cX6_leastBound 49 = .ok (.iconst 0, 1) := by decide +kernel
theorem dX6_leastBound_50 : decode cX6_leastBound 50 = .ok (.istore 4, 2) := by decide +kernel
theorem dX6_leastBound_52 : decode cX6_leastBound 52 = .ok (.iload 4, 2) := by decide +kernel
theorem dX6_leastBound_54 : decode cX6_leastBound 54 = .ok (.bipush 50, 2) := by decide +kernel
theorem dX6_leastBound_56 : decode cX6_leastBound 56 = .ok (.if_icmp .gt 24, 3) := by decide +kernel
theorem dX6_leastBound_59 : decode cX6_leastBound 59 = .ok (.aload_n 0, 1) := by decide +kernel
theorem dX6_leastBound_60 : decode cX6_leastBound 60 = .ok (.iload_n 1, 1) := by decide +kernel
theorem dX6_leastBound_61 : decode cX6_leastBound 61 = .ok (.iload 4, 2) := by decide +kernel
theorem dX6_leastBound_63 : decode cX6_leastBound 63 = .ok (.iload_n 3, 1) := by decide +kernel
theorem dX6_leastBound_64 : decode cX6_leastBound 64 = .ok (.invokevirtual 154, 3) := by decide +kernel
theorem dX6_leastBound_67 : decode cX6_leastBound 67 = .ok (.invokestatic 157, 3) := by decide +kernel
theorem dX6_leastBound_70 : decode cX6_leastBound 70 = .ok (.iload_n 2, 1) := by decide +kernel
theorem dX6_leastBound_71 : decode cX6_leastBound 71 = .ok (.if_icmp .le 9, 3) := by decide +kernel
theorem dX6_leastBound_74 : decode cX6_leastBound 74 = .ok (.iinc 4 1, 3) := by decide +kernel
theorem dX6_leastBound_77 : decode cX6_leastBound 77 = .ok (.goto (-25), 3) := by decide +kernel
theorem dX6_leastBound_80 : decode cX6_leastBound 80 = .ok (.iload 4, 2) := by decide +kernel
theorem dX6_leastBound_82 : decode cX6_leastBound 82 = .ok (.bipush 50, 2) := by decide +kernel
theorem dX6_leastBound_84 : decode cX6_leastBound 84 = .ok (.if_icmp .gt 8, 3) := by decide +kernel
theorem dX6_leastBound_87 : decode cX6_leastBound 87 = .ok (.iload 4, 2) := by decide +kernel
theorem dX6_leastBound_89 : decode cX6_leastBound 89 = .ok (.goto 4, 3) := by decide +kernel
theorem dX6_leastBound_92 : decode cX6_leastBound 92 = .ok (.iconst (-1), 1) := by decide +kernel
theorem dX6_leastBound_93 : decode cX6_leastBound 93 = .ok (.ireturn, 1) := by decide +kernel
set_option maxRecDepth 20000 in
theorem ggX6_share_X6_allKept : GoodIn wsX6_share wsX6_allKept := goodIn_r _ [7, 2, 8, 9, 10, 6, 11, 12, 13, 14, 23, 24, 25, 26, 27, 28, 29, 30, 31, 32, 33, 34, 35, 36, 37, 38] (by decide +kernel) (by decide +kernel)
set_option maxRecDepth 20000 in
theorem gX6_share_X6_allKept : GoodIn wsX6_share (wsV RX6 225 RX6 yX6_allKept wsX6_allKept) := goodIn_app (goodIn_of _ (by decide +kernel)) ggX6_share_X6_allKept
set_option maxRecDepth 20000 in
theorem ggX6_share_X6_allPoints : GoodIn wsX6_share wsX6_allPoints := goodIn_r _ [18, 2, 19, 20, 21, 6, 22, 23, 24, 25, 26, 27, 28, 29, 30, 31, 32, 33, 34, 35, 36, 37, 38] (by decide +kernel) (by decide +kernel)
set_option maxRecDepth 20000 in
theorem gX6_share_X6_allPoints : GoodIn wsX6_share (wsV RX6 222 RX6 yX6_allPoints wsX6_allPoints) := goodIn_app (goodIn_of _ (by decide +kernel)) ggX6_share_X6_allPoints
theorem dX6_share_0 : decode cX6_share 0 = .ok (.aload_n 0, 1) := by decide +kernel
theorem dX6_share_1 : decode cX6_share 1 = .ok (.iconst 0, 1) := by decide +kernel
theorem dX6_share_2 : decode cX6_share 2 = .ok (.putfield 35, 3) := by decide +kernel
theorem dX6_share_5 : decode cX6_share 5 = .ok (.aload_n 0, 1) := by decide +kernel
theorem dX6_share_6 : decode cX6_share 6 = .ok (.getfield 7, 3) := by decide +kernel
theorem dX6_share_9 : decode cX6_share 9 = .ok (.sipush 296, 3) := by decide +kernel
theorem dX6_share_12 : decode cX6_share 12 = .ok (.iaload, 1) := by decide +kernel
theorem dX6_share_13 : decode cX6_share 13 = .ok (.ifCond .ne 7, 3) := by decide +kernel
theorem dX6_share_16 : decode cX6_share 16 = .ok (.dconst 1, 1) := by decide +kernel
theorem dX6_share_17 : decode cX6_share 17 = .ok (.goto 14, 3) := by decide +kernel
theorem dX6_share_20 : decode cX6_share 20 = .ok (.aload_n 0, 1) := by decide +kernel
theorem dX6_share_21 : decode cX6_share 21 = .ok (.invokevirtual 225, 3) := by decide +kernel
theorem dX6_share_24 : decode cX6_share 24 = .ok (.i2d, 1) := by decide +kernel
theorem dX6_share_25 : decode cX6_share 25 = .ok (.aload_n 0, 1) := by decide +kernel
theorem dX6_share_26 : decode cX6_share 26 = .ok (.invokevirtual 222, 3) := by decide +kernel
theorem dX6_share_29 : decode cX6_share 29 = .ok (.i2d, 1) := by decide +kernel
theorem dX6_share_30 : decode cX6_share 30 = .ok (.ddiv, 1) := by decide +kernel
theorem dX6_share_31 : decode cX6_share 31 = .ok (.dreturn, 1) := by decide +kernel
