theorem dX0_init_0 : decode cX0_init 0 = .ok (.aload_n 0, 1) := by decide +kernel
theorem dX0_init_1 : decode cX0_init 1 = .ok (.invokespecial 3, 3) := by decide +kernel
theorem dX0_init_4 : decode cX0_init 4 = .ok (.aload_n 0, 1) := by decide +kernel
theorem dX0_init_5 : decode cX0_init 5 = .ok (.bipush 6, 2) := by decide +kernel
theorem dX0_init_7 : decode cX0_init 7 = .ok (.anewarray 9, 3) := by decide +kernel
theorem dX0_init_10 : decode cX0_init 10 = .ok (.putfield 11, 3) := by decide +kernel
theorem dX0_init_13 : decode cX0_init 13 = .ok (.return_, 1) := by decide +kernel
set_option maxRecDepth 20000 in
theorem ggX0_save_X1_init : GoodIn wsX0_save wsX1_init := goodIn_r _ [9, 10, 11, 12, 13, 14, 15, 16, 17, 18, 19, 20, 21, 22, 23, 24, 25, 26, 27, 28, 29, 30, 62, 63, 64, 65, 66, 67, 68, 69, 70] (by decide +kernel) (by decide +kernel)
set_option maxRecDepth 20000 in
theorem gX0_save_X1_init : GoodIn wsX0_save (wsX1_init) := ggX0_save_X1_init
set_option maxRecDepth 20000 in
theorem ggX0_save_X1_copyFrom : GoodIn wsX0_save wsX1_copyFrom := goodIn_r _ [34, 35, 24, 36, 37, 38, 39, 40, 6, 41, 14, 17, 42, 43, 44, 16, 45, 30, 46, 47, 48, 49, 50, 51, 52, 53, 54, 55, 56, 57, 58, 62, 63, 64, 65, 66, 67, 68, 69, 70] (by decide +kernel) (by decide +kernel)
set_option maxRecDepth 20000 in
theorem gX0_save_X1_copyFrom : GoodIn wsX0_save (wsV RX0 25 RX1 yX1_copyFrom wsX1_copyFrom) := goodIn_app (goodIn_of _ (by decide +kernel)) ggX0_save_X1_copyFrom
theorem dX0_save_0 : decode cX0_save 0 = .ok (.aload_n 0, 1) := by decide +kernel
theorem dX0_save_1 : decode cX0_save 1 = .ok (.getfield 17, 3) := by decide +kernel
theorem dX0_save_4 : decode cX0_save 4 = .ok (.bipush 6, 2) := by decide +kernel
theorem dX0_save_6 : decode cX0_save 6 = .ok (.if_icmp .ne 26, 3) := by decide +kernel
theorem dX0_save_9 : decode cX0_save 9 = .ok (.aload_n 0, 1) := by decide +kernel
theorem dX0_save_10 : decode cX0_save 10 = .ok (.aload_n 0, 1) := by decide +kernel
theorem dX0_save_11 : decode cX0_save 11 = .ok (.getfield 21, 3) := by decide +kernel
theorem dX0_save_14 : decode cX0_save 14 = .ok (.iconst 1, 1) := by decide +kernel
theorem dX0_save_15 : decode cX0_save 15 = .ok (.iadd, 1) := by decide +kernel
theorem dX0_save_16 : decode cX0_save 16 = .ok (.bipush 6, 2) := by decide +kernel
theorem dX0_save_18 : decode cX0_save 18 = .ok (.irem, 1) := by decide +kernel
theorem dX0_save_19 : decode cX0_save 19 = .ok (.putfield 21, 3) := by decide +kernel
theorem dX0_save_22 : decode cX0_save 22 = .ok (.aload_n 0, 1) := by decide +kernel
theorem dX0_save_23 : decode cX0_save 23 = .ok (.dup, 1) := by decide +kernel
theorem dX0_save_24 : decode cX0_save 24 = .ok (.getfield 17, 3) := by decide +kernel
theorem dX0_save_27 : decode cX0_save 27 = .ok (.iconst 1, 1) := by decide +kernel
theorem dX0_save_28 : decode cX0_save 28 = .ok (.isub, 1) := by decide +kernel
theorem dX0_save_29 : decode cX0_save 29 = .ok (.putfield 17, 3) := by decide +kernel
theorem dX0_save_32 : decode cX0_save 32 = .ok (.aload_n 0, 1) := by decide +kernel
theorem dX0_save_33 : decode cX0_save 33 = .ok (.getfield 21, 3) := by decide +kernel
theorem dX0_save_36 : decode cX0_save 36 = .ok (.aload_n 0, 1) := by decide +kernel
theorem dX0_save_37 : decode cX0_save 37 = .ok (.getfield 17, 3) := by decide +kernel
theorem dX0_save_40 : decode cX0_save 40 = .ok (.iadd, 1) := by decide +kernel
theorem dX0_save_41 : decode cX0_save 41 = .ok (.bipush 6, 2) := by decide +kernel
theorem dX0_save_43 : decode cX0_save 43 = .ok (.irem, 1) := by decide +kernel
theorem dX0_save_44 : decode cX0_save 44 = .ok (.istore_n 2, 1) := by decide +kernel
theorem dX0_save_45 : decode cX0_save 45 = .ok (.iload_n 2, 1) := by decide +kernel
theorem dX0_save_46 : decode cX0_save 46 = .ok (.ifCond .lt 12, 3) := by decide +kernel
theorem dX0_save_49 : decode cX0_save 49 = .ok (.iload_n 2, 1) := by decide +kernel
theorem dX0_save_50 : decode cX0_save 50 = .ok (.aload_n 0, 1) := by decide +kernel
theorem dX0_save_51 : decode cX0_save 51 = .ok (.getfield 11, 3) := by decide +kernel
theorem dX0_save_54 : decode cX0_save 54 = .ok (.arraylength, 1) := by decide +kernel
theorem dX0_save_55 : decode cX0_save 55 = .ok (.if_icmp .lt 4, 3) := by decide +kernel
theorem dX0_save_58 : decode cX0_save 58 = .ok (.return_, 1) := by decide +kernel
theorem dX0_save_59 : decode cX0_save 59 = .ok (.aload_n 0, 1) := by decide +kernel
theorem dX0_save_60 : decode cX0_save 60 = .ok (.getfield 11, 3) := by decide +kernel
theorem dX0_save_63 : decode cX0_save 63 = .ok (.iload_n 2, 1) := by decide +kernel
theorem dX0_save_64 : decode cX0_save 64 = .ok (.aaload, 1) := by decide +kernel
theorem dX0_save_65 : decode cX0_save 65 = .ok (.astore_n 3, 1) := by decide +kernel
theorem dX0_save_66 : decode cX0_save 66 = .ok (.aload_n 3, 1) := by decide +kernel
theorem dX0_save_67 : decode cX0_save 67 = .ok (.ifnonnull 18, 3) := by decide +kernel
theorem dX0_save_70 : decode cX0_save 70 = .ok (.new 9, 3) := by decide +kernel
theorem dX0_save_73 : decode cX0_save 73 = .ok (.dup, 1) := by decide +kernel
theorem dX0_save_74 : decode cX0_save 74 = .ok (.invokespecial 24, 3) := by decide +kernel
theorem dX0_save_77 : decode cX0_save 77 = .ok (.astore_n 3, 1) := by decide +kernel
theorem dX0_save_78 : decode cX0_save 78 = .ok (.aload_n 0, 1) := by decide +kernel
theorem dX0_save_79 : decode cX0_save 79 = .ok (.getfield 11, 3) := by decide +kernel
theorem dX0_save_82 : decode cX0_save 82 = .ok (.iload_n 2, 1) := by decide +kernel
theorem dX0_save_83 : decode cX0_save 83 = .ok (.aload_n 3, 1) := by decide +kernel
theorem dX0_save_84 : decode cX0_save 84 = .ok (.aastore, 1) := by decide +kernel
theorem dX0_save_85 : decode cX0_save 85 = .ok (.aload_n 3, 1) := by decide +kernel
theorem dX0_save_86 : decode cX0_save 86 = .ok (.aload_n 1, 1) := by decide +kernel
theorem dX0_save_87 : decode cX0_save 87 = .ok (.invokevirtual 25, 3) := by decide +kernel
theorem dX0_save_90 : decode cX0_save 90 = .ok (.aload_n 0, 1) := by decide +kernel
theorem dX0_save_91 : decode cX0_save 91 = .ok (.dup, 1) := by decide +kernel
theorem dX0_save_92 : decode cX0_save 92 = .ok (.getfield 17, 3) := by decide +kernel
theorem dX0_save_95 : decode cX0_save 95 = .ok (.iconst 1, 1) := by decide +kernel
theorem dX0_save_96 : decode cX0_save 96 = .ok (.iadd, 1) := by decide +kernel
theorem dX0_save_97 : decode cX0_save 97 = .ok (.putfield 17, 3) := by decide +kernel
theorem dX0_save_100 : decode cX0_save 100 = .ok (.return_, 1) := by decide +kernel
