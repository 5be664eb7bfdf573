theorem dX4_bestPlace_28 : decode cX4_bestPlace 28 = .ok (.aload_n 0, 1) := by decide +kernel
theorem dX4_bestPlace_29 : decode cX4_bestPlace 29 = .ok (.iload_n 3, 1) := by decide +kernel
theorem dX4_bestPlace_30 : decode cX4_bestPlace 30 = .ok (.invokevirtual 270, 3) := by decide +kernel
theorem dX4_bestPlace_33 : decode cX4_bestPlace 33 = .ok (.istore 4, 2) := by decide +kernel
theorem dX4_bestPlace_35 : decode cX4_bestPlace 35 = .ok (.iload 4, 2) := by decide +kernel
theorem dX4_bestPlace_37 : decode cX4_bestPlace 37 = .ok (.iload_n 2, 1) := by decide +kernel
theorem dX4_bestPlace_38 : decode cX4_bestPlace 38 = .ok (.if_icmp .ge 8, 3) := by decide +kernel
theorem dX4_bestPlace_41 : decode cX4_bestPlace 41 = .ok (.iload_n 3, 1) := by decide +kernel
theorem dX4_bestPlace_42 : decode cX4_bestPlace 42 = .ok (.istore_n 1, 1) := by decide +kernel
theorem dX4_bestPlace_43 : decode cX4_bestPlace 43 = .ok (.iload 4, 2) := by decide +kernel
theorem dX4_bestPlace_45 : decode cX4_bestPlace 45 = .ok (.istore_n 2, 1) := by decide +kernel
theorem dX4_bestPlace_46 : decode cX4_bestPlace 46 = .ok (.iinc 3 1, 3) := by decide +kernel
theorem dX4_bestPlace_49 : decode cX4_bestPlace 49 = .ok (.goto (-27), 3) := by decide +kernel
theorem dX4_bestPlace_52 : decode cX4_bestPlace 52 = .ok (.iload_n 1, 1) := by decide +kernel
theorem dX4_bestPlace_53 : decode cX4_bestPlace 53 = .ok (.ireturn, 1) := by decide +kernel
set_option maxRecDepth 20000 in
theorem ggX4_bestGuard_X2_become : GoodIn wsX4_bestGuard wsX2_become := goodIn_r _ [8, 9, 10, 11, 12, 13, 14, 15, 16, 17, 18, 19, 20, 21, 22, 23, 24, 25, 26, 27, 28, 29, 30, 31, 32, 33, 65, 66, 67, 68, 69, 70, 71, 72, 73, 74, 75, 76, 77, 78, 79] (by decide +kernel) (by decide +kernel)
set_option maxRecDepth 20000 in
theorem gX4_bestGuard_X2_become : GoodIn wsX4_bestGuard (wsV RX4 170 RX2 yX2_become wsX2_become) := goodIn_app (goodIn_of _ (by decide +kernel)) ggX4_bestGuard_X2_become
set_option maxRecDepth 20000 in
theorem ggX4_bestGuard_X4_bit : GoodIn wsX4_bestGuard wsX4_bit := goodIn_r _ [37] (by decide +kernel) (by decide +kernel)
set_option maxRecDepth 20000 in
theorem gX4_bestGuard_X4_bit : GoodIn wsX4_bestGuard (va_wsS RX4 70 yX4_bit wsX4_bit) := goodIn_app (goodIn_of _ (by decide +kernel)) ggX4_bestGuard_X4_bit
set_option maxRecDepth 20000 in
theorem ggX4_bestGuard_X2_threadsRight : GoodIn wsX4_bestGuard wsX2_threadsRight := goodIn_r _ [41, 9, 42, 43, 44, 7, 45, 16, 35, 36, 37, 46, 47, 48, 49, 50, 51, 52, 53, 15, 54, 55, 56, 57, 18, 65, 66, 67, 68, 69, 70, 71, 72] (by decide +kernel) (by decide +kernel)
set_option maxRecDepth 20000 in
theorem gX4_bestGuard_X2_threadsRight : GoodIn wsX4_bestGuard (wsV RX4 256 RX2 yX2_threadsRight wsX2_threadsRight) := goodIn_app (goodIn_of _ (by decide +kernel)) ggX4_bestGuard_X2_threadsRight
theorem dX4_bestGuard_0 : decode cX4_bestGuard 0 = .ok (.iconst (-1), 1) := by decide +kernel
theorem dX4_bestGuard_1 : decode cX4_bestGuard 1 = .ok (.istore_n 1, 1) := by decide +kernel
theorem dX4_bestGuard_2 : decode cX4_bestGuard 2 = .ok (.iconst (-1), 1) := by decide +kernel
theorem dX4_bestGuard_3 : decode cX4_bestGuard 3 = .ok (.istore_n 2, 1) := by decide +kernel
theorem dX4_bestGuard_4 : decode cX4_bestGuard 4 = .ok (.aload_n 0, 1) := by decide +kernel
theorem dX4_bestGuard_5 : decode cX4_bestGuard 5 = .ok (.getfield 16, 3) := by decide +kernel
theorem dX4_bestGuard_8 : decode cX4_bestGuard 8 = .ok (.aload_n 0, 1) := by decide +kernel
theorem dX4_bestGuard_9 : decode cX4_bestGuard 9 = .ok (.getfield 10, 3) := by decide +kernel
theorem dX4_bestGuard_12 : decode cX4_bestGuard 12 = .ok (.invokevirtual 170, 3) := by decide +kernel
theorem dX4_bestGuard_15 : decode cX4_bestGuard 15 = .ok (.iconst 0, 1) := by decide +kernel
theorem dX4_bestGuard_16 : decode cX4_bestGuard 16 = .ok (.istore_n 3, 1) := by decide +kernel
theorem dX4_bestGuard_17 : decode cX4_bestGuard 17 = .ok (.iload_n 3, 1) := by decide +kernel
theorem dX4_bestGuard_18 : decode cX4_bestGuard 18 = .ok (.bipush 16, 2) := by decide +kernel
theorem dX4_bestGuard_20 : decode cX4_bestGuard 20 = .ok (.if_icmp .ge 61, 3) := by decide +kernel
theorem dX4_bestGuard_23 : decode cX4_bestGuard 23 = .ok (.aload_n 0, 1) := by decide +kernel
theorem dX4_bestGuard_24 : decode cX4_bestGuard 24 = .ok (.getfield 10, 3) := by decide +kernel
theorem dX4_bestGuard_27 : decode cX4_bestGuard 27 = .ok (.getfield 88, 3) := by decide +kernel
theorem dX4_bestGuard_30 : decode cX4_bestGuard 30 = .ok (.iload_n 3, 1) := by decide +kernel
theorem dX4_bestGuard_31 : decode cX4_bestGuard 31 = .ok (.invokestatic 70, 3) := by decide +kernel
theorem dX4_bestGuard_34 : decode cX4_bestGuard 34 = .ok (.ifCond .ne 41, 3) := by decide +kernel
theorem dX4_bestGuard_37 : decode cX4_bestGuard 37 = .ok (.aload_n 0, 1) := by decide +kernel
theorem dX4_bestGuard_38 : decode cX4_bestGuard 38 = .ok (.getfield 16, 3) := by decide +kernel
theorem dX4_bestGuard_41 : decode cX4_bestGuard 41 = .ok (.aload_n 0, 1) := by decide +kernel
theorem dX4_bestGuard_42 : decode cX4_bestGuard 42 = .ok (.getfield 10, 3) := by decide +kernel
theorem dX4_bestGuard_45 : decode cX4_bestGuard 45 = .ok (.getfield 88, 3) := by decide +kernel
theorem dX4_bestGuard_48 : decode cX4_bestGuard 48 = .ok (.iconst 1, 1) := by decide +kernel
theorem dX4_bestGuard_49 : decode cX4_bestGuard 49 = .ok (.iload_n 3, 1) := by decide +kernel
theorem dX4_bestGuard_50 : decode cX4_bestGuard 50 = .ok (.ishl, 1) := by decide +kernel
theorem dX4_bestGuard_51 : decode cX4_bestGuard 51 = .ok (.ior, 1) := by decide +kernel
theorem dX4_bestGuard_52 : decode cX4_bestGuard 52 = .ok (.putfield 88, 3) := by decide +kernel
theorem dX4_bestGuard_55 : decode cX4_bestGuard 55 = .ok (.aload_n 0, 1) := by decide +kernel
theorem dX4_bestGuard_56 : decode cX4_bestGuard 56 = .ok (.getfield 16, 3) := by decide +kernel
theorem dX4_bestGuard_59 : decode cX4_bestGuard 59 = .ok (.invokevirtual 256, 3) := by decide +kernel
theorem dX4_bestGuard_62 : decode cX4_bestGuard 62 = .ok (.istore 4, 2) := by decide +kernel
theorem dX4_bestGuard_64 : decode cX4_bestGuard 64 = .ok (.iload 4, 2) := by decide +kernel
theorem dX4_bestGuard_66 : decode cX4_bestGuard 66 = .ok (.iload_n 2, 1) := by decide +kernel
theorem dX4_bestGuard_67 : decode cX4_bestGuard 67 = .ok (.if_icmp .le 8, 3) := by decide +kernel
theorem dX4_bestGuard_70 : decode cX4_bestGuard 70 = .ok (.iload_n 3, 1) := by decide +kernel
theorem dX4_bestGuard_71 : decode cX4_bestGuard 71 = .ok (.istore_n 1, 1) := by decide +kernel
theorem dX4_bestGuard_72 : decode cX4_bestGuard 72 = .ok (.iload 4, 2) := by decide +kernel
theorem dX4_bestGuard_74 : decode cX4_bestGuard 74 = .ok (.istore_n 2, 1) := by decide +kernel
theorem dX4_bestGuard_75 : decode cX4_bestGuard 75 = .ok (.iinc 3 1, 3) := by decide +kernel
theorem dX4_bestGuard_78 : decode cX4_bestGuard 78 = .ok (.goto (-61), 3) := by decide +kernel
theorem dX4_bestGuard_81 : decode cX4_bestGuard 81 = .ok (.iload_n 1, 1) := by decide +kernel
theorem dX4_bestGuard_82 : decode cX4_bestGuard 82 = .ok (.ireturn, 1) := by decide +kernel
set_option maxRecDepth 20000 in
theorem ggX4_lastsFor_X4_isThread : GoodIn wsX4_lastsFor wsX4_isThread := goodIn_r _ [7, 8, 9, 6, 10] (by decide +kernel) (by decide +kernel)
set_option maxRecDepth 20000 in
theorem gX4_lastsFor_X4_isThread : GoodIn wsX4_lastsFor (va_wsS RX4 45 yX4_isThread wsX4_isThread) := goodIn_app (goodIn_of _ (by decide +kernel)) ggX4_lastsFor_X4_isThread
set_option maxRecDepth 20000 in
theorem ggX4_lastsFor_X2_readingsUntilChange : GoodIn wsX4_lastsFor wsX2_readingsUntilChange := goodIn_r _ [15, 16, 17, 18, 19, 6, 20, 28, 29, 30, 31, 32, 33, 34, 35] (by decide +kernel) (by decide +kernel)
set_option maxRecDepth 20000 in
theorem gX4_lastsFor_X2_readingsUntilChange : GoodIn wsX4_lastsFor (wsV RX4 273 RX2 yX2_readingsUntilChange wsX2_readingsUntilChange) := goodIn_app (goodIn_of _ (by decide +kernel)) ggX4_lastsFor_X2_readingsUntilChange
theorem dX4_lastsFor_0 : decode cX4_lastsFor 0 = .ok (.iload_n 1, 1) := by decide +kernel
theorem dX4_lastsFor_1 : decode cX4_lastsFor 1 = .ok (.invokestatic 45, 3) := by decide +kernel
theorem dX4_lastsFor_4 : decode cX4_lastsFor 4 = .ok (.ifCond .ne 13, 3) := by decide +kernel
theorem dX4_lastsFor_7 : decode cX4_lastsFor 7 = .ok (.new 52, 3) := by decide +kernel
theorem dX4_lastsFor_10 : decode cX4_lastsFor 10 = .ok (.dup, 1) := by decide +kernel
theorem dX4_lastsFor_11 : decode cX4_lastsFor 11 = .ok (.ldc 73, 2) := by decide +kernel
theorem dX4_lastsFor_13 : decode cX4_lastsFor 13 = .ok (.invokespecial 56, 3) := by decide +kernel
theorem dX4_lastsFor_16 : decode cX4_lastsFor 16 = .ok (.athrow, 1) := by decide +kernel
theorem dX4_lastsFor_17 : decode cX4_lastsFor 17 = .ok (.aload_n 0, 1) := by decide +kernel
theorem dX4_lastsFor_18 : decode cX4_lastsFor 18 = .ok (.getfield 10, 3) := by decide +kernel
theorem dX4_lastsFor_21 : decode cX4_lastsFor 21 = .ok (.iload_n 1, 1) := by decide +kernel
theorem dX4_lastsFor_22 : decode cX4_lastsFor 22 = .ok (.invokevirtual 273, 3) := by decide +kernel
theorem dX4_lastsFor_25 : decode cX4_lastsFor 25 = .ok (.ireturn, 1) := by decide +kernel
set_option maxRecDepth 20000 in
theorem ggX4_ifGone_X4_isWithin : GoodIn wsX4_ifGone wsX4_isWithin := goodIn_r _ [12] (by decide +kernel) (by decide +kernel)
set_option maxRecDepth 20000 in
theorem gX4_ifGone_X4_isWithin : GoodIn wsX4_ifGone (va_wsS RX4 75 yX4_isWithin wsX4_isWithin) := goodIn_app (goodIn_of _ (by decide +kernel)) ggX4_ifGone_X4_isWithin
set_option maxRecDepth 20000 in
theorem ggX4_ifGone_X2_become : GoodIn wsX4_ifGone wsX2_become := goodIn_r _ [17, 18, 19, 20, 21, 22, 23, 24, 25, 26, 27, 28, 29, 30, 31, 32, 33, 34, 35, 36, 37, 38, 39, 40, 41, 42, 101, 102, 103, 104, 105, 106, 107, 108, 109, 110, 111, 112, 113, 114, 115] (by decide +kernel) (by decide +kernel)
set_option maxRecDepth 20000 in
theorem gX4_ifGone_X2_become : GoodIn wsX4_ifGone (wsV RX4 170 RX2 yX2_become wsX2_become) := goodIn_app (goodIn_of _ (by decide +kernel)) ggX4_ifGone_X2_become
set_option maxRecDepth 20000 in
theorem ggX4_ifGone_X2_run : GoodIn wsX4_ifGone wsX2_run := goodIn_r _ [46, 26, 47, 48, 49, 50, 51, 16, 52, 18, 23, 29, 53, 54, 55, 56, 57, 58, 59, 60, 25, 61, 11, 62, 63, 64, 65, 66, 67, 68, 69, 70, 24, 71, 72, 73, 74, 27, 75, 76, 77, 78, 79, 80, 81, 82, 83, 84, 85, 86, 87, 88, 33, 89, 41, 38, 40, 39, 35, 90, 91, 92, 93, 37, 42, 101, 102, 103, 104, 105, 106, 107, 108, 109, 110, 111, 112, 113, 114, 115] (by decide +kernel) (by decide +kernel)
set_option maxRecDepth 20000 in
theorem gX4_ifGone_X2_run : GoodIn wsX4_ifGone (wsV RX4 124 RX2 yX2_run wsX2_run) := goodIn_app (goodIn_of _ (by decide +kernel)) ggX4_ifGone_X2_run
theorem dX4_ifGone_0 : decode cX4_ifGone 0 = .ok (.iload_n 1, 1) := by decide +kernel
theorem dX4_ifGone_1 : decode cX4_ifGone 1 = .ok (.iconst 1, 1) := by decide +kernel
theorem dX4_ifGone_2 : decode cX4_ifGone 2 = .ok (.bipush 99, 2) := by decide +kernel
theorem dX4_ifGone_4 : decode cX4_ifGone 4 = .ok (.invokestatic 75, 3) := by decide +kernel
theorem dX4_ifGone_7 : decode cX4_ifGone 7 = .ok (.ifCond .eq 12, 3) := by decide +kernel
theorem dX4_ifGone_10 : decode cX4_ifGone 10 = .ok (.iload_n 2, 1) := by decide +kernel
theorem dX4_ifGone_11 : decode cX4_ifGone 11 = .ok (.iconst 0, 1) := by decide +kernel
theorem dX4_ifGone_12 : decode cX4_ifGone 12 = .ok (.iconst 3, 1) := by decide +kernel
theorem dX4_ifGone_13 : decode cX4_ifGone 13 = .ok (.invokestatic 75, 3) := by decide +kernel
theorem dX4_ifGone_16 : decode cX4_ifGone 16 = .ok (.ifCond .ne 14, 3) := by decide +kernel
theorem dX4_ifGone_19 : decode cX4_ifGone 19 = .ok (.new 79, 3) := by decide +kernel
theorem dX4_ifGone_22 : decode cX4_ifGone 22 = .ok (.dup, 1) := by decide +kernel
theorem dX4_ifGone_23 : decode cX4_ifGone 23 = .ok (.ldc_w 276, 3) := by decide +kernel
theorem dX4_ifGone_26 : decode cX4_ifGone 26 = .ok (.invokespecial 83, 3) := by decide +kernel
theorem dX4_ifGone_29 : decode cX4_ifGone 29 = .ok (.athrow, 1) := by decide +kernel
theorem dX4_ifGone_30 : decode cX4_ifGone 30 = .ok (.aload_n 0, 1) := by decide +kernel
theorem dX4_ifGone_31 : decode cX4_ifGone 31 = .ok (.getfield 16, 3) := by decide +kernel
theorem dX4_ifGone_34 : decode cX4_ifGone 34 = .ok (.aload_n 0, 1) := by decide +kernel
theorem dX4_ifGone_35 : decode cX4_ifGone 35 = .ok (.getfield 10, 3) := by decide +kernel
theorem dX4_ifGone_38 : decode cX4_ifGone 38 = .ok (.invokevirtual 170, 3) := by decide +kernel
theorem dX4_ifGone_41 : decode cX4_ifGone 41 = .ok (.aload_n 0, 1) := by decide +kernel
theorem dX4_ifGone_42 : decode cX4_ifGone 42 = .ok (.getfield 16, 3) := by decide +kernel
theorem dX4_ifGone_45 : decode cX4_ifGone 45 = .ok (.iload_n 1, 1) := by decide +kernel
theorem dX4_ifGone_46 : decode cX4_ifGone 46 = .ok (.invokevirtual 124, 3) := by decide +kernel
theorem dX4_ifGone_49 : decode cX4_ifGone 49 = .ok (.istore_n 3, 1) := by decide +kernel
theorem dX4_ifGone_50 : decode cX4_ifGone 50 = .ok (.iload_n 2, 1) := by decide +kernel
theorem dX4_ifGone_51 : decode cX4_ifGone 51 = .ok (.tableswitch 49 0 2 #[25, 27, 38], 25) := by decide +kernel
theorem dX4_ifGone_76 : decode cX4_ifGone 76 = .ok (.iload_n 3, 1) := by decide +kernel
theorem dX4_ifGone_77 : decode cX4_ifGone 77 = .ok (.ireturn, 1) := by decide +kernel
theorem dX4_ifGone_78 : decode cX4_ifGone 78 = .ok (.aload_n 0, 1) := by decide +kernel
theorem dX4_ifGone_79 : decode cX4_ifGone 79 = .ok (.getfield 16, 3) := by decide +kernel
theorem dX4_ifGone_82 : decode cX4_ifGone 82 = .ok (.getfield 110, 3) := by decide +kernel
theorem dX4_ifGone_85 : decode cX4_ifGone 85 = .ok (.getfield 227, 3) := by decide +kernel
theorem dX4_ifGone_88 : decode cX4_ifGone 88 = .ok (.ireturn, 1) := by decide +kernel
theorem dX4_ifGone_89 : decode cX4_ifGone 89 = .ok (.aload_n 0, 1) := by decide +kernel
theorem dX4_ifGone_90 : decode cX4_ifGone 90 = .ok (.getfield 16, 3) := by decide +kernel
theorem dX4_ifGone_93 : decode cX4_ifGone 93 = .ok (.getfield 110, 3) := by decide +kernel
theorem dX4_ifGone_96 : decode cX4_ifGone 96 = .ok (.getfield 224, 3) := by decide +kernel
theorem dX4_ifGone_99 : decode cX4_ifGone 99 = .ok (.ireturn, 1) := by decide +kernel
theorem dX4_ifGone_100 : decode cX4_ifGone 100 = .ok (.aload_n 0, 1) := by decide +kernel
theorem dX4_ifGone_101 : decode cX4_ifGone 101 = .ok (.getfield 16, 3) := by decide +kernel
theorem dX4_ifGone_104 : decode cX4_ifGone 104 = .ok (.getfield 110, 3) := by decide +kernel
theorem dX4_ifGone_107 : decode cX4_ifGone 107 = .ok (.getfield 237, 3) := by decide +kernel
theorem dX4_ifGone_110 : decode cX4_ifGone 110 = .ok (.aload_n 0, 1) := by decide +kernel
theorem dX4_ifGone_111 : decode cX4_ifGone 111 = .ok (.getfield 10, 3) := by decide +kernel
theorem dX4_ifGone_114 : decode cX4_ifGone 114 = .ok (.getfield 110, 3) := by decide +kernel
theorem dX4_ifGone_117 : decode cX4_ifGone 117 = .ok (.getfield 237, 3) := by decide +kernel
theorem dX4_ifGone_120 : decode cX4_ifGone 120 = .ok (.isub, 1) := by decide +kernel
theorem dX4_ifGone_121 : decode cX4_ifGone 121 = .ok (.ireturn, 1) := by decide +kernel
set_option maxRecDepth 20000 in
theorem ggX4_rightShare_X2_threadsRight : GoodIn wsX4_rightShare wsX2_threadsRight := goodIn_r _ [7, 8, 9, 10, 11, 6, 12, 13, 14, 15, 16, 17, 18, 19, 20, 21, 22, 23, 24, 25, 26, 27, 28, 29, 30, 38, 39, 40, 41, 42, 43, 44, 45] (by decide +kernel) (by decide +kernel)
set_option maxRecDepth 20000 in
theorem gX4_rightShare_X2_threadsRight : GoodIn wsX4_rightShare (wsV RX4 256 RX2 yX2_threadsRight wsX2_threadsRight) := goodIn_app (goodIn_of _ (by decide +kernel)) ggX4_rightShare_X2_threadsRight
theorem dX4_rightShare_0 : decode cX4_rightShare 0 = .ok (.aload_n 0, 1) := by decide +kernel
theorem dX4_rightShare_1 : decode cX4_rightShare 1 = .ok (.getfield 10, 3) := by decide +kernel
theorem dX4_rightShare_4 : decode cX4_rightShare 4 = .ok (.invokevirtual 256, 3) := by decide +kernel
theorem dX4_rightShare_7 : decode cX4_rightShare 7 = .ok (.i2d, 1) := by decide +kernel
theorem dX4_rightShare_8 : decode cX4_rightShare 8 = .ok (.ldc2_w 278, 3) := by decide +kernel
theorem dX4_rightShare_11 : decode cX4_rightShare 11 = .ok (.ddiv, 1) := by decide +kernel
theorem dX4_rightShare_12 : decode cX4_rightShare 12 = .ok (.dreturn, 1) := by decide +kernel
set_option maxRecDepth 20000 in
theorem ggX4_meanWear_X2_wearOfAll : GoodIn wsX4_meanWear wsX2_wearOfAll := goodIn_r _ [7, 8, 16, 17, 18, 19, 20, 21, 22, 23] (by decide +kernel) (by decide +kernel)
set_option maxRecDepth 20000 in
theorem gX4_meanWear_X2_wearOfAll : GoodIn wsX4_meanWear (wsV RX4 280 RX2 yX2_wearOfAll wsX2_wearOfAll) := goodIn_app (goodIn_of _ (by decide +kernel)) ggX4_meanWear_X2_wearOfAll
theorem dX4_meanWear_0 : decode cX4_meanWear 0 = .ok (.aload_n 0, 1) := by decide +kernel
theorem dX4_meanWear_1 : decode cX4_meanWear 1 = .ok (.getfield 10, 3) := by decide +kernel
theorem dX4_meanWear_4 : decode cX4_meanWear 4 = .ok (.invokevirtual 280, 3) := by decide +kernel
theorem dX4_meanWear_7 : decode cX4_meanWear 7 = .ok (.i2f, 1) := by decide +kernel
theorem dX4_meanWear_8 : decode cX4_meanWear 8 = .ok (.ldc_w 283, 3) := by decide +kernel
theorem dX4_meanWear_11 : decode cX4_meanWear 11 = .ok (.fdiv, 1) := by decide +kernel
theorem dX4_meanWear_12 : decode cX4_meanWear 12 = .ok (.freturn, 1) := by decide +kernel
set_option maxRecDepth 20000 in
theorem ggX4_digest_X4_count : GoodIn wsX4_digest wsX4_count := goodIn_ca (goodIn_r _ [10, 11, 12, 3, 13, 14, 15, 16, 17, 18, 19, 20, 21, 22, 23, 24, 25, 26, 27, 28, 29, 30, 31, 32, 33, 34, 35, 36, 37, 38, 39, 9, 40, 41, 42, 43, 44, 45, 46, 47, 48, 49, 50, 51, 52, 53, 54, 55, 56, 57, 58, 59, 60, 61, 62, 63, 64, 65, 66, 67, 68, 69, 70, 71, 72, 73, 74, 75, 76, 77, 78, 79, 80, 81, 82, 83, 84, 85, 86, 87, 88, 269, 270, 271, 272, 273, 274, 275, 276, 277, 278, 279, 280, 281, 282, 283, 284, 285, 286] (by decide +kernel) (by decide +kernel)) (goodIn_sub (fun _ h => List.mem_cons_of_mem _ (List.mem_append_left _ (List.mem_append_right _ h))) (by decide +kernel))
set_option maxRecDepth 20000 in
theorem gX4_digest_X4_count : GoodIn wsX4_digest (wsV RX4 288 RX4 yX4_count wsX4_count) := goodIn_app (goodIn_of _ (by decide +kernel)) ggX4_digest_X4_count
set_option maxRecDepth 20000 in
theorem ggX4_digest_X4_digestThreads : GoodIn wsX4_digest wsX4_digestThreads := goodIn_ca (goodIn_ca (goodIn_r _ [92, 2, 3, 93, 94, 95, 9, 96, 97, 98, 11, 12, 99, 15, 100, 101, 102, 103, 104, 105, 106, 107, 39, 40, 108, 109, 110, 21, 111, 23, 78, 79, 80, 81, 49, 74, 75, 76, 77, 45, 46, 47, 48, 50, 51, 52, 53, 54, 55, 56, 57, 58, 59, 60, 61, 62, 63, 64, 25, 26, 27, 28, 29, 30, 112, 113, 114, 115, 116, 269, 270, 271, 272, 273, 274, 275, 276, 277, 278, 279, 280, 281, 282, 283] (by decide +kernel) (by decide +kernel)) (goodIn_sub (fun _ h => List.mem_cons_of_mem _ (List.mem_append_right _ h)) (by decide +kernel))) (goodIn_sub (fun _ h => List.mem_cons_of_mem _ (List.mem_append_left _ (List.mem_append_right _ h))) (by decide +kernel))
set_option maxRecDepth 20000 in
theorem gX4_digest_X4_digestThreads : GoodIn wsX4_digest (wsV RX4 290 RX4 yX4_digestThreads wsX4_digestThreads) := goodIn_app (goodIn_of _ (by decide +kernel)) ggX4_digest_X4_digestThreads
set_option maxRecDepth 20000 in
theorem ggX4_digest_X4_digestRings : GoodIn wsX4_digest wsX4_digestRings := goodIn_ca (goodIn_ca (goodIn_r _ [120, 2, 121, 122, 123, 9, 124, 97, 98, 11, 12, 3, 125, 126, 127, 128, 104, 105, 106, 129, 36, 37, 21, 38, 23, 39, 40, 64, 25, 26, 27, 28, 29, 30, 130, 131, 132, 133, 45, 46, 47, 48, 49, 50, 51, 52, 53, 54, 55, 56, 57, 58, 59, 60, 61, 62, 63, 134, 135, 136, 137, 35, 138, 139, 140, 141, 101, 102, 103, 142, 143, 144, 145, 146, 269, 270, 271, 272, 273, 274, 275, 276, 277, 278, 279, 280, 281, 282, 283] (by decide +kernel) (by decide +kernel)) (goodIn_sub (fun _ h => List.mem_cons_of_mem _ (List.mem_append_right _ h)) (by decide +kernel))) (goodIn_sub (fun _ h => List.mem_cons_of_mem _ (List.mem_append_left _ (List.mem_append_right _ h))) (by decide +kernel))
set_option maxRecDepth 20000 in
theorem gX4_digest_X4_digestRings : GoodIn wsX4_digest (wsV RX4 294 RX4 yX4_digestRings wsX4_digestRings) := goodIn_app (goodIn_of _ (by decide +kernel)) ggX4_digest_X4_digestRings
set_option maxRecDepth 20000 in
theorem ggX4_digest_X4_digestMachine : GoodIn wsX4_digest wsX4_digestMachine := goodIn_ca (goodIn_r _ [150, 2, 3, 151, 152, 153, 154, 155, 9, 156, 11, 12, 157, 158, 159, 160, 161, 162, 269, 270, 271, 272, 273, 274, 275, 276, 277, 278, 279, 280, 281, 282, 283, 287, 288, 289, 290, 291, 292, 293] (by decide +kernel) (by decide +kernel)) (goodIn_sub (fun _ h => List.mem_cons_of_mem _ (List.mem_append_left _ (List.mem_append_right _ h))) (by decide +kernel))
set_option maxRecDepth 20000 in
theorem gX4_digest_X4_digestMachine : GoodIn wsX4_digest (wsV RX4 297 RX4 yX4_digestMachine wsX4_digestMachine) := goodIn_app (goodIn_of _ (by decide +kernel)) ggX4_digest_X4_digestMachine
set_option maxRecDepth 20000 in
theorem ggX4_digest_X4_ifGone : GoodIn wsX4_digest wsX4_ifGone := goodIn_ca (goodIn_r _ [166, 11, 12, 167, 3, 151, 158, 157, 162, 104, 105, 9, 106, 168, 169, 170, 21, 171, 23, 172, 173, 174, 175, 176, 58, 49, 177, 63, 178, 179, 180, 181, 182, 183, 184, 185, 186, 187, 188, 189, 190, 191, 192, 193, 194, 195, 196, 197, 198, 199, 200, 201, 202, 203, 75, 76, 77, 45, 46, 47, 48, 39, 40, 50, 51, 52, 53, 54, 55, 56, 57, 59, 60, 61, 62, 78, 79, 80, 81, 204, 205, 206, 207, 86, 87, 88, 208, 209, 210, 211, 212, 213, 214, 215, 269, 270, 271, 272, 273, 274, 275, 276, 277, 278, 279, 280, 281, 282, 283, 287, 288, 289, 290, 291, 292, 293] (by decide +kernel) (by decide +kernel)) (goodIn_sub (fun _ h => List.mem_cons_of_mem _ (List.mem_append_left _ (List.mem_append_right _ h))) (by decide +kernel))
set_option maxRecDepth 20000 in
theorem gX4_digest_X4_ifGone : GoodIn wsX4_digest (wsV RX4 300 RX4 yX4_ifGone wsX4_ifGone) := goodIn_app (goodIn_of _ (by decide +kernel)) ggX4_digest_X4_ifGone
set_option maxRecDepth 20000 in
theorem ggX4_digest_X4_ifLoaded : GoodIn wsX4_digest wsX4_ifLoaded := goodIn_ca (goodIn_r _ [219, 97, 98, 220, 101, 102, 9, 103, 104, 105, 106, 221, 222, 223, 224, 225, 226, 227, 228, 229, 230, 231, 232, 233, 234, 235, 236, 237, 238, 239, 240, 241, 242, 243, 244, 245, 246, 3, 247, 108, 109, 110, 21, 111, 23, 78, 79, 80, 81, 49, 64, 25, 26, 27, 28, 29, 30, 269, 270, 271, 272, 273, 274, 275, 294, 295, 296, 297, 298, 276, 277, 278, 279, 280, 281, 282, 283] (by decide +kernel) (by decide +kernel)) (goodIn_sub (fun _ h => List.mem_cons_of_mem _ (List.mem_append_right _ h)) (by decide +kernel))
set_option maxRecDepth 20000 in
theorem gX4_digest_X4_ifLoaded : GoodIn wsX4_digest (wsV RX4 303 RX4 yX4_ifLoaded wsX4_ifLoaded) := goodIn_app (goodIn_of _ (by decide +kernel)) ggX4_digest_X4_ifLoaded
set_option maxRecDepth 20000 in
theorem ggX4_digest_X4_bestPlace : GoodIn wsX4_digest wsX4_bestPlace := goodIn_r _ [251, 220, 221, 222, 223, 224, 225, 226, 227, 228, 229, 230, 231, 232, 233, 234, 235, 236, 237, 238, 239, 240, 241, 242, 243, 244, 9, 245, 246, 3, 247, 108, 109, 110, 21, 111, 23, 78, 79, 80, 81, 49, 64, 25, 26, 27, 28, 29, 30, 269, 270, 271, 272, 273, 274, 275, 294, 295, 296, 297, 298, 276, 277, 278, 279, 280, 281, 282, 283] (by decide +kernel) (by decide +kernel)
set_option maxRecDepth 20000 in
theorem gX4_digest_X4_bestPlace : GoodIn wsX4_digest (wsV RX4 306 RX4 yX4_bestPlace wsX4_bestPlace) := goodIn_app (goodIn_of _ (by decide +kernel)) ggX4_digest_X4_bestPlace
set_option maxRecDepth 20000 in
theorem ggX4_digest_X4_bestGuard : GoodIn wsX4_digest wsX4_bestGuard := goodIn_r _ [255, 167, 3, 15, 168, 169, 170, 21, 171, 23, 172, 173, 174, 175, 176, 58, 49, 177, 63, 178, 179, 180, 181, 182, 183, 184, 185, 186, 187, 188, 189, 190, 191, 192, 107, 39, 9, 40, 41, 42, 43, 44, 45, 46, 47, 48, 50, 51, 52, 53, 54, 55, 56, 57, 59, 60, 61, 62, 269, 270, 271, 272, 273, 274, 275, 276, 277, 278, 279, 280, 281, 282, 283, 287, 288, 289, 290, 291, 292, 293] (by decide +kernel) (by decide +kernel)
set_option maxRecDepth 20000 in
theorem gX4_digest_X4_bestGuard : GoodIn wsX4_digest (wsV RX4 309 RX4 yX4_bestGuard wsX4_bestGuard) := goodIn_app (goodIn_of _ (by decide +kernel)) ggX4_digest_X4_bestGuard
set_option maxRecDepth 20000 in
theorem ggX4_digest_X2_threadsRight : GoodIn wsX4_digest wsX2_threadsRight := goodIn_r _ [44, 23, 45, 46, 47, 21, 48, 49, 39, 9, 40, 50, 51, 52, 53, 54, 55, 56, 57, 58, 59, 60, 61, 62, 63, 276, 277, 278, 279, 280, 281, 282, 283] (by decide +kernel) (by decide +kernel)
set_option maxRecDepth 20000 in
theorem gX4_digest_X2_threadsRight : GoodIn wsX4_digest (wsV RX4 256 RX2 yX2_threadsRight wsX2_threadsRight) := goodIn_app (goodIn_of _ (by decide +kernel)) ggX4_digest_X2_threadsRight
set_option maxRecDepth 20000 in
theorem ggX4_digest_X4_bitsOfShare : GoodIn wsX4_digest wsX4_bitsOfShare := goodIn_r _ [258, 107, 39, 9, 40] (by decide +kernel) (by decide +kernel)
set_option maxRecDepth 20000 in
theorem gX4_digest_X4_bitsOfShare : GoodIn wsX4_digest (va_wsS RX4 312 yX4_bitsOfShare wsX4_bitsOfShare) := goodIn_app (goodIn_of _ (by decide +kernel)) ggX4_digest_X4_bitsOfShare
set_option maxRecDepth 20000 in
theorem ggX4_digest_X2_wearOfAll : GoodIn wsX4_digest wsX2_wearOfAll := goodIn_r _ [262, 58, 276, 277, 278, 279, 280, 281, 282, 283] (by decide +kernel) (by decide +kernel)
set_option maxRecDepth 20000 in
theorem gX4_digest_X2_wearOfAll : GoodIn wsX4_digest (wsV RX4 280 RX2 yX2_wearOfAll wsX2_wearOfAll) := goodIn_app (goodIn_of _ (by decide +kernel)) ggX4_digest_X2_wearOfAll
set_option maxRecDepth 20000 in
theorem ggX4_digest_X4_digestBuffer : GoodIn wsX4_digest wsX4_digestBuffer := goodIn_r _ [266, 2, 220, 267, 268, 269, 270, 271, 272, 273, 274, 275, 294, 295, 296, 297, 298] (by decide +kernel) (by decide +kernel)
set_option maxRecDepth 20000 in
theorem gX4_digest_X4_digestBuffer : GoodIn wsX4_digest (wsV RX4 316 RX4 yX4_digestBuffer wsX4_digestBuffer) := goodIn_app (goodIn_of _ (by decide +kernel)) ggX4_digest_X4_digestBuffer
theorem dX4_digest_0 : decode cX4_digest 0 = .ok (.ldc2_w 284, 3) := by decide +kernel
theorem dX4_digest_3 : decode cX4_digest 3 = .ok (.lstore_n 1, 1) := by decide +kernel
theorem dX4_digest_4 : decode cX4_digest 4 = .ok (.iconst 0, 1) := by decide +kernel
theorem dX4_digest_5 : decode cX4_digest 5 = .ok (.istore_n 3, 1) := by decide +kernel
theorem dX4_digest_6 : decode cX4_digest 6 = .ok (.iload_n 3, 1) := by decide +kernel
theorem dX4_digest_7 : decode cX4_digest 7 = .ok (.bipush 9, 2) := by decide +kernel
theorem dX4_digest_9 : decode cX4_digest 9 = .ok (.if_icmp .gt 22, 3) := by decide +kernel
theorem dX4_digest_12 : decode cX4_digest 12 = .ok (.ldc2_w 286, 3) := by decide +kernel
theorem dX4_digest_15 : decode cX4_digest 15 = .ok (.lload_n 1, 1) := by decide +kernel
theorem dX4_digest_16 : decode cX4_digest 16 = .ok (.lmul, 1) := by decide +kernel
theorem dX4_digest_17 : decode cX4_digest 17 = .ok (.aload_n 0, 1) := by decide +kernel
theorem dX4_digest_18 : decode cX4_digest 18 = .ok (.iload_n 3, 1) := by decide +kernel
theorem dX4_digest_19 : decode cX4_digest 19 = .ok (.invokevirtual 288, 3) := by decide +kernel
theorem dX4_digest_22 : decode cX4_digest 22 = .ok (.i2l, 1) := by decide +kernel
theorem dX4_digest_23 : decode cX4_digest 23 = .ok (.ladd, 1) := by decide +kernel
theorem dX4_digest_24 : decode cX4_digest 24 = .ok (.lstore_n 1, 1) := by decide +kernel
theorem dX4_digest_25 : decode cX4_digest 25 = .ok (.iinc 3 1, 3) := by decide +kernel
theorem dX4_digest_28 : decode cX4_digest 28 = .ok (.goto (-22), 3) := by decide +kernel
theorem dX4_digest_31 : decode cX4_digest 31 = .ok (.iconst 0, 1) := by decide +kernel
theorem dX4_digest_32 : decode cX4_digest 32 = .ok (.istore_n 3, 1) := by decide +kernel
theorem dX4_digest_33 : decode cX4_digest 33 = .ok (.iload_n 3, 1) := by decide +kernel
theorem dX4_digest_34 : decode cX4_digest 34 = .ok (.iconst 2, 1) := by decide +kernel
theorem dX4_digest_35 : decode cX4_digest 35 = .ok (.if_icmp .ge 26, 3) := by decide +kernel
theorem dX4_digest_38 : decode cX4_digest 38 = .ok (.ldc2_w 286, 3) := by decide +kernel
theorem dX4_digest_41 : decode cX4_digest 41 = .ok (.lload_n 1, 1) := by decide +kernel
theorem dX4_digest_42 : decode cX4_digest 42 = .ok (.lmul, 1) := by decide +kernel
theorem dX4_digest_43 : decode cX4_digest 43 = .ok (.aload_n 0, 1) := by decide +kernel
theorem dX4_digest_44 : decode cX4_digest 44 = .ok (.getfield 10, 3) := by decide +kernel
theorem dX4_digest_47 : decode cX4_digest 47 = .ok (.getfield 104, 3) := by decide +kernel
theorem dX4_digest_50 : decode cX4_digest 50 = .ok (.iload_n 3, 1) := by decide +kernel
theorem dX4_digest_51 : decode cX4_digest 51 = .ok (.iaload, 1) := by decide +kernel
theorem dX4_digest_52 : decode cX4_digest 52 = .ok (.i2l, 1) := by decide +kernel
theorem dX4_digest_53 : decode cX4_digest 53 = .ok (.ladd, 1) := by decide +kernel
theorem dX4_digest_54 : decode cX4_digest 54 = .ok (.lstore_n 1, 1) := by decide +kernel
theorem dX4_digest_55 : decode cX4_digest 55 = .ok (.iinc 3 1, 3) := by decide +kernel
theorem dX4_digest_58 : decode cX4_digest 58 = .ok (.goto (-25), 3) := by decide +kernel
theorem dX4_digest_61 : decode cX4_digest 61 = .ok (.aload_n 0, 1) := by decide +kernel
theorem dX4_digest_62 : decode cX4_digest 62 = .ok (.aload_n 0, 1) := by decide +kernel
theorem dX4_digest_63 : decode cX4_digest 63 = .ok (.aload_n 0, 1) := by decide +kernel
theorem dX4_digest_64 : decode cX4_digest 64 = .ok (.lload_n 1, 1) := by decide +kernel
theorem dX4_digest_65 : decode cX4_digest 65 = .ok (.invokevirtual 290, 3) := by decide +kernel
theorem dX4_digest_68 : decode cX4_digest 68 = .ok (.invokevirtual 294, 3) := by decide +kernel
theorem dX4_digest_71 : decode cX4_digest 71 = .ok (.invokevirtual 297, 3) := by decide +kernel
theorem dX4_digest_74 : decode cX4_digest 74 = .ok (.lstore_n 1, 1) := by decide +kernel
theorem dX4_digest_75 : decode cX4_digest 75 = .ok (.iconst 0, 1) := by decide +kernel
theorem dX4_digest_76 : decode cX4_digest 76 = .ok (.istore_n 3, 1) := by decide +kernel
theorem dX4_digest_77 : decode cX4_digest 77 = .ok (.iload_n 3, 1) := by decide +kernel
theorem dX4_digest_78 : decode cX4_digest 78 = .ok (.iconst 3, 1) := by decide +kernel
theorem dX4_digest_79 : decode cX4_digest 79 = .ok (.if_icmp .gt 24, 3) := by decide +kernel
theorem dX4_digest_82 : decode cX4_digest 82 = .ok (.ldc2_w 286, 3) := by decide +kernel
theorem dX4_digest_85 : decode cX4_digest 85 = .ok (.lload_n 1, 1) := by decide +kernel
theorem dX4_digest_86 : decode cX4_digest 86 = .ok (.lmul, 1) := by decide +kernel
theorem dX4_digest_87 : decode cX4_digest 87 = .ok (.aload_n 0, 1) := by decide +kernel
theorem dX4_digest_88 : decode cX4_digest 88 = .ok (.bipush 20, 2) := by decide +kernel
theorem dX4_digest_90 : decode cX4_digest 90 = .ok (.iload_n 3, 1) := by decide +kernel
theorem dX4_digest_91 : decode cX4_digest 91 = .ok (.invokevirtual 300, 3) := by decide +kernel
theorem dX4_digest_94 : decode cX4_digest 94 = .ok (.i2l, 1) := by decide +kernel
theorem dX4_digest_95 : decode cX4_digest 95 = .ok (.ladd, 1) := by decide +kernel
theorem dX4_digest_96 : decode cX4_digest 96 = .ok (.lstore_n 1, 1) := by decide +kernel
theorem dX4_digest_97 : decode cX4_digest 97 = .ok (.iinc 3 1, 3) := by decide +kernel
theorem dX4_digest_100 : decode cX4_digest 100 = .ok (.goto (-23), 3) := by decide +kernel
theorem dX4_digest_103 : decode cX4_digest 103 = .ok (.ldc2_w 286, 3) := by decide +kernel
theorem dX4_digest_106 : decode cX4_digest 106 = .ok (.lload_n 1, 1) := by decide +kernel
theorem dX4_digest_107 : decode cX4_digest 107 = .ok (.lmul, 1) := by decide +kernel
theorem dX4_digest_108 : decode cX4_digest 108 = .ok (.aload_n 0, 1) := by decide +kernel
theorem dX4_digest_109 : decode cX4_digest 109 = .ok (.iconst 0, 1) := by decide +kernel
theorem dX4_digest_110 : decode cX4_digest 110 = .ok (.invokevirtual 303, 3) := by decide +kernel
theorem dX4_digest_113 : decode cX4_digest 113 = .ok (.i2l, 1) := by decide +kernel
theorem dX4_digest_114 : decode cX4_digest 114 = .ok (.ladd, 1) := by decide +kernel
theorem dX4_digest_115 : decode cX4_digest 115 = .ok (.lstore_n 1, 1) := by decide +kernel
theorem dX4_digest_116 : decode cX4_digest 116 = .ok (.ldc2_w 286, 3) := by decide +kernel
theorem dX4_digest_119 : decode cX4_digest 119 = .ok (.lload_n 1, 1) := by decide +kernel
theorem dX4_digest_120 : decode cX4_digest 120 = .ok (.lmul, 1) := by decide +kernel
theorem dX4_digest_121 : decode cX4_digest 121 = .ok (.aload_n 0, 1) := by decide +kernel
theorem dX4_digest_122 : decode cX4_digest 122 = .ok (.invokevirtual 306, 3) := by decide +kernel
theorem dX4_digest_125 : decode cX4_digest 125 = .ok (.i2l, 1) := by decide +kernel
theorem dX4_digest_126 : decode cX4_digest 126 = .ok (.ladd, 1) := by decide +kernel
theorem dX4_digest_127 : decode cX4_digest 127 = .ok (.lstore_n 1, 1) := by decide +kernel
theorem dX4_digest_128 : decode cX4_digest 128 = .ok (.ldc2_w 286, 3) := by decide +kernel
theorem dX4_digest_131 : decode cX4_digest 131 = .ok (.lload_n 1, 1) := by decide +kernel
theorem dX4_digest_132 : decode cX4_digest 132 = .ok (.lmul, 1) := by decide +kernel
theorem dX4_digest_133 : decode cX4_digest 133 = .ok (.aload_n 0, 1) := by decide +kernel
theorem dX4_digest_134 : decode cX4_digest 134 = .ok (.invokevirtual 309, 3) := by decide +kernel
theorem dX4_digest_137 : decode cX4_digest 137 = .ok (.i2l, 1) := by decide +kernel
theorem dX4_digest_138 : decode cX4_digest 138 = .ok (.ladd, 1) := by decide +kernel
theorem dX4_digest_139 : decode cX4_digest 139 = .ok (.lstore_n 1, 1) := by decide +kernel
theorem dX4_digest_140 : decode cX4_digest 140 = .ok (.ldc2_w 286, 3) := by decide +kernel
theorem dX4_digest_143 : decode cX4_digest 143 = .ok (.lload_n 1, 1) := by decide +kernel
theorem dX4_digest_144 : decode cX4_digest 144 = .ok (.lmul, 1) := by decide +kernel
theorem dX4_digest_145 : decode cX4_digest 145 = .ok (.aload_n 0, 1) := by decide +kernel
theorem dX4_digest_146 : decode cX4_digest 146 = .ok (.getfield 10, 3) := by decide +kernel
theorem dX4_digest_149 : decode cX4_digest 149 = .ok (.invokevirtual 256, 3) := by decide +kernel
theorem dX4_digest_152 : decode cX4_digest 152 = .ok (.iconst 4, 1) := by decide +kernel
theorem dX4_digest_153 : decode cX4_digest 153 = .ok (.bipush 52, 2) := by decide +kernel
theorem dX4_digest_155 : decode cX4_digest 155 = .ok (.sipush 1023, 3) := by decide +kernel
theorem dX4_digest_158 : decode cX4_digest 158 = .ok (.invokestatic 312, 3) := by decide +kernel
theorem dX4_digest_161 : decode cX4_digest 161 = .ok (.ladd, 1) := by decide +kernel
theorem dX4_digest_162 : decode cX4_digest 162 = .ok (.lstore_n 1, 1) := by decide +kernel
theorem dX4_digest_163 : decode cX4_digest 163 = .ok (.ldc2_w 286, 3) := by decide +kernel
theorem dX4_digest_166 : decode cX4_digest 166 = .ok (.lload_n 1, 1) := by decide +kernel
theorem dX4_digest_167 : decode cX4_digest 167 = .ok (.lmul, 1) := by decide +kernel
theorem dX4_digest_168 : decode cX4_digest 168 = .ok (.aload_n 0, 1) := by decide +kernel
theorem dX4_digest_169 : decode cX4_digest 169 = .ok (.getfield 10, 3) := by decide +kernel
theorem dX4_digest_172 : decode cX4_digest 172 = .ok (.invokevirtual 280, 3) := by decide +kernel
theorem dX4_digest_175 : decode cX4_digest 175 = .ok (.iconst 3, 1) := by decide +kernel
theorem dX4_digest_176 : decode cX4_digest 176 = .ok (.bipush 23, 2) := by decide +kernel
theorem dX4_digest_178 : decode cX4_digest 178 = .ok (.bipush 127, 2) := by decide +kernel
theorem dX4_digest_180 : decode cX4_digest 180 = .ok (.invokestatic 312, 3) := by decide +kernel
theorem dX4_digest_183 : decode cX4_digest 183 = .ok (.ladd, 1) := by decide +kernel
theorem dX4_digest_184 : decode cX4_digest 184 = .ok (.lstore_n 1, 1) := by decide +kernel
theorem dX4_digest_185 : decode cX4_digest 185 = .ok (.iconst 0, 1) := by decide +kernel
theorem dX4_digest_186 : decode cX4_digest 186 = .ok (.istore_n 3, 1) := by decide +kernel
theorem dX4_digest_187 : decode cX4_digest 187 = .ok (.iload_n 3, 1) := by decide +kernel
theorem dX4_digest_188 : decode cX4_digest 188 = .ok (.iconst 2, 1) := by decide +kernel
theorem dX4_digest_189 : decode cX4_digest 189 = .ok (.if_icmp .ge 31, 3) := by decide +kernel
theorem dX4_digest_192 : decode cX4_digest 192 = .ok (.ldc2_w 286, 3) := by decide +kernel
theorem dX4_digest_195 : decode cX4_digest 195 = .ok (.lload_n 1, 1) := by decide +kernel
theorem dX4_digest_196 : decode cX4_digest 196 = .ok (.lmul, 1) := by decide +kernel
theorem dX4_digest_197 : decode cX4_digest 197 = .ok (.aload_n 0, 1) := by decide +kernel
theorem dX4_digest_198 : decode cX4_digest 198 = .ok (.getfield 30, 3) := by decide +kernel
theorem dX4_digest_201 : decode cX4_digest 201 = .ok (.iload_n 3, 1) := by decide +kernel
theorem dX4_digest_202 : decode cX4_digest 202 = .ok (.baload, 1) := by decide +kernel
theorem dX4_digest_203 : decode cX4_digest 203 = .ok (.ifCond .eq 7, 3) := by decide +kernel
theorem dX4_digest_206 : decode cX4_digest 206 = .ok (.iconst 1, 1) := by decide +kernel
theorem dX4_digest_207 : decode cX4_digest 207 = .ok (.goto 4, 3) := by decide +kernel
theorem dX4_digest_210 : decode cX4_digest 210 = .ok (.iconst 0, 1) := by decide +kernel
theorem dX4_digest_211 : decode cX4_digest 211 = .ok (.i2l, 1) := by decide +kernel
theorem dX4_digest_212 : decode cX4_digest 212 = .ok (.ladd, 1) := by decide +kernel
theorem dX4_digest_213 : decode cX4_digest 213 = .ok (.lstore_n 1, 1) := by decide +kernel
theorem dX4_digest_214 : decode cX4_digest 214 = .ok (.iinc 3 1, 3) := by decide +kernel
theorem dX4_digest_217 : decode cX4_digest 217 = .ok (.goto (-30), 3) := by decide +kernel
theorem dX4_digest_220 : decode cX4_digest 220 = .ok (.aload_n 0, 1) := by decide +kernel
theorem dX4_digest_221 : decode cX4_digest 221 = .ok (.lload_n 1, 1) := by decide +kernel
theorem dX4_digest_222 : decode cX4_digest 222 = .ok (.invokevirtual 316, 3) := by decide +kernel
theorem dX4_digest_225 : decode cX4_digest 225 = .ok (.lreturn, 1) := by decide +kernel
set_option maxRecDepth 20000 in
theorem ggX4_digestThreads_X4_threadOf : GoodIn wsX4_digestThreads wsX4_threadOf := goodIn_ca (goodIn_ca (goodIn_r _ [7, 8, 9, 10, 11, 2, 12, 13, 14, 15, 16, 6, 17, 18, 19, 20, 21, 22, 23, 24, 25, 26, 27, 28, 29, 30, 31, 32, 33, 34, 35, 36, 37, 38, 39, 40, 41, 42, 43, 44, 45, 46, 47, 48, 49, 50, 51, 52, 53, 54, 55, 56, 57, 58, 59, 60, 61, 62, 63, 64, 69, 70, 71, 72, 73, 74, 75, 76, 77, 78, 79, 80, 81, 82, 83] (by decide +kernel) (by decide +kernel)) (goodIn_sub (fun _ h => List.mem_cons_of_mem _ (List.mem_append_left _ (List.mem_append_right _ h))) (by decide +kernel))) (goodIn_sub (fun _ h => List.mem_cons_of_mem _ (List.mem_append_right _ h)) (by decide +kernel))
set_option maxRecDepth 20000 in
theorem gX4_digestThreads_X4_threadOf : GoodIn wsX4_digestThreads (wsV RX4 319 RX4 yX4_threadOf wsX4_threadOf) := goodIn_app (goodIn_of _ (by decide +kernel)) ggX4_digestThreads_X4_threadOf
set_option maxRecDepth 20000 in
theorem ggX4_digestThreads_X2_readingsUntilChange : GoodIn wsX4_digestThreads wsX2_readingsUntilChange := goodIn_r _ [68, 34, 51, 29, 22, 6, 23, 76, 77, 78, 79, 80, 81, 82, 83] (by decide +kernel) (by decide +kernel)
set_option maxRecDepth 20000 in
theorem gX4_digestThreads_X2_readingsUntilChange : GoodIn wsX4_digestThreads (wsV RX4 273 RX2 yX2_readingsUntilChange wsX2_readingsUntilChange) := goodIn_app (goodIn_of _ (by decide +kernel)) ggX4_digestThreads_X2_readingsUntilChange
theorem dX4_digestThreads_0 : decode cX4_digestThreads 0 = .ok (.lload_n 1, 1) := by decide +kernel
theorem dX4_digestThreads_1 : decode cX4_digestThreads 1 = .ok (.lstore_n 3, 1) := by decide +kernel
theorem dX4_digestThreads_2 : decode cX4_digestThreads 2 = .ok (.iconst 0, 1) := by decide +kernel
theorem dX4_digestThreads_3 : decode cX4_digestThreads 3 = .ok (.istore 5, 2) := by decide +kernel
theorem dX4_digestThreads_5 : decode cX4_digestThreads 5 = .ok (.iload 5, 2) := by decide +kernel
theorem dX4_digestThreads_7 : decode cX4_digestThreads 7 = .ok (.bipush 16, 2) := by decide +kernel
theorem dX4_digestThreads_9 : decode cX4_digestThreads 9 = .ok (.if_icmp .ge 58, 3) := by decide +kernel
theorem dX4_digestThreads_12 : decode cX4_digestThreads 12 = .ok (.iconst 0, 1) := by decide +kernel
theorem dX4_digestThreads_13 : decode cX4_digestThreads 13 = .ok (.istore 6, 2) := by decide +kernel
theorem dX4_digestThreads_15 : decode cX4_digestThreads 15 = .ok (.iload 6, 2) := by decide +kernel
theorem dX4_digestThreads_17 : decode cX4_digestThreads 17 = .ok (.bipush 7, 2) := by decide +kernel
theorem dX4_digestThreads_19 : decode cX4_digestThreads 19 = .ok (.if_icmp .gt 25, 3) := by decide +kernel
theorem dX4_digestThreads_22 : decode cX4_digestThreads 22 = .ok (.ldc2_w 286, 3) := by decide +kernel
theorem dX4_digestThreads_25 : decode cX4_digestThreads 25 = .ok (.lload_n 3, 1) := by decide +kernel
theorem dX4_digestThreads_26 : decode cX4_digestThreads 26 = .ok (.lmul, 1) := by decide +kernel
theorem dX4_digestThreads_27 : decode cX4_digestThreads 27 = .ok (.aload_n 0, 1) := by decide +kernel
theorem dX4_digestThreads_28 : decode cX4_digestThreads 28 = .ok (.iload 5, 2) := by decide +kernel
theorem dX4_digestThreads_30 : decode cX4_digestThreads 30 = .ok (.iload 6, 2) := by decide +kernel
theorem dX4_digestThreads_32 : decode cX4_digestThreads 32 = .ok (.invokevirtual 319, 3) := by decide +kernel
theorem dX4_digestThreads_35 : decode cX4_digestThreads 35 = .ok (.i2l, 1) := by decide +kernel
theorem dX4_digestThreads_36 : decode cX4_digestThreads 36 = .ok (.ladd, 1) := by decide +kernel
theorem dX4_digestThreads_37 : decode cX4_digestThreads 37 = .ok (.lstore_n 3, 1) := by decide +kernel
theorem dX4_digestThreads_38 : decode cX4_digestThreads 38 = .ok (.iinc 6 1, 3) := by decide +kernel
theorem dX4_digestThreads_41 : decode cX4_digestThreads 41 = .ok (.goto (-26), 3) := by decide +kernel
theorem dX4_digestThreads_44 : decode cX4_digestThreads 44 = .ok (.ldc2_w 286, 3) := by decide +kernel
theorem dX4_digestThreads_47 : decode cX4_digestThreads 47 = .ok (.lload_n 3, 1) := by decide +kernel
theorem dX4_digestThreads_48 : decode cX4_digestThreads 48 = .ok (.lmul, 1) := by decide +kernel
theorem dX4_digestThreads_49 : decode cX4_digestThreads 49 = .ok (.aload_n 0, 1) := by decide +kernel
theorem dX4_digestThreads_50 : decode cX4_digestThreads 50 = .ok (.getfield 10, 3) := by decide +kernel
theorem dX4_digestThreads_53 : decode cX4_digestThreads 53 = .ok (.iload 5, 2) := by decide +kernel
theorem dX4_digestThreads_55 : decode cX4_digestThreads 55 = .ok (.invokevirtual 273, 3) := by decide +kernel
theorem dX4_digestThreads_58 : decode cX4_digestThreads 58 = .ok (.i2l, 1) := by decide +kernel
theorem dX4_digestThreads_59 : decode cX4_digestThreads 59 = .ok (.ladd, 1) := by decide +kernel
theorem dX4_digestThreads_60 : decode cX4_digestThreads 60 = .ok (.lstore_n 3, 1) := by decide +kernel
theorem dX4_digestThreads_61 : decode cX4_digestThreads 61 = .ok (.iinc 5 1, 3) := by decide +kernel
theorem dX4_digestThreads_64 : decode cX4_digestThreads 64 = .ok (.goto (-59), 3) := by decide +kernel
theorem dX4_digestThreads_67 : decode cX4_digestThreads 67 = .ok (.lload_n 3, 1) := by decide +kernel
theorem dX4_digestThreads_68 : decode cX4_digestThreads 68 = .ok (.lreturn, 1) := by decide +kernel
set_option maxRecDepth 20000 in
theorem ggX4_digestRings_X4_ringOf : GoodIn wsX4_digestRings wsX4_ringOf := goodIn_ca (goodIn_ca (goodIn_r _ [6, 7, 8, 9, 10, 11, 12, 13, 14, 5, 15, 16, 17, 18, 19, 20, 21, 22, 23, 24, 25, 26, 27, 28, 29, 30, 31, 32, 33, 34, 35, 36, 37, 38, 39, 40, 41, 42, 43, 44, 45, 46, 47, 48, 49, 50, 51, 52, 53, 54, 55, 56, 57, 58, 59, 60, 61, 74, 75, 76, 77, 78, 79, 80, 81, 82, 83, 84, 85, 86, 87, 88] (by decide +kernel) (by decide +kernel)) (goodIn_sub (fun _ h => List.mem_cons_of_mem _ (List.mem_append_left _ (List.mem_append_right _ h))) (by decide +kernel))) (goodIn_sub (fun _ h => List.mem_cons_of_mem _ (List.mem_append_right _ h)) (by decide +kernel))
set_option maxRecDepth 20000 in
theorem gX4_digestRings_X4_ringOf : GoodIn wsX4_digestRings (wsV RX4 322 RX4 yX4_ringOf wsX4_ringOf) := goodIn_app (goodIn_of _ (by decide +kernel)) ggX4_digestRings_X4_ringOf
set_option maxRecDepth 20000 in
theorem ggX4_digestRings_X4_strength : GoodIn wsX4_digestRings wsX4_strength := goodIn_ca (goodIn_ca (goodIn_r _ [65, 7, 8, 9, 10, 11, 66, 67, 5, 68, 16, 17, 18, 13, 14, 15, 69, 70, 71, 22, 72, 24, 25, 26, 52, 53, 54, 55, 56, 73, 44, 45, 46, 47, 48, 49, 50, 51, 74, 75, 76, 77, 78, 79, 80, 81, 82, 83, 84, 85, 86, 87, 88] (by decide +kernel) (by decide +kernel)) (goodIn_sub (fun _ h => List.mem_cons_of_mem _ (List.mem_append_left _ (List.mem_append_right _ h))) (by decide +kernel))) (goodIn_sub (fun _ h => List.mem_cons_of_mem _ (List.mem_append_right _ h)) (by decide +kernel))
set_option maxRecDepth 20000 in
theorem gX4_digestRings_X4_strength : GoodIn wsX4_digestRings (wsV RX4 325 RX4 yX4_strength wsX4_strength) := goodIn_app (goodIn_of _ (by decide +kernel)) ggX4_digestRings_X4_strength
theorem dX4_digestRings_0 : decode cX4_digestRings 0 = .ok (.lload_n 1, 1) := by decide +kernel
theorem dX4_digestRings_1 : decode cX4_digestRings 1 = .ok (.lstore_n 3, 1) := by decide +kernel
theorem dX4_digestRings_2 : decode cX4_digestRings 2 = .ok (.iconst 0, 1) := by decide +kernel
theorem dX4_digestRings_3 : decode cX4_digestRings 3 = .ok (.istore 5, 2) := by decide +kernel
theorem dX4_digestRings_5 : decode cX4_digestRings 5 = .ok (.iload 5, 2) := by decide +kernel
theorem dX4_digestRings_7 : decode cX4_digestRings 7 = .ok (.bipush 8, 2) := by decide +kernel
theorem dX4_digestRings_9 : decode cX4_digestRings 9 = .ok (.if_icmp .ge 40, 3) := by decide +kernel
theorem dX4_digestRings_12 : decode cX4_digestRings 12 = .ok (.iconst 0, 1) := by decide +kernel
theorem dX4_digestRings_13 : decode cX4_digestRings 13 = .ok (.istore 6, 2) := by decide +kernel
theorem dX4_digestRings_15 : decode cX4_digestRings 15 = .ok (.iload 6, 2) := by decide +kernel
theorem dX4_digestRings_17 : decode cX4_digestRings 17 = .ok (.iconst 4, 1) := by decide +kernel
theorem dX4_digestRings_18 : decode cX4_digestRings 18 = .ok (.if_icmp .gt 25, 3) := by decide +kernel
theorem dX4_digestRings_21 : decode cX4_digestRings 21 = .ok (.ldc2_w 286, 3) := by decide +kernel
theorem dX4_digestRings_24 : decode cX4_digestRings 24 = .ok (.lload_n 3, 1) := by decide +kernel
theorem dX4_digestRings_25 : decode cX4_digestRings 25 = .ok (.lmul, 1) := by decide +kernel
theorem dX4_digestRings_26 : decode cX4_digestRings 26 = .ok (.aload_n 0, 1) := by decide +kernel
theorem dX4_digestRings_27 : decode cX4_digestRings 27 = .ok (.iload 5, 2) := by decide +kernel
theorem dX4_digestRings_29 : decode cX4_digestRings 29 = .ok (.iload 6, 2) := by decide +kernel
theorem dX4_digestRings_31 : decode cX4_digestRings 31 = .ok (.invokevirtual 322, 3) := by decide +kernel
theorem dX4_digestRings_34 : decode cX4_digestRings 34 = .ok (.i2l, 1) := by decide +kernel
theorem dX4_digestRings_35 : decode cX4_digestRings 35 = .ok (.ladd, 1) := by decide +kernel
theorem dX4_digestRings_36 : decode cX4_digestRings 36 = .ok (.lstore_n 3, 1) := by decide +kernel
theorem dX4_digestRings_37 : decode cX4_digestRings 37 = .ok (.iinc 6 1, 3) := by decide +kernel
theorem dX4_digestRings_40 : decode cX4_digestRings 40 = .ok (.goto (-25), 3) := by decide +kernel
theorem dX4_digestRings_43 : decode cX4_digestRings 43 = .ok (.iinc 5 1, 3) := by decide +kernel
theorem dX4_digestRings_46 : decode cX4_digestRings 46 = .ok (.goto (-41), 3) := by decide +kernel
theorem dX4_digestRings_49 : decode cX4_digestRings 49 = .ok (.iconst 0, 1) := by decide +kernel
theorem dX4_digestRings_50 : decode cX4_digestRings 50 = .ok (.istore 5, 2) := by decide +kernel
theorem dX4_digestRings_52 : decode cX4_digestRings 52 = .ok (.iload 5, 2) := by decide +kernel
theorem dX4_digestRings_54 : decode cX4_digestRings 54 = .ok (.iconst 1, 1) := by decide +kernel
theorem dX4_digestRings_55 : decode cX4_digestRings 55 = .ok (.if_icmp .gt 42, 3) := by decide +kernel
theorem dX4_digestRings_58 : decode cX4_digestRings 58 = .ok (.iconst 0, 1) := by decide +kernel
theorem dX4_digestRings_59 : decode cX4_digestRings 59 = .ok (.istore 6, 2) := by decide +kernel
theorem dX4_digestRings_61 : decode cX4_digestRings 61 = .ok (.iload 6, 2) := by decide +kernel
theorem dX4_digestRings_63 : decode cX4_digestRings 63 = .ok (.bipush 8, 2) := by decide +kernel
theorem dX4_digestRings_65 : decode cX4_digestRings 65 = .ok (.if_icmp .ge 26, 3) := by decide +kernel
theorem dX4_digestRings_68 : decode cX4_digestRings 68 = .ok (.ldc2_w 286, 3) := by decide +kernel
theorem dX4_digestRings_71 : decode cX4_digestRings 71 = .ok (.lload_n 3, 1) := by decide +kernel
theorem dX4_digestRings_72 : decode cX4_digestRings 72 = .ok (.lmul, 1) := by decide +kernel
theorem dX4_digestRings_73 : decode cX4_digestRings 73 = .ok (.aload_n 0, 1) := by decide +kernel
theorem dX4_digestRings_74 : decode cX4_digestRings 74 = .ok (.iload 5, 2) := by decide +kernel
theorem dX4_digestRings_76 : decode cX4_digestRings 76 = .ok (.iload 6, 2) := by decide +kernel
theorem dX4_digestRings_78 : decode cX4_digestRings 78 = .ok (.iconst 0, 1) := by decide +kernel
theorem dX4_digestRings_79 : decode cX4_digestRings 79 = .ok (.invokevirtual 325, 3) := by decide +kernel
theorem dX4_digestRings_82 : decode cX4_digestRings 82 = .ok (.i2l, 1) := by decide +kernel
theorem dX4_digestRings_83 : decode cX4_digestRings 83 = .ok (.ladd, 1) := by decide +kernel
theorem dX4_digestRings_84 : decode cX4_digestRings 84 = .ok (.lstore_n 3, 1) := by decide +kernel
theorem dX4_digestRings_85 : decode cX4_digestRings 85 = .ok (.iinc 6 1, 3) := by decide +kernel
theorem dX4_digestRings_88 : decode cX4_digestRings 88 = .ok (.goto (-27), 3) := by decide +kernel
theorem dX4_digestRings_91 : decode cX4_digestRings 91 = .ok (.iinc 5 1, 3) := by decide +kernel
theorem dX4_digestRings_94 : decode cX4_digestRings 94 = .ok (.goto (-42), 3) := by decide +kernel
theorem dX4_digestRings_97 : decode cX4_digestRings 97 = .ok (.lload_n 3, 1) := by decide +kernel
theorem dX4_digestRings_98 : decode cX4_digestRings 98 = .ok (.lreturn, 1) := by decide +kernel
set_option maxRecDepth 20000 in
theorem ggX4_digestMachine_X4_machine : GoodIn wsX4_digestMachine wsX4_machine := goodIn_ca (goodIn_r _ [9, 10, 11, 2, 3, 12, 13, 14, 15, 16, 17, 18, 19, 20, 21, 22, 23, 24, 25, 26, 27, 28, 29, 30, 31, 32, 33, 34, 35, 36, 37, 38, 39] (by decide +kernel) (by decide +kernel)) (goodIn_sub (fun _ h => List.mem_cons_of_mem _ (List.mem_append_right _ h)) (by decide +kernel))
set_option maxRecDepth 20000 in
theorem gX4_digestMachine_X4_machine : GoodIn wsX4_digestMachine (wsV RX4 329 RX4 yX4_machine wsX4_machine) := goodIn_app (goodIn_of _ (by decide +kernel)) ggX4_digestMachine_X4_machine
theorem dX4_digestMachine_0 : decode cX4_digestMachine 0 = .ok (.lload_n 1, 1) := by decide +kernel
theorem dX4_digestMachine_1 : decode cX4_digestMachine 1 = .ok (.lstore_n 3, 1) := by decide +kernel
theorem dX4_digestMachine_2 : decode cX4_digestMachine 2 = .ok (.iconst 0, 1) := by decide +kernel
theorem dX4_digestMachine_3 : decode cX4_digestMachine 3 = .ok (.istore 5, 2) := by decide +kernel
theorem dX4_digestMachine_5 : decode cX4_digestMachine 5 = .ok (.iload 5, 2) := by decide +kernel
theorem dX4_digestMachine_7 : decode cX4_digestMachine 7 = .ok (.bipush 8, 2) := by decide +kernel
theorem dX4_digestMachine_9 : decode cX4_digestMachine 9 = .ok (.if_icmp .gt 23, 3) := by decide +kernel
theorem dX4_digestMachine_12 : decode cX4_digestMachine 12 = .ok (.ldc2_w 286, 3) := by decide +kernel
theorem dX4_digestMachine_15 : decode cX4_digestMachine 15 = .ok (.lload_n 3, 1) := by decide +kernel
theorem dX4_digestMachine_16 : decode cX4_digestMachine 16 = .ok (.lmul, 1) := by decide +kernel
theorem dX4_digestMachine_17 : decode cX4_digestMachine 17 = .ok (.aload_n 0, 1) := by decide +kernel
theorem dX4_digestMachine_18 : decode cX4_digestMachine 18 = .ok (.iload 5, 2) := by decide +kernel
theorem dX4_digestMachine_20 : decode cX4_digestMachine 20 = .ok (.invokevirtual 329, 3) := by decide +kernel
theorem dX4_digestMachine_23 : decode cX4_digestMachine 23 = .ok (.i2l, 1) := by decide +kernel
theorem dX4_digestMachine_24 : decode cX4_digestMachine 24 = .ok (.ladd, 1) := by decide +kernel
theorem dX4_digestMachine_25 : decode cX4_digestMachine 25 = .ok (.lstore_n 3, 1) := by decide +kernel
theorem dX4_digestMachine_26 : decode cX4_digestMachine 26 = .ok (.iinc 5 1, 3) := by decide +kernel
theorem dX4_digestMachine_29 : decode cX4_digestMachine 29 = .ok (.goto (-24), 3) := by decide +kernel
theorem dX4_digestMachine_32 : decode cX4_digestMachine 32 = .ok (.iconst 0, 1) := by decide +kernel
theorem dX4_digestMachine_33 : decode cX4_digestMachine 33 = .ok (.istore 5, 2) := by decide +kernel
theorem dX4_digestMachine_35 : decode cX4_digestMachine 35 = .ok (.iload 5, 2) := by decide +kernel
theorem dX4_digestMachine_37 : decode cX4_digestMachine 37 = .ok (.bipush 8, 2) := by decide +kernel
theorem dX4_digestMachine_39 : decode cX4_digestMachine 39 = .ok (.if_icmp .ge 30, 3) := by decide +kernel
theorem dX4_digestMachine_42 : decode cX4_digestMachine 42 = .ok (.ldc2_w 286, 3) := by decide +kernel
theorem dX4_digestMachine_45 : decode cX4_digestMachine 45 = .ok (.lload_n 3, 1) := by decide +kernel
theorem dX4_digestMachine_46 : decode cX4_digestMachine 46 = .ok (.lmul, 1) := by decide +kernel
theorem dX4_digestMachine_47 : decode cX4_digestMachine 47 = .ok (.aload_n 0, 1) := by decide +kernel
theorem dX4_digestMachine_48 : decode cX4_digestMachine 48 = .ok (.getfield 10, 3) := by decide +kernel
theorem dX4_digestMachine_51 : decode cX4_digestMachine 51 = .ok (.getfield 110, 3) := by decide +kernel
theorem dX4_digestMachine_54 : decode cX4_digestMachine 54 = .ok (.getfield 244, 3) := by decide +kernel
theorem dX4_digestMachine_57 : decode cX4_digestMachine 57 = .ok (.iload 5, 2) := by decide +kernel
theorem dX4_digestMachine_59 : decode cX4_digestMachine 59 = .ok (.iaload, 1) := by decide +kernel
theorem dX4_digestMachine_60 : decode cX4_digestMachine 60 = .ok (.i2l, 1) := by decide +kernel
theorem dX4_digestMachine_61 : decode cX4_digestMachine 61 = .ok (.ladd, 1) := by decide +kernel
theorem dX4_digestMachine_62 : decode cX4_digestMachine 62 = .ok (.lstore_n 3, 1) := by decide +kernel
theorem dX4_digestMachine_63 : decode cX4_digestMachine 63 = .ok (.iinc 5 1, 3) := by decide +kernel
theorem dX4_digestMachine_66 : decode cX4_digestMachine 66 = .ok (.goto (-31), 3) := by decide +kernel
theorem dX4_digestMachine_69 : decode cX4_digestMachine 69 = .ok (.lload_n 3, 1) := by decide +kernel
theorem dX4_digestMachine_70 : decode cX4_digestMachine 70 = .ok (.lreturn, 1) := by decide +kernel
theorem dX4_digestBuffer_0 : decode cX4_digestBuffer 0 = .ok (.ldc2_w 286, 3) := by decide +kernel
theorem dX4_digestBuffer_3 : decode cX4_digestBuffer 3 = .ok (.lload_n 1, 1) := by decide +kernel
theorem dX4_digestBuffer_4 : decode cX4_digestBuffer 4 = .ok (.lmul, 1) := by decide +kernel
theorem dX4_digestBuffer_5 : decode cX4_digestBuffer 5 = .ok (.aload_n 0, 1) := by decide +kernel
theorem dX4_digestBuffer_6 : decode cX4_digestBuffer 6 = .ok (.getfield 37, 3) := by decide +kernel
theorem dX4_digestBuffer_9 : decode cX4_digestBuffer 9 = .ok (.getfield 129, 3) := by decide +kernel
theorem dX4_digestBuffer_12 : decode cX4_digestBuffer 12 = .ok (.i2l, 1) := by decide +kernel
theorem dX4_digestBuffer_13 : decode cX4_digestBuffer 13 = .ok (.ladd, 1) := by decide +kernel
theorem dX4_digestBuffer_14 : decode cX4_digestBuffer 14 = .ok (.lstore_n 3, 1) := by decide +kernel
theorem dX4_digestBuffer_15 : decode cX4_digestBuffer 15 = .ok (.iconst 0, 1) := by decide +kernel
theorem dX4_digestBuffer_16 : decode cX4_digestBuffer 16 = .ok (.istore 5, 2) := by decide +kernel
theorem dX4_digestBuffer_18 : decode cX4_digestBuffer 18 = .ok (.iload 5, 2) := by decide +kernel
theorem dX4_digestBuffer_20 : decode cX4_digestBuffer 20 = .ok (.aload_n 0, 1) := by decide +kernel
theorem dX4_digestBuffer_21 : decode cX4_digestBuffer 21 = .ok (.getfield 37, 3) := by decide +kernel
theorem dX4_digestBuffer_24 : decode cX4_digestBuffer 24 = .ok (.getfield 129, 3) := by decide +kernel
theorem dX4_digestBuffer_27 : decode cX4_digestBuffer 27 = .ok (.if_icmp .ge 27, 3) := by decide +kernel
theorem dX4_digestBuffer_30 : decode cX4_digestBuffer 30 = .ok (.ldc2_w 286, 3) := by decide +kernel
theorem dX4_digestBuffer_33 : decode cX4_digestBuffer 33 = .ok (.lload_n 3, 1) := by decide +kernel
theorem dX4_digestBuffer_34 : decode cX4_digestBuffer 34 = .ok (.lmul, 1) := by decide +kernel
theorem dX4_digestBuffer_35 : decode cX4_digestBuffer 35 = .ok (.aload_n 0, 1) := by decide +kernel
theorem dX4_digestBuffer_36 : decode cX4_digestBuffer 36 = .ok (.getfield 37, 3) := by decide +kernel
theorem dX4_digestBuffer_39 : decode cX4_digestBuffer 39 = .ok (.getfield 331, 3) := by decide +kernel
theorem dX4_digestBuffer_42 : decode cX4_digestBuffer 42 = .ok (.iload 5, 2) := by decide +kernel
theorem dX4_digestBuffer_44 : decode cX4_digestBuffer 44 = .ok (.iaload, 1) := by decide +kernel
theorem dX4_digestBuffer_45 : decode cX4_digestBuffer 45 = .ok (.i2l, 1) := by decide +kernel
theorem dX4_digestBuffer_46 : decode cX4_digestBuffer 46 = .ok (.ladd, 1) := by decide +kernel
theorem dX4_digestBuffer_47 : decode cX4_digestBuffer 47 = .ok (.lstore_n 3, 1) := by decide +kernel
theorem dX4_digestBuffer_48 : decode cX4_digestBuffer 48 = .ok (.iinc 5 1, 3) := by decide +kernel
theorem dX4_digestBuffer_51 : decode cX4_digestBuffer 51 = .ok (.goto (-33), 3) := by decide +kernel
theorem dX4_digestBuffer_54 : decode cX4_digestBuffer 54 = .ok (.lload_n 3, 1) := by decide +kernel
theorem dX4_digestBuffer_55 : decode cX4_digestBuffer 55 = .ok (.lreturn, 1) := by decide +kernel
set_option maxRecDepth 20000 in
theorem ggX4_bitsOfShare_X4_bit : GoodIn wsX4_bitsOfShare wsX4_bit := goodIn_r _ [4] (by decide +kernel) (by decide +kernel)
set_option maxRecDepth 20000 in
theorem gX4_bitsOfShare_X4_bit : GoodIn wsX4_bitsOfShare (va_wsS RX4 70 yX4_bit wsX4_bit) := goodIn_app (goodIn_of _ (by decide +kernel)) ggX4_bitsOfShare_X4_bit
theorem dX4_bitsOfShare_0 : decode cX4_bitsOfShare 0 = .ok (.iload_n 0, 1) := by decide +kernel
theorem dX4_bitsOfShare_1 : decode cX4_bitsOfShare 1 = .ok (.ifCond .gt 5, 3) := by decide +kernel
theorem dX4_bitsOfShare_4 : decode cX4_bitsOfShare 4 = .ok (.lconst 0, 1) := by decide +kernel
theorem dX4_bitsOfShare_5 : decode cX4_bitsOfShare 5 = .ok (.lreturn, 1) := by decide +kernel
theorem dX4_bitsOfShare_6 : decode cX4_bitsOfShare 6 = .ok (.iconst 0, 1) := by decide +kernel
theorem dX4_bitsOfShare_7 : decode cX4_bitsOfShare 7 = .ok (.istore 4, 2) := by decide +kernel
theorem dX4_bitsOfShare_9 : decode cX4_bitsOfShare 9 = .ok (.iconst 1, 1) := by decide +kernel
theorem dX4_bitsOfShare_10 : decode cX4_bitsOfShare 10 = .ok (.istore 5, 2) := by decide +kernel
theorem dX4_bitsOfShare_12 : decode cX4_bitsOfShare 12 = .ok (.iload 5, 2) := by decide +kernel
theorem dX4_bitsOfShare_14 : decode cX4_bitsOfShare 14 = .ok (.bipush 31, 2) := by decide +kernel
theorem dX4_bitsOfShare_16 : decode cX4_bitsOfShare 16 = .ok (.if_icmp .ge 23, 3) := by decide +kernel
theorem dX4_bitsOfShare_19 : decode cX4_bitsOfShare 19 = .ok (.iload_n 0, 1) := by decide +kernel
theorem dX4_bitsOfShare_20 : decode cX4_bitsOfShare 20 = .ok (.iload 5, 2) := by decide +kernel
theorem dX4_bitsOfShare_22 : decode cX4_bitsOfShare 22 = .ok (.invokestatic 70, 3) := by decide +kernel
theorem dX4_bitsOfShare_25 : decode cX4_bitsOfShare 25 = .ok (.iconst 1, 1) := by decide +kernel
theorem dX4_bitsOfShare_26 : decode cX4_bitsOfShare 26 = .ok (.if_icmp .ne 7, 3) := by decide +kernel
theorem dX4_bitsOfShare_29 : decode cX4_bitsOfShare 29 = .ok (.iload 5, 2) := by decide +kernel
theorem dX4_bitsOfShare_31 : decode cX4_bitsOfShare 31 = .ok (.istore 4, 2) := by decide +kernel
theorem dX4_bitsOfShare_33 : decode cX4_bitsOfShare 33 = .ok (.iinc 5 1, 3) := by decide +kernel
theorem dX4_bitsOfShare_36 : decode cX4_bitsOfShare 36 = .ok (.goto (-24), 3) := by decide +kernel
theorem dX4_bitsOfShare_39 : decode cX4_bitsOfShare 39 = .ok (.iload_n 3, 1) := by decide +kernel
theorem dX4_bitsOfShare_40 : decode cX4_bitsOfShare 40 = .ok (.iload 4, 2) := by decide +kernel
theorem dX4_bitsOfShare_42 : decode cX4_bitsOfShare 42 = .ok (.iadd, 1) := by decide +kernel
theorem dX4_bitsOfShare_43 : decode cX4_bitsOfShare 43 = .ok (.iload_n 1, 1) := by decide +kernel
theorem dX4_bitsOfShare_44 : decode cX4_bitsOfShare 44 = .ok (.isub, 1) := by decide +kernel
theorem dX4_bitsOfShare_45 : decode cX4_bitsOfShare 45 = .ok (.i2l, 1) := by decide +kernel
theorem dX4_bitsOfShare_46 : decode cX4_bitsOfShare 46 = .ok (.lstore 5, 2) := by decide +kernel
theorem dX4_bitsOfShare_48 : decode cX4_bitsOfShare 48 = .ok (.iload_n 0, 1) := by decide +kernel
theorem dX4_bitsOfShare_49 : decode cX4_bitsOfShare 49 = .ok (.iconst 1, 1) := by decide +kernel
theorem dX4_bitsOfShare_50 : decode cX4_bitsOfShare 50 = .ok (.iload 4, 2) := by decide +kernel
theorem dX4_bitsOfShare_52 : decode cX4_bitsOfShare 52 = .ok (.ishl, 1) := by decide +kernel
theorem dX4_bitsOfShare_53 : decode cX4_bitsOfShare 53 = .ok (.isub, 1) := by decide +kernel
theorem dX4_bitsOfShare_54 : decode cX4_bitsOfShare 54 = .ok (.i2l, 1) := by decide +kernel
theorem dX4_bitsOfShare_55 : decode cX4_bitsOfShare 55 = .ok (.lstore 7, 2) := by decide +kernel
theorem dX4_bitsOfShare_57 : decode cX4_bitsOfShare 57 = .ok (.lload 5, 2) := by decide +kernel
theorem dX4_bitsOfShare_59 : decode cX4_bitsOfShare 59 = .ok (.iload_n 2, 1) := by decide +kernel
theorem dX4_bitsOfShare_60 : decode cX4_bitsOfShare 60 = .ok (.lshl, 1) := by decide +kernel
theorem dX4_bitsOfShare_61 : decode cX4_bitsOfShare 61 = .ok (.lload 7, 2) := by decide +kernel
theorem dX4_bitsOfShare_63 : decode cX4_bitsOfShare 63 = .ok (.iload_n 2, 1) := by decide +kernel
theorem dX4_bitsOfShare_64 : decode cX4_bitsOfShare 64 = .ok (.iload 4, 2) := by decide +kernel
theorem dX4_bitsOfShare_66 : decode cX4_bitsOfShare 66 = .ok (.isub, 1) := by decide +kernel
theorem dX4_bitsOfShare_67 : decode cX4_bitsOfShare 67 = .ok (.lshl, 1) := by decide +kernel
theorem dX4_bitsOfShare_68 : decode cX4_bitsOfShare 68 = .ok (.ladd, 1) := by decide +kernel
theorem dX4_bitsOfShare_69 : decode cX4_bitsOfShare 69 = .ok (.lreturn, 1) := by decide +kernel
set_option maxRecDepth 20000 in
theorem ggX4_changesOfProgramAt_X2_means : GoodIn wsX4_changesOfProgramAt wsX2_means := goodIn_r _ [9, 10, 11, 12, 13, 8, 14, 15, 35, 36, 37, 38, 39, 40, 41, 42] (by decide +kernel) (by decide +kernel)
set_option maxRecDepth 20000 in
theorem gX4_changesOfProgramAt_X2_means : GoodIn wsX4_changesOfProgramAt (wsV RX4 186 RX2 yX2_means wsX2_means) := goodIn_app (goodIn_of _ (by decide +kernel)) ggX4_changesOfProgramAt_X2_means
set_option maxRecDepth 20000 in
theorem ggX4_changesOfProgramAt_J6_bitCount_0f7a4 : GoodIn wsX4_changesOfProgramAt wsJ6_bitCount_0f7a4 := goodIn_r _ [19, 20, 21, 22] (by decide +kernel) (by decide +kernel)
set_option maxRecDepth 20000 in
theorem gX4_changesOfProgramAt_J6_bitCount_0f7a4 : GoodIn wsX4_changesOfProgramAt (va_wsS RX4 189 yJ6_bitCount_0f7a4 wsJ6_bitCount_0f7a4) := goodIn_app (goodIn_of _ (by decide +kernel)) ggX4_changesOfProgramAt_J6_bitCount_0f7a4
theorem dX4_changesOfProgramAt_0 : decode cX4_changesOfProgramAt 0 = .ok (.iconst 0, 1) := by decide +kernel
theorem dX4_changesOfProgramAt_1 : decode cX4_changesOfProgramAt 1 = .ok (.istore_n 2, 1) := by decide +kernel
theorem dX4_changesOfProgramAt_2 : decode cX4_changesOfProgramAt 2 = .ok (.iconst 0, 1) := by decide +kernel
theorem dX4_changesOfProgramAt_3 : decode cX4_changesOfProgramAt 3 = .ok (.istore_n 3, 1) := by decide +kernel
theorem dX4_changesOfProgramAt_4 : decode cX4_changesOfProgramAt 4 = .ok (.iload_n 3, 1) := by decide +kernel
theorem dX4_changesOfProgramAt_5 : decode cX4_changesOfProgramAt 5 = .ok (.aload_n 0, 1) := by decide +kernel
theorem dX4_changesOfProgramAt_6 : decode cX4_changesOfProgramAt 6 = .ok (.getfield 37, 3) := by decide +kernel
theorem dX4_changesOfProgramAt_9 : decode cX4_changesOfProgramAt 9 = .ok (.getfield 151, 3) := by decide +kernel
theorem dX4_changesOfProgramAt_12 : decode cX4_changesOfProgramAt 12 = .ok (.if_icmp .ge 42, 3) := by decide +kernel
theorem dX4_changesOfProgramAt_15 : decode cX4_changesOfProgramAt 15 = .ok (.aload_n 0, 1) := by decide +kernel
theorem dX4_changesOfProgramAt_16 : decode cX4_changesOfProgramAt 16 = .ok (.getfield 10, 3) := by decide +kernel
theorem dX4_changesOfProgramAt_19 : decode cX4_changesOfProgramAt 19 = .ok (.iload_n 1, 1) := by decide +kernel
theorem dX4_changesOfProgramAt_20 : decode cX4_changesOfProgramAt 20 = .ok (.iload_n 3, 1) := by decide +kernel
theorem dX4_changesOfProgramAt_21 : decode cX4_changesOfProgramAt 21 = .ok (.iadd, 1) := by decide +kernel
theorem dX4_changesOfProgramAt_22 : decode cX4_changesOfProgramAt 22 = .ok (.bipush 16, 2) := by decide +kernel
theorem dX4_changesOfProgramAt_24 : decode cX4_changesOfProgramAt 24 = .ok (.irem, 1) := by decide +kernel
theorem dX4_changesOfProgramAt_25 : decode cX4_changesOfProgramAt 25 = .ok (.invokevirtual 186, 3) := by decide +kernel
theorem dX4_changesOfProgramAt_28 : decode cX4_changesOfProgramAt 28 = .ok (.aload_n 0, 1) := by decide +kernel
theorem dX4_changesOfProgramAt_29 : decode cX4_changesOfProgramAt 29 = .ok (.getfield 37, 3) := by decide +kernel
theorem dX4_changesOfProgramAt_32 : decode cX4_changesOfProgramAt 32 = .ok (.getfield 154, 3) := by decide +kernel
theorem dX4_changesOfProgramAt_35 : decode cX4_changesOfProgramAt 35 = .ok (.iload_n 3, 1) := by decide +kernel
theorem dX4_changesOfProgramAt_36 : decode cX4_changesOfProgramAt 36 = .ok (.iaload, 1) := by decide +kernel
theorem dX4_changesOfProgramAt_37 : decode cX4_changesOfProgramAt 37 = .ok (.ixor, 1) := by decide +kernel
theorem dX4_changesOfProgramAt_38 : decode cX4_changesOfProgramAt 38 = .ok (.istore 4, 2) := by decide +kernel
theorem dX4_changesOfProgramAt_40 : decode cX4_changesOfProgramAt 40 = .ok (.iload_n 2, 1) := by decide +kernel
theorem dX4_changesOfProgramAt_41 : decode cX4_changesOfProgramAt 41 = .ok (.iload 4, 2) := by decide +kernel
theorem dX4_changesOfProgramAt_43 : decode cX4_changesOfProgramAt 43 = .ok (.invokestatic 189, 3) := by decide +kernel
theorem dX4_changesOfProgramAt_46 : decode cX4_changesOfProgramAt 46 = .ok (.iadd, 1) := by decide +kernel
theorem dX4_changesOfProgramAt_47 : decode cX4_changesOfProgramAt 47 = .ok (.istore_n 2, 1) := by decide +kernel
theorem dX4_changesOfProgramAt_48 : decode cX4_changesOfProgramAt 48 = .ok (.iinc 3 1, 3) := by decide +kernel
theorem dX4_changesOfProgramAt_51 : decode cX4_changesOfProgramAt 51 = .ok (.goto (-47), 3) := by decide +kernel
theorem dX4_changesOfProgramAt_54 : decode cX4_changesOfProgramAt 54 = .ok (.iload_n 2, 1) := by decide +kernel
theorem dX4_changesOfProgramAt_55 : decode cX4_changesOfProgramAt 55 = .ok (.ireturn, 1) := by decide +kernel
set_option maxRecDepth 20000 in
theorem ggX4_pairsTellingTheSame_X2_tells : GoodIn wsX4_pairsTellingTheSame wsX2_tells := goodIn_r _ [7, 8, 9, 10, 6, 11, 12, 13, 14, 15, 16, 17, 18, 19, 20, 21, 22, 23, 24, 25, 26, 27, 28, 29, 30, 31, 32, 33, 34, 42, 43, 44, 45, 46, 47, 48, 49] (by decide +kernel) (by decide +kernel)
set_option maxRecDepth 20000 in
theorem gX4_pairsTellingTheSame_X2_tells : GoodIn wsX4_pairsTellingTheSame (wsV RX4 159 RX2 yX2_tells wsX2_tells) := goodIn_app (goodIn_of _ (by decide +kernel)) ggX4_pairsTellingTheSame_X2_tells
theorem dX4_pairsTellingTheSame_0 : decode cX4_pairsTellingTheSame 0 = .ok (.iconst 0, 1) := by decide +kernel
theorem dX4_pairsTellingTheSame_1 : decode cX4_pairsTellingTheSame 1 = .ok (.istore_n 1, 1) := by decide +kernel
theorem dX4_pairsTellingTheSame_2 : decode cX4_pairsTellingTheSame 2 = .ok (.iconst 0, 1) := by decide +kernel
theorem dX4_pairsTellingTheSame_3 : decode cX4_pairsTellingTheSame 3 = .ok (.istore_n 2, 1) := by decide +kernel
theorem dX4_pairsTellingTheSame_4 : decode cX4_pairsTellingTheSame 4 = .ok (.iload_n 2, 1) := by decide +kernel
theorem dX4_pairsTellingTheSame_5 : decode cX4_pairsTellingTheSame 5 = .ok (.bipush 16, 2) := by decide +kernel
theorem dX4_pairsTellingTheSame_7 : decode cX4_pairsTellingTheSame 7 = .ok (.if_icmp .ge 54, 3) := by decide +kernel
theorem dX4_pairsTellingTheSame_10 : decode cX4_pairsTellingTheSame 10 = .ok (.aload_n 0, 1) := by decide +kernel
theorem dX4_pairsTellingTheSame_11 : decode cX4_pairsTellingTheSame 11 = .ok (.getfield 41, 3) := by decide +kernel
theorem dX4_pairsTellingTheSame_14 : decode cX4_pairsTellingTheSame 14 = .ok (.iload_n 2, 1) := by decide +kernel
theorem dX4_pairsTellingTheSame_15 : decode cX4_pairsTellingTheSame 15 = .ok (.aload_n 0, 1) := by decide +kernel
theorem dX4_pairsTellingTheSame_16 : decode cX4_pairsTellingTheSame 16 = .ok (.getfield 10, 3) := by decide +kernel
theorem dX4_pairsTellingTheSame_19 : decode cX4_pairsTellingTheSame 19 = .ok (.iload_n 2, 1) := by decide +kernel
theorem dX4_pairsTellingTheSame_20 : decode cX4_pairsTellingTheSame 20 = .ok (.invokevirtual 159, 3) := by decide +kernel
theorem dX4_pairsTellingTheSame_23 : decode cX4_pairsTellingTheSame 23 = .ok (.iastore, 1) := by decide +kernel
theorem dX4_pairsTellingTheSame_24 : decode cX4_pairsTellingTheSame 24 = .ok (.iconst 0, 1) := by decide +kernel
theorem dX4_pairsTellingTheSame_25 : decode cX4_pairsTellingTheSame 25 = .ok (.istore_n 3, 1) := by decide +kernel
theorem dX4_pairsTellingTheSame_26 : decode cX4_pairsTellingTheSame 26 = .ok (.iload_n 3, 1) := by decide +kernel
theorem dX4_pairsTellingTheSame_27 : decode cX4_pairsTellingTheSame 27 = .ok (.iload_n 2, 1) := by decide +kernel
theorem dX4_pairsTellingTheSame_28 : decode cX4_pairsTellingTheSame 28 = .ok (.if_icmp .ge 27, 3) := by decide +kernel
theorem dX4_pairsTellingTheSame_31 : decode cX4_pairsTellingTheSame 31 = .ok (.aload_n 0, 1) := by decide +kernel
theorem dX4_pairsTellingTheSame_32 : decode cX4_pairsTellingTheSame 32 = .ok (.getfield 41, 3) := by decide +kernel
theorem dX4_pairsTellingTheSame_35 : decode cX4_pairsTellingTheSame 35 = .ok (.iload_n 3, 1) := by decide +kernel
theorem dX4_pairsTellingTheSame_36 : decode cX4_pairsTellingTheSame 36 = .ok (.iaload, 1) := by decide +kernel
theorem dX4_pairsTellingTheSame_37 : decode cX4_pairsTellingTheSame 37 = .ok (.aload_n 0, 1) := by decide +kernel
theorem dX4_pairsTellingTheSame_38 : decode cX4_pairsTellingTheSame 38 = .ok (.getfield 41, 3) := by decide +kernel
theorem dX4_pairsTellingTheSame_41 : decode cX4_pairsTellingTheSame 41 = .ok (.iload_n 2, 1) := by decide +kernel
theorem dX4_pairsTellingTheSame_42 : decode cX4_pairsTellingTheSame 42 = .ok (.iaload, 1) := by decide +kernel
theorem dX4_pairsTellingTheSame_43 : decode cX4_pairsTellingTheSame 43 = .ok (.if_icmp .ne 6, 3) := by decide +kernel
theorem dX4_pairsTellingTheSame_46 : decode cX4_pairsTellingTheSame 46 = .ok (.iinc 1 1, 3) := by decide +kernel
theorem dX4_pairsTellingTheSame_49 : decode cX4_pairsTellingTheSame 49 = .ok (.iinc 3 1, 3) := by decide +kernel
theorem dX4_pairsTellingTheSame_52 : decode cX4_pairsTellingTheSame 52 = .ok (.goto (-26), 3) := by decide +kernel
theorem dX4_pairsTellingTheSame_55 : decode cX4_pairsTellingTheSame 55 = .ok (.iinc 2 1, 3) := by decide +kernel
theorem dX4_pairsTellingTheSame_58 : decode cX4_pairsTellingTheSame 58 = .ok (.goto (-54), 3) := by decide +kernel
theorem dX4_pairsTellingTheSame_61 : decode cX4_pairsTellingTheSame 61 = .ok (.iload_n 1, 1) := by decide +kernel
theorem dX4_pairsTellingTheSame_62 : decode cX4_pairsTellingTheSame 62 = .ok (.ireturn, 1) := by decide +kernel
theorem dX4_isWithin_0 : decode cX4_isWithin 0 = .ok (.iload_n 0, 1) := by decide +kernel
theorem dX4_isWithin_1 : decode cX4_isWithin 1 = .ok (.iload_n 1, 1) := by decide +kernel
theorem dX4_isWithin_2 : decode cX4_isWithin 2 = .ok (.if_icmp .lt 12, 3) := by decide +kernel
theorem dX4_isWithin_5 : decode cX4_isWithin 5 = .ok (.iload_n 0, 1) := by decide +kernel
theorem dX4_isWithin_6 : decode cX4_isWithin 6 = .ok (.iload_n 2, 1) := by decide +kernel
theorem dX4_isWithin_7 : decode cX4_isWithin 7 = .ok (.if_icmp .gt 7, 3) := by decide +kernel
theorem dX4_isWithin_10 : decode cX4_isWithin 10 = .ok (.iconst 1, 1) := by decide +kernel
theorem dX4_isWithin_11 : decode cX4_isWithin 11 = .ok (.goto 4, 3) := by decide +kernel
theorem dX4_isWithin_14 : decode cX4_isWithin 14 = .ok (.iconst 0, 1) := by decide +kernel
theorem dX4_isWithin_15 : decode cX4_isWithin 15 = .ok (.ireturn, 1) := by decide +kernel
set_option maxRecDepth 20000 in
theorem ggX4_isThread_X4_isWithin : GoodIn wsX4_isThread wsX4_isWithin := goodIn_r _ [4] (by decide +kernel) (by decide +kernel)
set_option maxRecDepth 20000 in
theorem gX4_isThread_X4_isWithin : GoodIn wsX4_isThread (va_wsS RX4 75 yX4_isWithin wsX4_isWithin) := goodIn_app (goodIn_of _ (by decide +kernel)) ggX4_isThread_X4_isWithin
theorem dX4_isThread_0 : decode cX4_isThread 0 = .ok (.iload_n 0, 1) := by decide +kernel
theorem dX4_isThread_1 : decode cX4_isThread 1 = .ok (.iconst 0, 1) := by decide +kernel
theorem dX4_isThread_2 : decode cX4_isThread 2 = .ok (.bipush 15, 2) := by decide +kernel
theorem dX4_isThread_4 : decode cX4_isThread 4 = .ok (.invokestatic 75, 3) := by decide +kernel
theorem dX4_isThread_7 : decode cX4_isThread 7 = .ok (.ireturn, 1) := by decide +kernel
set_option maxRecDepth 20000 in
theorem ggX4_isRing_X4_isWithin : GoodIn wsX4_isRing wsX4_isWithin := goodIn_r _ [4] (by decide +kernel) (by decide +kernel)
set_option maxRecDepth 20000 in
theorem gX4_isRing_X4_isWithin : GoodIn wsX4_isRing (va_wsS RX4 75 yX4_isWithin wsX4_isWithin) := goodIn_app (goodIn_of _ (by decide +kernel)) ggX4_isRing_X4_isWithin
theorem dX4_isRing_0 : decode cX4_isRing 0 = .ok (.iload_n 0, 1) := by decide +kernel
theorem dX4_isRing_1 : decode cX4_isRing 1 = .ok (.iconst 0, 1) := by decide +kernel
theorem dX4_isRing_2 : decode cX4_isRing 2 = .ok (.bipush 7, 2) := by decide +kernel
theorem dX4_isRing_4 : decode cX4_isRing 4 = .ok (.invokestatic 75, 3) := by decide +kernel
theorem dX4_isRing_7 : decode cX4_isRing 7 = .ok (.ireturn, 1) := by decide +kernel
set_option maxRecDepth 20000 in
theorem ggX4_isSetting_X4_isWithin : GoodIn wsX4_isSetting wsX4_isWithin := goodIn_r _ [4] (by decide +kernel) (by decide +kernel)
set_option maxRecDepth 20000 in
theorem gX4_isSetting_X4_isWithin : GoodIn wsX4_isSetting (va_wsS RX4 75 yX4_isWithin wsX4_isWithin) := goodIn_app (goodIn_of _ (by decide +kernel)) ggX4_isSetting_X4_isWithin
theorem dX4_isSetting_0 : decode cX4_isSetting 0 = .ok (.iload_n 0, 1) := by decide +kernel
theorem dX4_isSetting_1 : decode cX4_isSetting 1 = .ok (.iconst 0, 1) := by decide +kernel
theorem dX4_isSetting_2 : decode cX4_isSetting 2 = .ok (.iconst 1, 1) := by decide +kernel
theorem dX4_isSetting_3 : decode cX4_isSetting 3 = .ok (.invokestatic 75, 3) := by decide +kernel
theorem dX4_isSetting_6 : decode cX4_isSetting 6 = .ok (.ireturn, 1) := by decide +kernel
set_option maxRecDepth 20000 in
theorem ggX4_isSlot_X4_isWithin : GoodIn wsX4_isSlot wsX4_isWithin := goodIn_r _ [4] (by decide +kernel) (by decide +kernel)
set_option maxRecDepth 20000 in
theorem gX4_isSlot_X4_isWithin : GoodIn wsX4_isSlot (va_wsS RX4 75 yX4_isWithin wsX4_isWithin) := goodIn_app (goodIn_of _ (by decide +kernel)) ggX4_isSlot_X4_isWithin
theorem dX4_isSlot_0 : decode cX4_isSlot 0 = .ok (.iload_n 0, 1) := by decide +kernel
theorem dX4_isSlot_1 : decode cX4_isSlot 1 = .ok (.iconst 0, 1) := by decide +kernel
theorem dX4_isSlot_2 : decode cX4_isSlot 2 = .ok (.iconst 1, 1) := by decide +kernel
theorem dX4_isSlot_3 : decode cX4_isSlot 3 = .ok (.invokestatic 75, 3) := by decide +kernel
theorem dX4_isSlot_6 : decode cX4_isSlot 6 = .ok (.ireturn, 1) := by decide +kernel
theorem dX4_bit_0 : decode cX4_bit 0 = .ok (.iload_n 0, 1) := by decide +kernel
theorem dX4_bit_1 : decode cX4_bit 1 = .ok (.iload_n 1, 1) := by decide +kernel
theorem dX4_bit_2 : decode cX4_bit 2 = .ok (.ishr, 1) := by decide +kernel
theorem dX4_bit_3 : decode cX4_bit 3 = .ok (.iconst 1, 1) := by decide +kernel
theorem dX4_bit_4 : decode cX4_bit 4 = .ok (.iand, 1) := by decide +kernel
theorem dX4_bit_5 : decode cX4_bit 5 = .ok (.ireturn, 1) := by decide +kernel
theorem dJ6_bitCount_0f7a4_0 : decode cJ6_bitCount_0f7a4 0 = .ok (.iload_n 0, 1) := by decide +kernel
theorem dJ6_bitCount_0f7a4_1 : decode cJ6_bitCount_0f7a4 1 = .ok (.iload_n 0, 1) := by decide +kernel
theorem dJ6_bitCount_0f7a4_2 : decode cJ6_bitCount_0f7a4 2 = .ok (.iconst 1, 1) := by decide +kernel
theorem dJ6_bitCount_0f7a4_3 : decode cJ6_bitCount_0f7a4 3 = .ok (.iushr, 1) := by decide +kernel
theorem dJ6_bitCount_0f7a4_4 : decode cJ6_bitCount_0f7a4 4 = .ok (.ldc_w 265, 3) := by decide +kernel
theorem dJ6_bitCount_0f7a4_7 : decode cJ6_bitCount_0f7a4 7 = .ok (.iand, 1) := by decide +kernel
theorem dJ6_bitCount_0f7a4_8 : decode cJ6_bitCount_0f7a4 8 = .ok (.isub, 1) := by decide +kernel
theorem dJ6_bitCount_0f7a4_9 : decode cJ6_bitCount_0f7a4 9 = .ok (.istore_n 0, 1) := by decide +kernel
theorem dJ6_bitCount_0f7a4_10 : decode cJ6_bitCount_0f7a4 10 = .ok (.iload_n 0, 1) := by decide +kernel
theorem dJ6_bitCount_0f7a4_11 : decode cJ6_bitCount_0f7a4 11 = .ok (.ldc_w 266, 3) := by decide +kernel
theorem dJ6_bitCount_0f7a4_14 : decode cJ6_bitCount_0f7a4 14 = .ok (.iand, 1) := by decide +kernel
theorem dJ6_bitCount_0f7a4_15 : decode cJ6_bitCount_0f7a4 15 = .ok (.iload_n 0, 1) := by decide +kernel
theorem dJ6_bitCount_0f7a4_16 : decode cJ6_bitCount_0f7a4 16 = .ok (.iconst 2, 1) := by decide +kernel
theorem dJ6_bitCount_0f7a4_17 : decode cJ6_bitCount_0f7a4 17 = .ok (.iushr, 1) := by decide +kernel
theorem dJ6_bitCount_0f7a4_18 : decode cJ6_bitCount_0f7a4 18 = .ok (.ldc_w 266, 3) := by decide +kernel
theorem dJ6_bitCount_0f7a4_21 : decode cJ6_bitCount_0f7a4 21 = .ok (.iand, 1) := by decide +kernel
theorem dJ6_bitCount_0f7a4_22 : decode cJ6_bitCount_0f7a4 22 = .ok (.iadd, 1) := by decide +kernel
theorem dJ6_bitCount_0f7a4_23 : decode cJ6_bitCount_0f7a4 23 = .ok (.istore_n 0, 1) := by decide +kernel
theorem dJ6_bitCount_0f7a4_24 : decode cJ6_bitCount_0f7a4 24 = .ok (.iload_n 0, 1) := by decide +kernel
theorem dJ6_bitCount_0f7a4_25 : decode cJ6_bitCount_0f7a4 25 = .ok (.iload_n 0, 1) := by decide +kernel
theorem dJ6_bitCount_0f7a4_26 : decode cJ6_bitCount_0f7a4 26 = .ok (.iconst 4, 1) := by decide +kernel
theorem dJ6_bitCount_0f7a4_27 : decode cJ6_bitCount_0f7a4 27 = .ok (.iushr, 1) := by decide +kernel
theorem dJ6_bitCount_0f7a4_28 : decode cJ6_bitCount_0f7a4 28 = .ok (.iadd, 1) := by decide +kernel
theorem dJ6_bitCount_0f7a4_29 : decode cJ6_bitCount_0f7a4 29 = .ok (.ldc_w 267, 3) := by decide +kernel
theorem dJ6_bitCount_0f7a4_32 : decode cJ6_bitCount_0f7a4 32 = .ok (.iand, 1) := by decide +kernel
theorem dJ6_bitCount_0f7a4_33 : decode cJ6_bitCount_0f7a4 33 = .ok (.istore_n 0, 1) := by decide +kernel
theorem dJ6_bitCount_0f7a4_34 : decode cJ6_bitCount_0f7a4 34 = .ok (.iload_n 0, 1) := by decide +kernel
theorem dJ6_bitCount_0f7a4_35 : decode cJ6_bitCount_0f7a4 35 = .ok (.iload_n 0, 1) := by decide +kernel
theorem dJ6_bitCount_0f7a4_36 : decode cJ6_bitCount_0f7a4 36 = .ok (.bipush 8, 2) := by decide +kernel
theorem dJ6_bitCount_0f7a4_38 : decode cJ6_bitCount_0f7a4 38 = .ok (.iushr, 1) := by decide +kernel
theorem dJ6_bitCount_0f7a4_39 : decode cJ6_bitCount_0f7a4 39 = .ok (.iadd, 1) := by decide +kernel
theorem dJ6_bitCount_0f7a4_40 : decode cJ6_bitCount_0f7a4 40 = .ok (.istore_n 0, 1) := by decide +kernel
theorem dJ6_bitCount_0f7a4_41 : decode cJ6_bitCount_0f7a4 41 = .ok (.iload_n 0, 1) := by decide +kernel
theorem dJ6_bitCount_0f7a4_42 : decode cJ6_bitCount_0f7a4 42 = .ok (.iload_n 0, 1) := by decide +kernel
theorem dJ6_bitCount_0f7a4_43 : decode cJ6_bitCount_0f7a4 43 = .ok (.bipush 16, 2) := by decide +kernel
theorem dJ6_bitCount_0f7a4_45 : decode cJ6_bitCount_0f7a4 45 = .ok (.iushr, 1) := by decide +kernel
theorem dJ6_bitCount_0f7a4_46 : decode cJ6_bitCount_0f7a4 46 = .ok (.iadd, 1) := by decide +kernel
theorem dJ6_bitCount_0f7a4_47 : decode cJ6_bitCount_0f7a4 47 = .ok (.istore_n 0, 1) := by decide +kernel
theorem dJ6_bitCount_0f7a4_48 : decode cJ6_bitCount_0f7a4 48 = .ok (.iload_n 0, 1) := by decide +kernel
theorem dJ6_bitCount_0f7a4_49 : decode cJ6_bitCount_0f7a4 49 = .ok (.bipush 63, 2) := by decide +kernel
theorem dJ6_bitCount_0f7a4_51 : decode cJ6_bitCount_0f7a4 51 = .ok (.iand, 1) := by decide +kernel
theorem dJ6_bitCount_0f7a4_52 : decode cJ6_bitCount_0f7a4 52 = .ok (.ireturn, 1) := by decide +kernel
theorem dJ9_max_7cf53_0 : decode cJ9_max_7cf53 0 = .ok (.iload_n 0, 1) := by decide +kernel
theorem dJ9_max_7cf53_1 : decode cJ9_max_7cf53 1 = .ok (.iload_n 1, 1) := by decide +kernel
theorem dJ9_max_7cf53_2 : decode cJ9_max_7cf53 2 = .ok (.if_icmp .lt 7, 3) := by decide +kernel
theorem dJ9_max_7cf53_5 : decode cJ9_max_7cf53 5 = .ok (.iload_n 0, 1) := by decide +kernel
theorem dJ9_max_7cf53_6 : decode cJ9_max_7cf53 6 = .ok (.goto 4, 3) := by decide +kernel
theorem dJ9_max_7cf53_9 : decode cJ9_max_7cf53 9 = .ok (.iload_n 1, 1) := by decide +kernel
theorem dJ9_max_7cf53_10 : decode cJ9_max_7cf53 10 = .ok (.ireturn, 1) := by decide +kernel
theorem dJ9_min_7cf53_0 : decode cJ9_min_7cf53 0 = .ok (.iload_n 0, 1) := by decide +kernel
theorem dJ9_min_7cf53_1 : decode cJ9_min_7cf53 1 = .ok (.iload_n 1, 1) := by decide +kernel
theorem dJ9_min_7cf53_2 : decode cJ9_min_7cf53 2 = .ok (.if_icmp .gt 7, 3) := by decide +kernel
theorem dJ9_min_7cf53_5 : decode cJ9_min_7cf53 5 = .ok (.iload_n 0, 1) := by decide +kernel
theorem dJ9_min_7cf53_6 : decode cJ9_min_7cf53 6 = .ok (.goto 4, 3) := by decide +kernel
theorem dJ9_min_7cf53_9 : decode cJ9_min_7cf53 9 = .ok (.iload_n 1, 1) := by decide +kernel
theorem dJ9_min_7cf53_10 : decode cJ9_min_7cf53 10 = .ok (.ireturn, 1) := by decide +kernel
