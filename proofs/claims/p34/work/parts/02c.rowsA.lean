theorem dX4_init_49 : decode cX4_init 49 = .ok (.putfield 30, 3) := by decide +kernel
theorem dX4_init_52 : decode cX4_init 52 = .ok (.aload_n 0, 1) := by decide +kernel
theorem dX4_init_53 : decode cX4_init 53 = .ok (.new 34, 3) := by decide +kernel
theorem dX4_init_56 : decode cX4_init 56 = .ok (.dup, 1) := by decide +kernel
theorem dX4_init_57 : decode cX4_init 57 = .ok (.invokespecial 36, 3) := by decide +kernel
theorem dX4_init_60 : decode cX4_init 60 = .ok (.putfield 37, 3) := by decide +kernel
theorem dX4_init_63 : decode cX4_init 63 = .ok (.aload_n 0, 1) := by decide +kernel
theorem dX4_init_64 : decode cX4_init 64 = .ok (.bipush 16, 2) := by decide +kernel
theorem dX4_init_66 : decode cX4_init 66 = .ok (.newarray .int, 2) := by decide +kernel
theorem dX4_init_68 : decode cX4_init 68 = .ok (.putfield 41, 3) := by decide +kernel
theorem dX4_init_71 : decode cX4_init 71 = .ok (.iconst 0, 1) := by decide +kernel
theorem dX4_init_72 : decode cX4_init 72 = .ok (.istore_n 1, 1) := by decide +kernel
theorem dX4_init_73 : decode cX4_init 73 = .ok (.iload_n 1, 1) := by decide +kernel
theorem dX4_init_74 : decode cX4_init 74 = .ok (.iconst 2, 1) := by decide +kernel
theorem dX4_init_75 : decode cX4_init 75 = .ok (.if_icmp .ge 22, 3) := by decide +kernel
theorem dX4_init_78 : decode cX4_init 78 = .ok (.aload_n 0, 1) := by decide +kernel
theorem dX4_init_79 : decode cX4_init 79 = .ok (.getfield 26, 3) := by decide +kernel
theorem dX4_init_82 : decode cX4_init 82 = .ok (.iload_n 1, 1) := by decide +kernel
theorem dX4_init_83 : decode cX4_init 83 = .ok (.new 7, 3) := by decide +kernel
theorem dX4_init_86 : decode cX4_init 86 = .ok (.dup, 1) := by decide +kernel
theorem dX4_init_87 : decode cX4_init 87 = .ok (.invokespecial 9, 3) := by decide +kernel
theorem dX4_init_90 : decode cX4_init 90 = .ok (.aastore, 1) := by decide +kernel
theorem dX4_init_91 : decode cX4_init 91 = .ok (.iinc 1 1, 3) := by decide +kernel
theorem dX4_init_94 : decode cX4_init 94 = .ok (.goto (-21), 3) := by decide +kernel
theorem dX4_init_97 : decode cX4_init 97 = .ok (.return_, 1) := by decide +kernel
set_option maxRecDepth 20000 in
theorem ggX4_cross_X4_isThread : GoodIn wsX4_cross wsX4_isThread := goodIn_r _ [9, 10, 11, 8, 12] (by decide +kernel) (by decide +kernel)
set_option maxRecDepth 20000 in
theorem gX4_cross_X4_isThread : GoodIn wsX4_cross (va_wsS RX4 45 yX4_isThread wsX4_isThread) := goodIn_app (goodIn_of _ (by decide +kernel)) ggX4_cross_X4_isThread
set_option maxRecDepth 20000 in
theorem ggX4_cross_X4_isRing : GoodIn wsX4_cross wsX4_isRing := goodIn_r _ [15, 10, 11, 8, 12] (by decide +kernel) (by decide +kernel)
set_option maxRecDepth 20000 in
theorem gX4_cross_X4_isRing : GoodIn wsX4_cross (va_wsS RX4 49 yX4_isRing wsX4_isRing) := goodIn_app (goodIn_of _ (by decide +kernel)) ggX4_cross_X4_isRing
set_option maxRecDepth 20000 in
theorem ggX4_cross_X1_push : GoodIn wsX4_cross wsX1_push := goodIn_r _ [20, 21, 22, 23, 24, 25, 26, 27, 28, 29, 30, 31, 32, 33, 34, 35, 36, 37, 38, 39, 40, 41, 42, 43, 44, 45, 46, 47, 48, 49, 50, 51, 52, 53, 91, 92, 93, 83, 84, 85, 86, 87, 88, 89, 90, 94, 95, 96, 97, 98, 99, 100] (by decide +kernel) (by decide +kernel)
set_option maxRecDepth 20000 in
theorem gX4_cross_X1_push : GoodIn wsX4_cross (wsV RX4 59 RX1 yX1_push wsX1_push) := goodIn_app (goodIn_of _ (by decide +kernel)) ggX4_cross_X1_push
set_option maxRecDepth 20000 in
theorem ggX4_cross_X2_layThrough : GoodIn wsX4_cross wsX2_layThrough := goodIn_r _ [57, 29, 39, 58, 59, 60, 27, 61, 35, 62, 63, 64, 65, 66, 8, 67, 68, 69, 70, 71, 72, 73, 74, 83, 84, 85, 86, 87, 88, 89, 90] (by decide +kernel) (by decide +kernel)
set_option maxRecDepth 20000 in
theorem gX4_cross_X2_layThrough : GoodIn wsX4_cross (wsV RX4 66 RX2 yX2_layThrough wsX2_layThrough) := goodIn_app (goodIn_of _ (by decide +kernel)) ggX4_cross_X2_layThrough
set_option maxRecDepth 20000 in
theorem ggX4_cross_X4_bit : GoodIn wsX4_cross wsX4_bit := goodIn_r _ [67] (by decide +kernel) (by decide +kernel)
set_option maxRecDepth 20000 in
theorem gX4_cross_X4_bit : GoodIn wsX4_cross (va_wsS RX4 70 yX4_bit wsX4_bit) := goodIn_app (goodIn_of _ (by decide +kernel)) ggX4_cross_X4_bit
theorem dX4_cross_0 : decode cX4_cross 0 = .ok (.iload_n 1, 1) := by decide +kernel
theorem dX4_cross_1 : decode cX4_cross 1 = .ok (.invokestatic 45, 3) := by decide +kernel
theorem dX4_cross_4 : decode cX4_cross 4 = .ok (.ifCond .eq 10, 3) := by decide +kernel
theorem dX4_cross_7 : decode cX4_cross 7 = .ok (.iload_n 2, 1) := by decide +kernel
theorem dX4_cross_8 : decode cX4_cross 8 = .ok (.invokestatic 49, 3) := by decide +kernel
theorem dX4_cross_11 : decode cX4_cross 11 = .ok (.ifCond .ne 13, 3) := by decide +kernel
theorem dX4_cross_14 : decode cX4_cross 14 = .ok (.new 52, 3) := by decide +kernel
theorem dX4_cross_17 : decode cX4_cross 17 = .ok (.dup, 1) := by decide +kernel
theorem dX4_cross_18 : decode cX4_cross 18 = .ok (.ldc 54, 2) := by decide +kernel
theorem dX4_cross_20 : decode cX4_cross 20 = .ok (.invokespecial 56, 3) := by decide +kernel
theorem dX4_cross_23 : decode cX4_cross 23 = .ok (.athrow, 1) := by decide +kernel
theorem dX4_cross_24 : decode cX4_cross 24 = .ok (.aload_n 0, 1) := by decide +kernel
theorem dX4_cross_25 : decode cX4_cross 25 = .ok (.getfield 22, 3) := by decide +kernel
theorem dX4_cross_28 : decode cX4_cross 28 = .ok (.aload_n 0, 1) := by decide +kernel
theorem dX4_cross_29 : decode cX4_cross 29 = .ok (.getfield 10, 3) := by decide +kernel
theorem dX4_cross_32 : decode cX4_cross 32 = .ok (.invokevirtual 59, 3) := by decide +kernel
theorem dX4_cross_35 : decode cX4_cross 35 = .ok (.aload_n 0, 1) := by decide +kernel
theorem dX4_cross_36 : decode cX4_cross 36 = .ok (.getfield 10, 3) := by decide +kernel
theorem dX4_cross_39 : decode cX4_cross 39 = .ok (.iload_n 1, 1) := by decide +kernel
theorem dX4_cross_40 : decode cX4_cross 40 = .ok (.aload_n 0, 1) := by decide +kernel
theorem dX4_cross_41 : decode cX4_cross 41 = .ok (.getfield 10, 3) := by decide +kernel
theorem dX4_cross_44 : decode cX4_cross 44 = .ok (.getfield 63, 3) := by decide +kernel
theorem dX4_cross_47 : decode cX4_cross 47 = .ok (.iload_n 1, 1) := by decide +kernel
theorem dX4_cross_48 : decode cX4_cross 48 = .ok (.iaload, 1) := by decide +kernel
theorem dX4_cross_49 : decode cX4_cross 49 = .ok (.iconst 1, 1) := by decide +kernel
theorem dX4_cross_50 : decode cX4_cross 50 = .ok (.iload_n 2, 1) := by decide +kernel
theorem dX4_cross_51 : decode cX4_cross 51 = .ok (.ishl, 1) := by decide +kernel
theorem dX4_cross_52 : decode cX4_cross 52 = .ok (.ixor, 1) := by decide +kernel
theorem dX4_cross_53 : decode cX4_cross 53 = .ok (.invokevirtual 66, 3) := by decide +kernel
theorem dX4_cross_56 : decode cX4_cross 56 = .ok (.pop, 1) := by decide +kernel
theorem dX4_cross_57 : decode cX4_cross 57 = .ok (.aload_n 0, 1) := by decide +kernel
theorem dX4_cross_58 : decode cX4_cross 58 = .ok (.getfield 10, 3) := by decide +kernel
theorem dX4_cross_61 : decode cX4_cross 61 = .ok (.getfield 63, 3) := by decide +kernel
theorem dX4_cross_64 : decode cX4_cross 64 = .ok (.iload_n 1, 1) := by decide +kernel
theorem dX4_cross_65 : decode cX4_cross 65 = .ok (.iaload, 1) := by decide +kernel
theorem dX4_cross_66 : decode cX4_cross 66 = .ok (.iload_n 2, 1) := by decide +kernel
theorem dX4_cross_67 : decode cX4_cross 67 = .ok (.invokestatic 70, 3) := by decide +kernel
theorem dX4_cross_70 : decode cX4_cross 70 = .ok (.ireturn, 1) := by decide +kernel
set_option maxRecDepth 20000 in
theorem ggX4_lay_X4_isThread : GoodIn wsX4_lay wsX4_isThread := goodIn_r _ [10, 11, 12, 9, 13] (by decide +kernel) (by decide +kernel)
set_option maxRecDepth 20000 in
theorem gX4_lay_X4_isThread : GoodIn wsX4_lay (va_wsS RX4 45 yX4_isThread wsX4_isThread) := goodIn_app (goodIn_of _ (by decide +kernel)) ggX4_lay_X4_isThread
set_option maxRecDepth 20000 in
theorem ggX4_lay_X4_isWithin : GoodIn wsX4_lay wsX4_isWithin := goodIn_r _ [13] (by decide +kernel) (by decide +kernel)
set_option maxRecDepth 20000 in
theorem gX4_lay_X4_isWithin : GoodIn wsX4_lay (va_wsS RX4 75 yX4_isWithin wsX4_isWithin) := goodIn_app (goodIn_of _ (by decide +kernel)) ggX4_lay_X4_isWithin
set_option maxRecDepth 20000 in
theorem ggX4_lay_X1_push : GoodIn wsX4_lay wsX1_push := goodIn_r _ [18, 19, 20, 21, 22, 23, 24, 25, 26, 27, 28, 29, 30, 31, 32, 33, 34, 35, 36, 37, 38, 39, 40, 41, 42, 43, 44, 45, 46, 47, 48, 49, 50, 51, 84, 85, 86, 87, 88, 89, 90, 91, 92, 93, 94, 95, 96, 97, 98, 99, 100, 101] (by decide +kernel) (by decide +kernel)
set_option maxRecDepth 20000 in
theorem gX4_lay_X1_push : GoodIn wsX4_lay (wsV RX4 59 RX1 yX1_push wsX1_push) := goodIn_app (goodIn_of _ (by decide +kernel)) ggX4_lay_X1_push
set_option maxRecDepth 20000 in
theorem ggX4_lay_X2_asWord : GoodIn wsX4_lay wsX2_asWord := goodIn_r _ [55, 34, 87, 88, 89, 90, 91, 92, 93, 94] (by decide +kernel) (by decide +kernel)
set_option maxRecDepth 20000 in
theorem gX4_lay_X2_asWord : GoodIn wsX4_lay (wsV RX4 84 RX2 yX2_asWord wsX2_asWord) := goodIn_app (goodIn_of _ (by decide +kernel)) ggX4_lay_X2_asWord
set_option maxRecDepth 20000 in
theorem ggX4_lay_X2_layThrough : GoodIn wsX4_lay wsX2_layThrough := goodIn_r _ [59, 27, 37, 60, 61, 62, 25, 63, 33, 64, 65, 66, 67, 68, 9, 69, 70, 71, 72, 73, 74, 75, 76, 87, 88, 89, 90, 91, 92, 93, 94] (by decide +kernel) (by decide +kernel)
set_option maxRecDepth 20000 in
theorem gX4_lay_X2_layThrough : GoodIn wsX4_lay (wsV RX4 66 RX2 yX2_layThrough wsX2_layThrough) := goodIn_app (goodIn_of _ (by decide +kernel)) ggX4_lay_X2_layThrough
theorem dX4_lay_0 : decode cX4_lay 0 = .ok (.iload_n 1, 1) := by decide +kernel
theorem dX4_lay_1 : decode cX4_lay 1 = .ok (.invokestatic 45, 3) := by decide +kernel
theorem dX4_lay_4 : decode cX4_lay 4 = .ok (.ifCond .ne 13, 3) := by decide +kernel
theorem dX4_lay_7 : decode cX4_lay 7 = .ok (.new 52, 3) := by decide +kernel
theorem dX4_lay_10 : decode cX4_lay 10 = .ok (.dup, 1) := by decide +kernel
theorem dX4_lay_11 : decode cX4_lay 11 = .ok (.ldc 73, 2) := by decide +kernel
theorem dX4_lay_13 : decode cX4_lay 13 = .ok (.invokespecial 56, 3) := by decide +kernel
theorem dX4_lay_16 : decode cX4_lay 16 = .ok (.athrow, 1) := by decide +kernel
theorem dX4_lay_17 : decode cX4_lay 17 = .ok (.iload_n 2, 1) := by decide +kernel
theorem dX4_lay_18 : decode cX4_lay 18 = .ok (.iconst 0, 1) := by decide +kernel
theorem dX4_lay_19 : decode cX4_lay 19 = .ok (.sipush 255, 3) := by decide +kernel
theorem dX4_lay_22 : decode cX4_lay 22 = .ok (.invokestatic 75, 3) := by decide +kernel
theorem dX4_lay_25 : decode cX4_lay 25 = .ok (.ifCond .ne 13, 3) := by decide +kernel
theorem dX4_lay_28 : decode cX4_lay 28 = .ok (.new 79, 3) := by decide +kernel
theorem dX4_lay_31 : decode cX4_lay 31 = .ok (.dup, 1) := by decide +kernel
theorem dX4_lay_32 : decode cX4_lay 32 = .ok (.ldc 81, 2) := by decide +kernel
theorem dX4_lay_34 : decode cX4_lay 34 = .ok (.invokespecial 83, 3) := by decide +kernel
theorem dX4_lay_37 : decode cX4_lay 37 = .ok (.athrow, 1) := by decide +kernel
theorem dX4_lay_38 : decode cX4_lay 38 = .ok (.aload_n 0, 1) := by decide +kernel
theorem dX4_lay_39 : decode cX4_lay 39 = .ok (.getfield 22, 3) := by decide +kernel
theorem dX4_lay_42 : decode cX4_lay 42 = .ok (.aload_n 0, 1) := by decide +kernel
theorem dX4_lay_43 : decode cX4_lay 43 = .ok (.getfield 10, 3) := by decide +kernel
theorem dX4_lay_46 : decode cX4_lay 46 = .ok (.invokevirtual 59, 3) := by decide +kernel
theorem dX4_lay_49 : decode cX4_lay 49 = .ok (.aload_n 0, 1) := by decide +kernel
theorem dX4_lay_50 : decode cX4_lay 50 = .ok (.getfield 10, 3) := by decide +kernel
theorem dX4_lay_53 : decode cX4_lay 53 = .ok (.iload_n 1, 1) := by decide +kernel
theorem dX4_lay_54 : decode cX4_lay 54 = .ok (.aload_n 0, 1) := by decide +kernel
theorem dX4_lay_55 : decode cX4_lay 55 = .ok (.getfield 10, 3) := by decide +kernel
theorem dX4_lay_58 : decode cX4_lay 58 = .ok (.iload_n 2, 1) := by decide +kernel
theorem dX4_lay_59 : decode cX4_lay 59 = .ok (.invokevirtual 84, 3) := by decide +kernel
theorem dX4_lay_62 : decode cX4_lay 62 = .ok (.invokevirtual 66, 3) := by decide +kernel
theorem dX4_lay_65 : decode cX4_lay 65 = .ok (.ireturn, 1) := by decide +kernel
set_option maxRecDepth 20000 in
theorem ggX4_guard_X4_isThread : GoodIn wsX4_guard wsX4_isThread := goodIn_r _ [9, 10, 11, 8, 12] (by decide +kernel) (by decide +kernel)
set_option maxRecDepth 20000 in
theorem gX4_guard_X4_isThread : GoodIn wsX4_guard (va_wsS RX4 45 yX4_isThread wsX4_isThread) := goodIn_app (goodIn_of _ (by decide +kernel)) ggX4_guard_X4_isThread
set_option maxRecDepth 20000 in
theorem ggX4_guard_X1_push : GoodIn wsX4_guard wsX1_push := goodIn_r _ [17, 18, 19, 20, 21, 22, 23, 24, 25, 26, 27, 28, 29, 30, 31, 32, 33, 34, 35, 36, 37, 38, 39, 40, 41, 42, 43, 44, 45, 46, 47, 48, 49, 50, 69, 70, 71, 61, 62, 63, 64, 65, 66, 67, 68, 72, 73, 74, 75, 76, 77, 78] (by decide +kernel) (by decide +kernel)
set_option maxRecDepth 20000 in
theorem gX4_guard_X1_push : GoodIn wsX4_guard (wsV RX4 59 RX1 yX1_push wsX1_push) := goodIn_app (goodIn_of _ (by decide +kernel)) ggX4_guard_X1_push
set_option maxRecDepth 20000 in
theorem ggX4_guard_X4_bit : GoodIn wsX4_guard wsX4_bit := goodIn_r _ [53] (by decide +kernel) (by decide +kernel)
set_option maxRecDepth 20000 in
theorem gX4_guard_X4_bit : GoodIn wsX4_guard (va_wsS RX4 70 yX4_bit wsX4_bit) := goodIn_app (goodIn_of _ (by decide +kernel)) ggX4_guard_X4_bit
theorem dX4_guard_0 : decode cX4_guard 0 = .ok (.iload_n 1, 1) := by decide +kernel
theorem dX4_guard_1 : decode cX4_guard 1 = .ok (.invokestatic 45, 3) := by decide +kernel
theorem dX4_guard_4 : decode cX4_guard 4 = .ok (.ifCond .ne 13, 3) := by decide +kernel
theorem dX4_guard_7 : decode cX4_guard 7 = .ok (.new 52, 3) := by decide +kernel
theorem dX4_guard_10 : decode cX4_guard 10 = .ok (.dup, 1) := by decide +kernel
theorem dX4_guard_11 : decode cX4_guard 11 = .ok (.ldc 73, 2) := by decide +kernel
theorem dX4_guard_13 : decode cX4_guard 13 = .ok (.invokespecial 56, 3) := by decide +kernel
theorem dX4_guard_16 : decode cX4_guard 16 = .ok (.athrow, 1) := by decide +kernel
theorem dX4_guard_17 : decode cX4_guard 17 = .ok (.aload_n 0, 1) := by decide +kernel
theorem dX4_guard_18 : decode cX4_guard 18 = .ok (.getfield 22, 3) := by decide +kernel
theorem dX4_guard_21 : decode cX4_guard 21 = .ok (.aload_n 0, 1) := by decide +kernel
theorem dX4_guard_22 : decode cX4_guard 22 = .ok (.getfield 10, 3) := by decide +kernel
theorem dX4_guard_25 : decode cX4_guard 25 = .ok (.invokevirtual 59, 3) := by decide +kernel
theorem dX4_guard_28 : decode cX4_guard 28 = .ok (.aload_n 0, 1) := by decide +kernel
theorem dX4_guard_29 : decode cX4_guard 29 = .ok (.getfield 10, 3) := by decide +kernel
theorem dX4_guard_32 : decode cX4_guard 32 = .ok (.aload_n 0, 1) := by decide +kernel
theorem dX4_guard_33 : decode cX4_guard 33 = .ok (.getfield 10, 3) := by decide +kernel
theorem dX4_guard_36 : decode cX4_guard 36 = .ok (.getfield 88, 3) := by decide +kernel
theorem dX4_guard_39 : decode cX4_guard 39 = .ok (.iconst 1, 1) := by decide +kernel
theorem dX4_guard_40 : decode cX4_guard 40 = .ok (.iload_n 1, 1) := by decide +kernel
theorem dX4_guard_41 : decode cX4_guard 41 = .ok (.ishl, 1) := by decide +kernel
theorem dX4_guard_42 : decode cX4_guard 42 = .ok (.ixor, 1) := by decide +kernel
theorem dX4_guard_43 : decode cX4_guard 43 = .ok (.putfield 88, 3) := by decide +kernel
theorem dX4_guard_46 : decode cX4_guard 46 = .ok (.aload_n 0, 1) := by decide +kernel
theorem dX4_guard_47 : decode cX4_guard 47 = .ok (.getfield 10, 3) := by decide +kernel
theorem dX4_guard_50 : decode cX4_guard 50 = .ok (.getfield 88, 3) := by decide +kernel
theorem dX4_guard_53 : decode cX4_guard 53 = .ok (.iload_n 1, 1) := by decide +kernel
theorem dX4_guard_54 : decode cX4_guard 54 = .ok (.invokestatic 70, 3) := by decide +kernel
theorem dX4_guard_57 : decode cX4_guard 57 = .ok (.ireturn, 1) := by decide +kernel
set_option maxRecDepth 20000 in
theorem ggX4_change_X4_isRing : GoodIn wsX4_change wsX4_isRing := goodIn_r _ [8, 9, 10, 7, 11] (by decide +kernel) (by decide +kernel)
set_option maxRecDepth 20000 in
theorem gX4_change_X4_isRing : GoodIn wsX4_change (va_wsS RX4 49 yX4_isRing wsX4_isRing) := goodIn_app (goodIn_of _ (by decide +kernel)) ggX4_change_X4_isRing
set_option maxRecDepth 20000 in
theorem ggX4_change_X1_push : GoodIn wsX4_change wsX1_push := goodIn_r _ [16, 17, 18, 19, 20, 21, 22, 23, 24, 25, 26, 27, 28, 29, 30, 31, 32, 33, 34, 35, 36, 37, 38, 39, 40, 41, 42, 43, 44, 45, 46, 47, 48, 49, 74, 75, 76, 77, 78, 79, 80, 81, 82, 83, 84, 85, 86, 87, 88, 89, 90, 91] (by decide +kernel) (by decide +kernel)
set_option maxRecDepth 20000 in
theorem gX4_change_X1_push : GoodIn wsX4_change (wsV RX4 59 RX1 yX1_push wsX1_push) := goodIn_app (goodIn_of _ (by decide +kernel)) ggX4_change_X1_push
set_option maxRecDepth 20000 in
theorem ggX4_change_X2_renewRing : GoodIn wsX4_change wsX2_renewRing := goodIn_r _ [53, 25, 31, 54, 55, 56, 23, 57, 58, 7, 59, 60, 61, 62, 63, 64, 65, 66, 77, 78, 79, 80, 81, 82, 83, 84] (by decide +kernel) (by decide +kernel)
set_option maxRecDepth 20000 in
theorem gX4_change_X2_renewRing : GoodIn wsX4_change (wsV RX4 94 RX2 yX2_renewRing wsX2_renewRing) := goodIn_app (goodIn_of _ (by decide +kernel)) ggX4_change_X2_renewRing
theorem dX4_change_0 : decode cX4_change 0 = .ok (.iload_n 1, 1) := by decide +kernel
theorem dX4_change_1 : decode cX4_change 1 = .ok (.invokestatic 49, 3) := by decide +kernel
theorem dX4_change_4 : decode cX4_change 4 = .ok (.ifCond .ne 13, 3) := by decide +kernel
theorem dX4_change_7 : decode cX4_change 7 = .ok (.new 52, 3) := by decide +kernel
theorem dX4_change_10 : decode cX4_change 10 = .ok (.dup, 1) := by decide +kernel
theorem dX4_change_11 : decode cX4_change 11 = .ok (.ldc 92, 2) := by decide +kernel
theorem dX4_change_13 : decode cX4_change 13 = .ok (.invokespecial 56, 3) := by decide +kernel
theorem dX4_change_16 : decode cX4_change 16 = .ok (.athrow, 1) := by decide +kernel
theorem dX4_change_17 : decode cX4_change 17 = .ok (.aload_n 0, 1) := by decide +kernel
theorem dX4_change_18 : decode cX4_change 18 = .ok (.getfield 22, 3) := by decide +kernel
theorem dX4_change_21 : decode cX4_change 21 = .ok (.aload_n 0, 1) := by decide +kernel
theorem dX4_change_22 : decode cX4_change 22 = .ok (.getfield 10, 3) := by decide +kernel
theorem dX4_change_25 : decode cX4_change 25 = .ok (.invokevirtual 59, 3) := by decide +kernel
theorem dX4_change_28 : decode cX4_change 28 = .ok (.aload_n 0, 1) := by decide +kernel
theorem dX4_change_29 : decode cX4_change 29 = .ok (.getfield 10, 3) := by decide +kernel
theorem dX4_change_32 : decode cX4_change 32 = .ok (.iload_n 1, 1) := by decide +kernel
theorem dX4_change_33 : decode cX4_change 33 = .ok (.invokevirtual 94, 3) := by decide +kernel
theorem dX4_change_36 : decode cX4_change 36 = .ok (.ireturn, 1) := by decide +kernel
set_option maxRecDepth 20000 in
theorem ggX4_set_X4_isSetting : GoodIn wsX4_set wsX4_isSetting := goodIn_r _ [11, 12, 13, 10, 14] (by decide +kernel) (by decide +kernel)
set_option maxRecDepth 20000 in
theorem gX4_set_X4_isSetting : GoodIn wsX4_set (va_wsS RX4 97 yX4_isSetting wsX4_isSetting) := goodIn_app (goodIn_of _ (by decide +kernel)) ggX4_set_X4_isSetting
set_option maxRecDepth 20000 in
theorem ggX4_set_X4_isWithin : GoodIn wsX4_set wsX4_isWithin := goodIn_r _ [14] (by decide +kernel) (by decide +kernel)
set_option maxRecDepth 20000 in
theorem gX4_set_X4_isWithin : GoodIn wsX4_set (va_wsS RX4 75 yX4_isWithin wsX4_isWithin) := goodIn_app (goodIn_of _ (by decide +kernel)) ggX4_set_X4_isWithin
set_option maxRecDepth 20000 in
theorem ggX4_set_X1_push : GoodIn wsX4_set wsX1_push := goodIn_r _ [19, 20, 21, 22, 23, 24, 25, 26, 27, 28, 29, 30, 31, 32, 33, 34, 35, 36, 37, 38, 39, 40, 41, 42, 43, 44, 45, 46, 47, 48, 49, 50, 51, 52, 68, 69, 70, 60, 61, 62, 63, 64, 65, 66, 67, 71, 72, 73, 74, 75, 76, 77] (by decide +kernel) (by decide +kernel)
set_option maxRecDepth 20000 in
theorem gX4_set_X1_push : GoodIn wsX4_set (wsV RX4 59 RX1 yX1_push wsX1_push) := goodIn_app (goodIn_of _ (by decide +kernel)) ggX4_set_X1_push
theorem dX4_set_0 : decode cX4_set 0 = .ok (.iload_n 1, 1) := by decide +kernel
theorem dX4_set_1 : decode cX4_set 1 = .ok (.invokestatic 97, 3) := by decide +kernel
theorem dX4_set_4 : decode cX4_set 4 = .ok (.ifCond .ne 13, 3) := by decide +kernel
theorem dX4_set_7 : decode cX4_set 7 = .ok (.new 52, 3) := by decide +kernel
theorem dX4_set_10 : decode cX4_set 10 = .ok (.dup, 1) := by decide +kernel
theorem dX4_set_11 : decode cX4_set 11 = .ok (.ldc 100, 2) := by decide +kernel
theorem dX4_set_13 : decode cX4_set 13 = .ok (.invokespecial 56, 3) := by decide +kernel
theorem dX4_set_16 : decode cX4_set 16 = .ok (.athrow, 1) := by decide +kernel
theorem dX4_set_17 : decode cX4_set 17 = .ok (.iload_n 2, 1) := by decide +kernel
theorem dX4_set_18 : decode cX4_set 18 = .ok (.iload_n 1, 1) := by decide +kernel
theorem dX4_set_19 : decode cX4_set 19 = .ok (.ifCond .ne 7, 3) := by decide +kernel
theorem dX4_set_22 : decode cX4_set 22 = .ok (.iconst 1, 1) := by decide +kernel
theorem dX4_set_23 : decode cX4_set 23 = .ok (.goto 4, 3) := by decide +kernel
theorem dX4_set_26 : decode cX4_set 26 = .ok (.iconst 0, 1) := by decide +kernel
theorem dX4_set_27 : decode cX4_set 27 = .ok (.iload_n 1, 1) := by decide +kernel
theorem dX4_set_28 : decode cX4_set 28 = .ok (.ifCond .ne 8, 3) := by decide +kernel
theorem dX4_set_31 : decode cX4_set 31 = .ok (.bipush 8, 2) := by decide +kernel
theorem dX4_set_33 : decode cX4_set 33 = .ok (.goto 4, 3) := by decide +kernel
theorem dX4_set_36 : decode cX4_set 36 = .ok (.iconst 1, 1) := by decide +kernel
theorem dX4_set_37 : decode cX4_set 37 = .ok (.invokestatic 75, 3) := by decide +kernel
theorem dX4_set_40 : decode cX4_set 40 = .ok (.ifCond .ne 13, 3) := by decide +kernel
theorem dX4_set_43 : decode cX4_set 43 = .ok (.new 79, 3) := by decide +kernel
theorem dX4_set_46 : decode cX4_set 46 = .ok (.dup, 1) := by decide +kernel
theorem dX4_set_47 : decode cX4_set 47 = .ok (.ldc 102, 2) := by decide +kernel
theorem dX4_set_49 : decode cX4_set 49 = .ok (.invokespecial 83, 3) := by decide +kernel
theorem dX4_set_52 : decode cX4_set 52 = .ok (.athrow, 1) := by decide +kernel
theorem dX4_set_53 : decode cX4_set 53 = .ok (.aload_n 0, 1) := by decide +kernel
theorem dX4_set_54 : decode cX4_set 54 = .ok (.getfield 22, 3) := by decide +kernel
theorem dX4_set_57 : decode cX4_set 57 = .ok (.aload_n 0, 1) := by decide +kernel
theorem dX4_set_58 : decode cX4_set 58 = .ok (.getfield 10, 3) := by decide +kernel
theorem dX4_set_61 : decode cX4_set 61 = .ok (.invokevirtual 59, 3) := by decide +kernel
theorem dX4_set_64 : decode cX4_set 64 = .ok (.aload_n 0, 1) := by decide +kernel
theorem dX4_set_65 : decode cX4_set 65 = .ok (.getfield 10, 3) := by decide +kernel
theorem dX4_set_68 : decode cX4_set 68 = .ok (.getfield 104, 3) := by decide +kernel
theorem dX4_set_71 : decode cX4_set 71 = .ok (.iload_n 1, 1) := by decide +kernel
theorem dX4_set_72 : decode cX4_set 72 = .ok (.iaload, 1) := by decide +kernel
theorem dX4_set_73 : decode cX4_set 73 = .ok (.istore_n 3, 1) := by decide +kernel
theorem dX4_set_74 : decode cX4_set 74 = .ok (.aload_n 0, 1) := by decide +kernel
theorem dX4_set_75 : decode cX4_set 75 = .ok (.getfield 10, 3) := by decide +kernel
theorem dX4_set_78 : decode cX4_set 78 = .ok (.getfield 104, 3) := by decide +kernel
theorem dX4_set_81 : decode cX4_set 81 = .ok (.iload_n 1, 1) := by decide +kernel
theorem dX4_set_82 : decode cX4_set 82 = .ok (.iload_n 2, 1) := by decide +kernel
theorem dX4_set_83 : decode cX4_set 83 = .ok (.iastore, 1) := by decide +kernel
theorem dX4_set_84 : decode cX4_set 84 = .ok (.iload_n 3, 1) := by decide +kernel
theorem dX4_set_85 : decode cX4_set 85 = .ok (.ireturn, 1) := by decide +kernel
set_option maxRecDepth 20000 in
theorem ggX4_read_X4_isThread : GoodIn wsX4_read wsX4_isThread := goodIn_r _ [8, 9, 10, 7, 11] (by decide +kernel) (by decide +kernel)
set_option maxRecDepth 20000 in
theorem gX4_read_X4_isThread : GoodIn wsX4_read (va_wsS RX4 45 yX4_isThread wsX4_isThread) := goodIn_app (goodIn_of _ (by decide +kernel)) ggX4_read_X4_isThread
set_option maxRecDepth 20000 in
theorem ggX4_read_X1_push : GoodIn wsX4_read wsX1_push := goodIn_r _ [16, 17, 18, 19, 20, 21, 22, 23, 24, 25, 26, 27, 28, 29, 30, 31, 32, 33, 34, 35, 36, 37, 38, 39, 40, 41, 42, 43, 44, 45, 46, 47, 48, 49, 94, 95, 96, 97, 98, 99, 100, 101, 102, 103, 104, 105, 106, 107, 108, 109, 110, 111] (by decide +kernel) (by decide +kernel)
set_option maxRecDepth 20000 in
theorem gX4_read_X1_push : GoodIn wsX4_read (wsV RX4 59 RX1 yX1_push wsX1_push) := goodIn_app (goodIn_of _ (by decide +kernel)) ggX4_read_X1_push
set_option maxRecDepth 20000 in
theorem ggX4_read_X2_takeReading : GoodIn wsX4_read wsX2_takeReading := goodIn_r _ [53, 25, 30, 36, 54, 55, 56, 23, 57, 58, 59, 60, 61, 32, 62, 7, 63, 64, 65, 66, 67, 68, 69, 70, 71, 31, 72, 73, 74, 75, 34, 76, 77, 78, 79, 80, 81, 82, 83, 84, 85, 86, 97, 98, 99, 100, 101, 102, 103, 104] (by decide +kernel) (by decide +kernel)
set_option maxRecDepth 20000 in
theorem gX4_read_X2_takeReading : GoodIn wsX4_read (wsV RX4 107 RX2 yX2_takeReading wsX2_takeReading) := goodIn_app (goodIn_of _ (by decide +kernel)) ggX4_read_X2_takeReading
theorem dX4_read_0 : decode cX4_read 0 = .ok (.iload_n 1, 1) := by decide +kernel
theorem dX4_read_1 : decode cX4_read 1 = .ok (.invokestatic 45, 3) := by decide +kernel
theorem dX4_read_4 : decode cX4_read 4 = .ok (.ifCond .ne 13, 3) := by decide +kernel
theorem dX4_read_7 : decode cX4_read 7 = .ok (.new 52, 3) := by decide +kernel
theorem dX4_read_10 : decode cX4_read 10 = .ok (.dup, 1) := by decide +kernel
theorem dX4_read_11 : decode cX4_read 11 = .ok (.ldc 73, 2) := by decide +kernel
theorem dX4_read_13 : decode cX4_read 13 = .ok (.invokespecial 56, 3) := by decide +kernel
theorem dX4_read_16 : decode cX4_read 16 = .ok (.athrow, 1) := by decide +kernel
theorem dX4_read_17 : decode cX4_read 17 = .ok (.aload_n 0, 1) := by decide +kernel
theorem dX4_read_18 : decode cX4_read 18 = .ok (.getfield 22, 3) := by decide +kernel
theorem dX4_read_21 : decode cX4_read 21 = .ok (.aload_n 0, 1) := by decide +kernel
theorem dX4_read_22 : decode cX4_read 22 = .ok (.getfield 10, 3) := by decide +kernel
theorem dX4_read_25 : decode cX4_read 25 = .ok (.invokevirtual 59, 3) := by decide +kernel
theorem dX4_read_28 : decode cX4_read 28 = .ok (.aload_n 0, 1) := by decide +kernel
theorem dX4_read_29 : decode cX4_read 29 = .ok (.getfield 10, 3) := by decide +kernel
theorem dX4_read_32 : decode cX4_read 32 = .ok (.iload_n 1, 1) := by decide +kernel
theorem dX4_read_33 : decode cX4_read 33 = .ok (.invokevirtual 107, 3) := by decide +kernel
theorem dX4_read_36 : decode cX4_read 36 = .ok (.ireturn, 1) := by decide +kernel
set_option maxRecDepth 20000 in
theorem ggX4_start_X1_push : GoodIn wsX4_start wsX1_push := goodIn_r _ [9, 10, 11, 12, 13, 14, 15, 16, 17, 18, 19, 20, 21, 22, 23, 24, 25, 26, 27, 28, 29, 30, 31, 32, 33, 34, 35, 36, 37, 38, 39, 40, 41, 42, 69, 70, 71, 54, 55, 56, 57, 58, 59, 60, 61, 62, 63, 64, 65, 66, 67, 68] (by decide +kernel) (by decide +kernel)
set_option maxRecDepth 20000 in
theorem gX4_start_X1_push : GoodIn wsX4_start (wsV RX4 59 RX1 yX1_push wsX1_push) := goodIn_app (goodIn_of _ (by decide +kernel)) ggX4_start_X1_push
set_option maxRecDepth 20000 in
theorem ggX4_start_X0_begin : GoodIn wsX4_start wsX0_begin := goodIn_r _ [46, 35, 37, 38, 39, 40, 41, 42, 62, 63, 64, 65, 66, 67, 68] (by decide +kernel) (by decide +kernel)
set_option maxRecDepth 20000 in
theorem gX4_start_X0_begin : GoodIn wsX4_start (wsV RX4 119 RX0 yX0_begin wsX0_begin) := goodIn_app (goodIn_of _ (by decide +kernel)) ggX4_start_X0_begin
theorem dX4_start_0 : decode cX4_start 0 = .ok (.aload_n 0, 1) := by decide +kernel
theorem dX4_start_1 : decode cX4_start 1 = .ok (.getfield 22, 3) := by decide +kernel
theorem dX4_start_4 : decode cX4_start 4 = .ok (.aload_n 0, 1) := by decide +kernel
theorem dX4_start_5 : decode cX4_start 5 = .ok (.getfield 10, 3) := by decide +kernel
theorem dX4_start_8 : decode cX4_start 8 = .ok (.invokevirtual 59, 3) := by decide +kernel
theorem dX4_start_11 : decode cX4_start 11 = .ok (.aload_n 0, 1) := by decide +kernel
theorem dX4_start_12 : decode cX4_start 12 = .ok (.getfield 10, 3) := by decide +kernel
theorem dX4_start_15 : decode cX4_start 15 = .ok (.getfield 110, 3) := by decide +kernel
theorem dX4_start_18 : decode cX4_start 18 = .ok (.getfield 114, 3) := by decide +kernel
theorem dX4_start_21 : decode cX4_start 21 = .ok (.istore_n 1, 1) := by decide +kernel
theorem dX4_start_22 : decode cX4_start 22 = .ok (.aload_n 0, 1) := by decide +kernel
theorem dX4_start_23 : decode cX4_start 23 = .ok (.getfield 10, 3) := by decide +kernel
theorem dX4_start_26 : decode cX4_start 26 = .ok (.getfield 110, 3) := by decide +kernel
theorem dX4_start_29 : decode cX4_start 29 = .ok (.invokevirtual 119, 3) := by decide +kernel
theorem dX4_start_32 : decode cX4_start 32 = .ok (.iload_n 1, 1) := by decide +kernel
theorem dX4_start_33 : decode cX4_start 33 = .ok (.ireturn, 1) := by decide +kernel
set_option maxRecDepth 20000 in
theorem ggX4_go_X4_isWithin : GoodIn wsX4_go wsX4_isWithin := goodIn_r _ [8] (by decide +kernel) (by decide +kernel)
set_option maxRecDepth 20000 in
theorem gX4_go_X4_isWithin : GoodIn wsX4_go (va_wsS RX4 75 yX4_isWithin wsX4_isWithin) := goodIn_app (goodIn_of _ (by decide +kernel)) ggX4_go_X4_isWithin
set_option maxRecDepth 20000 in
theorem ggX4_go_X1_push : GoodIn wsX4_go wsX1_push := goodIn_r _ [13, 14, 15, 16, 17, 18, 19, 20, 21, 22, 23, 24, 25, 26, 27, 28, 29, 30, 31, 32, 33, 34, 35, 36, 37, 38, 39, 40, 41, 42, 43, 44, 45, 46, 105, 106, 107, 108, 109, 110, 111, 112, 113, 114, 115, 116, 117, 118, 119, 120, 121, 122] (by decide +kernel) (by decide +kernel)
set_option maxRecDepth 20000 in
theorem gX4_go_X1_push : GoodIn wsX4_go (wsV RX4 59 RX1 yX1_push wsX1_push) := goodIn_app (goodIn_of _ (by decide +kernel)) ggX4_go_X1_push
set_option maxRecDepth 20000 in
theorem ggX4_go_X2_run : GoodIn wsX4_go wsX2_run := goodIn_r _ [50, 30, 51, 52, 53, 54, 55, 20, 56, 22, 27, 33, 57, 58, 59, 60, 61, 62, 63, 64, 29, 65, 7, 66, 67, 68, 69, 70, 71, 72, 73, 74, 28, 75, 76, 77, 78, 31, 79, 80, 81, 82, 83, 84, 85, 86, 87, 88, 89, 90, 91, 92, 37, 93, 45, 42, 44, 43, 39, 94, 95, 96, 97, 41, 46, 108, 109, 110, 111, 112, 113, 114, 115, 116, 117, 118, 119, 120, 121, 122] (by decide +kernel) (by decide +kernel)
set_option maxRecDepth 20000 in
theorem gX4_go_X2_run : GoodIn wsX4_go (wsV RX4 124 RX2 yX2_run wsX2_run) := goodIn_app (goodIn_of _ (by decide +kernel)) ggX4_go_X2_run
theorem dX4_go_0 : decode cX4_go 0 = .ok (.iload_n 1, 1) := by decide +kernel
theorem dX4_go_1 : decode cX4_go 1 = .ok (.iconst 1, 1) := by decide +kernel
theorem dX4_go_2 : decode cX4_go 2 = .ok (.bipush 99, 2) := by decide +kernel
theorem dX4_go_4 : decode cX4_go 4 = .ok (.invokestatic 75, 3) := by decide +kernel
theorem dX4_go_7 : decode cX4_go 7 = .ok (.ifCond .ne 13, 3) := by decide +kernel
theorem dX4_go_10 : decode cX4_go 10 = .ok (.new 79, 3) := by decide +kernel
theorem dX4_go_13 : decode cX4_go 13 = .ok (.dup, 1) := by decide +kernel
theorem dX4_go_14 : decode cX4_go 14 = .ok (.ldc 122, 2) := by decide +kernel
theorem dX4_go_16 : decode cX4_go 16 = .ok (.invokespecial 83, 3) := by decide +kernel
theorem dX4_go_19 : decode cX4_go 19 = .ok (.athrow, 1) := by decide +kernel
theorem dX4_go_20 : decode cX4_go 20 = .ok (.aload_n 0, 1) := by decide +kernel
theorem dX4_go_21 : decode cX4_go 21 = .ok (.getfield 22, 3) := by decide +kernel
theorem dX4_go_24 : decode cX4_go 24 = .ok (.aload_n 0, 1) := by decide +kernel
theorem dX4_go_25 : decode cX4_go 25 = .ok (.getfield 10, 3) := by decide +kernel
theorem dX4_go_28 : decode cX4_go 28 = .ok (.invokevirtual 59, 3) := by decide +kernel
theorem dX4_go_31 : decode cX4_go 31 = .ok (.aload_n 0, 1) := by decide +kernel
theorem dX4_go_32 : decode cX4_go 32 = .ok (.getfield 10, 3) := by decide +kernel
theorem dX4_go_35 : decode cX4_go 35 = .ok (.iload_n 1, 1) := by decide +kernel
theorem dX4_go_36 : decode cX4_go 36 = .ok (.invokevirtual 124, 3) := by decide +kernel
theorem dX4_go_39 : decode cX4_go 39 = .ok (.ireturn, 1) := by decide +kernel
set_option maxRecDepth 20000 in
theorem ggX4_keep_X4_isSlot : GoodIn wsX4_keep wsX4_isSlot := goodIn_r _ [9, 10, 11, 8, 12] (by decide +kernel) (by decide +kernel)
set_option maxRecDepth 20000 in
theorem gX4_keep_X4_isSlot : GoodIn wsX4_keep (va_wsS RX4 165 yX4_isSlot wsX4_isSlot) := goodIn_app (goodIn_of _ (by decide +kernel)) ggX4_keep_X4_isSlot
set_option maxRecDepth 20000 in
theorem ggX4_keep_X2_become : GoodIn wsX4_keep wsX2_become := goodIn_r _ [17, 18, 19, 20, 21, 22, 23, 24, 25, 26, 27, 28, 29, 30, 31, 32, 33, 34, 35, 36, 37, 38, 39, 40, 41, 42, 61, 62, 63, 64, 65, 66, 67, 68, 69, 70, 71, 72, 73, 74, 75] (by decide +kernel) (by decide +kernel)
set_option maxRecDepth 20000 in
theorem gX4_keep_X2_become : GoodIn wsX4_keep (wsV RX4 170 RX2 yX2_become wsX2_become) := goodIn_app (goodIn_of _ (by decide +kernel)) ggX4_keep_X2_become
set_option maxRecDepth 20000 in
theorem ggX4_keep_X2_crossingsByThreads : GoodIn wsX4_keep wsX2_crossingsByThreads := goodIn_r _ [46, 18, 47, 48, 49, 50, 51, 52, 53, 61, 62, 63, 64, 65, 66, 67, 68] (by decide +kernel) (by decide +kernel)
set_option maxRecDepth 20000 in
theorem gX4_keep_X2_crossingsByThreads : GoodIn wsX4_keep (wsV RX4 173 RX2 yX2_crossingsByThreads wsX2_crossingsByThreads) := goodIn_app (goodIn_of _ (by decide +kernel)) ggX4_keep_X2_crossingsByThreads
theorem dX4_keep_0 : decode cX4_keep 0 = .ok (.iload_n 1, 1) := by decide +kernel
theorem dX4_keep_1 : decode cX4_keep 1 = .ok (.invokestatic 165, 3) := by decide +kernel
theorem dX4_keep_4 : decode cX4_keep 4 = .ok (.ifCond .ne 13, 3) := by decide +kernel
theorem dX4_keep_7 : decode cX4_keep 7 = .ok (.new 79, 3) := by decide +kernel
theorem dX4_keep_10 : decode cX4_keep 10 = .ok (.dup, 1) := by decide +kernel
theorem dX4_keep_11 : decode cX4_keep 11 = .ok (.ldc 168, 2) := by decide +kernel
theorem dX4_keep_13 : decode cX4_keep 13 = .ok (.invokespecial 83, 3) := by decide +kernel
theorem dX4_keep_16 : decode cX4_keep 16 = .ok (.athrow, 1) := by decide +kernel
theorem dX4_keep_17 : decode cX4_keep 17 = .ok (.aload_n 0, 1) := by decide +kernel
theorem dX4_keep_18 : decode cX4_keep 18 = .ok (.getfield 26, 3) := by decide +kernel
theorem dX4_keep_21 : decode cX4_keep 21 = .ok (.iload_n 1, 1) := by decide +kernel
theorem dX4_keep_22 : decode cX4_keep 22 = .ok (.aaload, 1) := by decide +kernel
theorem dX4_keep_23 : decode cX4_keep 23 = .ok (.aload_n 0, 1) := by decide +kernel
theorem dX4_keep_24 : decode cX4_keep 24 = .ok (.getfield 10, 3) := by decide +kernel
theorem dX4_keep_27 : decode cX4_keep 27 = .ok (.invokevirtual 170, 3) := by decide +kernel
theorem dX4_keep_30 : decode cX4_keep 30 = .ok (.aload_n 0, 1) := by decide +kernel
theorem dX4_keep_31 : decode cX4_keep 31 = .ok (.getfield 30, 3) := by decide +kernel
theorem dX4_keep_34 : decode cX4_keep 34 = .ok (.iload_n 1, 1) := by decide +kernel
theorem dX4_keep_35 : decode cX4_keep 35 = .ok (.iconst 1, 1) := by decide +kernel
theorem dX4_keep_36 : decode cX4_keep 36 = .ok (.bastore, 1) := by decide +kernel
theorem dX4_keep_37 : decode cX4_keep 37 = .ok (.aload_n 0, 1) := by decide +kernel
theorem dX4_keep_38 : decode cX4_keep 38 = .ok (.getfield 10, 3) := by decide +kernel
theorem dX4_keep_41 : decode cX4_keep 41 = .ok (.invokevirtual 173, 3) := by decide +kernel
theorem dX4_keep_44 : decode cX4_keep 44 = .ok (.ireturn, 1) := by decide +kernel
set_option maxRecDepth 20000 in
theorem ggX4_goBack_X4_isSlot : GoodIn wsX4_goBack wsX4_isSlot := goodIn_r _ [12, 13, 14, 11, 15] (by decide +kernel) (by decide +kernel)
set_option maxRecDepth 20000 in
theorem gX4_goBack_X4_isSlot : GoodIn wsX4_goBack (va_wsS RX4 165 yX4_isSlot wsX4_isSlot) := goodIn_app (goodIn_of _ (by decide +kernel)) ggX4_goBack_X4_isSlot
set_option maxRecDepth 20000 in
theorem ggX4_goBack_X1_push : GoodIn wsX4_goBack wsX1_push := goodIn_r _ [20, 21, 22, 23, 24, 25, 26, 27, 28, 29, 30, 31, 32, 33, 34, 35, 36, 37, 38, 39, 40, 41, 42, 43, 44, 45, 46, 47, 48, 49, 50, 51, 52, 53, 73, 74, 75, 76, 77, 78, 79, 80, 81, 82, 83, 84, 85, 86, 87, 88, 89, 90] (by decide +kernel) (by decide +kernel)
set_option maxRecDepth 20000 in
theorem gX4_goBack_X1_push : GoodIn wsX4_goBack (wsV RX4 59 RX1 yX1_push wsX1_push) := goodIn_app (goodIn_of _ (by decide +kernel)) ggX4_goBack_X1_push
set_option maxRecDepth 20000 in
theorem ggX4_goBack_X2_become : GoodIn wsX4_goBack wsX2_become := goodIn_r _ [28, 29, 30, 31, 32, 33, 34, 35, 36, 37, 38, 39, 40, 41, 42, 43, 44, 45, 46, 47, 48, 49, 50, 51, 52, 53, 76, 77, 78, 79, 80, 81, 82, 83, 84, 85, 86, 87, 88, 89, 90] (by decide +kernel) (by decide +kernel)
set_option maxRecDepth 20000 in
theorem gX4_goBack_X2_become : GoodIn wsX4_goBack (wsV RX4 170 RX2 yX2_become wsX2_become) := goodIn_app (goodIn_of _ (by decide +kernel)) ggX4_goBack_X2_become
set_option maxRecDepth 20000 in
theorem ggX4_goBack_X2_crossingsByThreads : GoodIn wsX4_goBack wsX2_crossingsByThreads := goodIn_r _ [58, 29, 59, 60, 61, 62, 63, 64, 65, 76, 77, 78, 79, 80, 81, 82, 83] (by decide +kernel) (by decide +kernel)
set_option maxRecDepth 20000 in
theorem gX4_goBack_X2_crossingsByThreads : GoodIn wsX4_goBack (wsV RX4 173 RX2 yX2_crossingsByThreads wsX2_crossingsByThreads) := goodIn_app (goodIn_of _ (by decide +kernel)) ggX4_goBack_X2_crossingsByThreads
theorem dX4_goBack_0 : decode cX4_goBack 0 = .ok (.iload_n 1, 1) := by decide +kernel
theorem dX4_goBack_1 : decode cX4_goBack 1 = .ok (.invokestatic 165, 3) := by decide +kernel
theorem dX4_goBack_4 : decode cX4_goBack 4 = .ok (.ifCond .ne 13, 3) := by decide +kernel
theorem dX4_goBack_7 : decode cX4_goBack 7 = .ok (.new 79, 3) := by decide +kernel
theorem dX4_goBack_10 : decode cX4_goBack 10 = .ok (.dup, 1) := by decide +kernel
theorem dX4_goBack_11 : decode cX4_goBack 11 = .ok (.ldc 168, 2) := by decide +kernel
theorem dX4_goBack_13 : decode cX4_goBack 13 = .ok (.invokespecial 83, 3) := by decide +kernel
theorem dX4_goBack_16 : decode cX4_goBack 16 = .ok (.athrow, 1) := by decide +kernel
theorem dX4_goBack_17 : decode cX4_goBack 17 = .ok (.aload_n 0, 1) := by decide +kernel
theorem dX4_goBack_18 : decode cX4_goBack 18 = .ok (.getfield 30, 3) := by decide +kernel
theorem dX4_goBack_21 : decode cX4_goBack 21 = .ok (.iload_n 1, 1) := by decide +kernel
theorem dX4_goBack_22 : decode cX4_goBack 22 = .ok (.baload, 1) := by decide +kernel
theorem dX4_goBack_23 : decode cX4_goBack 23 = .ok (.ifCond .ne 13, 3) := by decide +kernel
theorem dX4_goBack_26 : decode cX4_goBack 26 = .ok (.new 132, 3) := by decide +kernel
theorem dX4_goBack_29 : decode cX4_goBack 29 = .ok (.dup, 1) := by decide +kernel
theorem dX4_goBack_30 : decode cX4_goBack 30 = .ok (.ldc 176, 2) := by decide +kernel
theorem dX4_goBack_32 : decode cX4_goBack 32 = .ok (.invokespecial 136, 3) := by decide +kernel
theorem dX4_goBack_35 : decode cX4_goBack 35 = .ok (.athrow, 1) := by decide +kernel
theorem dX4_goBack_36 : decode cX4_goBack 36 = .ok (.aload_n 0, 1) := by decide +kernel
theorem dX4_goBack_37 : decode cX4_goBack 37 = .ok (.getfield 22, 3) := by decide +kernel
theorem dX4_goBack_40 : decode cX4_goBack 40 = .ok (.aload_n 0, 1) := by decide +kernel
theorem dX4_goBack_41 : decode cX4_goBack 41 = .ok (.getfield 10, 3) := by decide +kernel
theorem dX4_goBack_44 : decode cX4_goBack 44 = .ok (.invokevirtual 59, 3) := by decide +kernel
theorem dX4_goBack_47 : decode cX4_goBack 47 = .ok (.aload_n 0, 1) := by decide +kernel
theorem dX4_goBack_48 : decode cX4_goBack 48 = .ok (.getfield 10, 3) := by decide +kernel
theorem dX4_goBack_51 : decode cX4_goBack 51 = .ok (.aload_n 0, 1) := by decide +kernel
theorem dX4_goBack_52 : decode cX4_goBack 52 = .ok (.getfield 26, 3) := by decide +kernel
theorem dX4_goBack_55 : decode cX4_goBack 55 = .ok (.iload_n 1, 1) := by decide +kernel
theorem dX4_goBack_56 : decode cX4_goBack 56 = .ok (.aaload, 1) := by decide +kernel
theorem dX4_goBack_57 : decode cX4_goBack 57 = .ok (.invokevirtual 170, 3) := by decide +kernel
theorem dX4_goBack_60 : decode cX4_goBack 60 = .ok (.aload_n 0, 1) := by decide +kernel
theorem dX4_goBack_61 : decode cX4_goBack 61 = .ok (.getfield 10, 3) := by decide +kernel
theorem dX4_goBack_64 : decode cX4_goBack 64 = .ok (.invokevirtual 173, 3) := by decide +kernel
theorem dX4_goBack_67 : decode cX4_goBack 67 = .ok (.ireturn, 1) := by decide +kernel
set_option maxRecDepth 20000 in
theorem ggX4_undo_X1_popInto : GoodIn wsX4_undo wsX1_popInto := goodIn_r _ [10, 11, 12, 13, 14, 15, 16, 17, 18, 19, 20, 21, 22, 23, 24, 25, 26, 27, 28, 29, 30, 31, 32, 33, 34, 35, 36, 37, 38, 39, 40, 41, 42, 43, 51, 52, 53, 54, 55, 56, 57, 58, 59, 60, 61, 62, 63, 64, 65, 66, 67, 68] (by decide +kernel) (by decide +kernel)
set_option maxRecDepth 20000 in
theorem gX4_undo_X1_popInto : GoodIn wsX4_undo (wsV RX4 183 RX1 yX1_popInto wsX1_popInto) := goodIn_app (goodIn_of _ (by decide +kernel)) ggX4_undo_X1_popInto
theorem dX4_undo_0 : decode cX4_undo 0 = .ok (.aload_n 0, 1) := by decide +kernel
theorem dX4_undo_1 : decode cX4_undo 1 = .ok (.getfield 22, 3) := by decide +kernel
theorem dX4_undo_4 : decode cX4_undo 4 = .ok (.getfield 178, 3) := by decide +kernel
theorem dX4_undo_7 : decode cX4_undo 7 = .ok (.ifCond .ne 13, 3) := by decide +kernel
theorem dX4_undo_10 : decode cX4_undo 10 = .ok (.new 132, 3) := by decide +kernel
theorem dX4_undo_13 : decode cX4_undo 13 = .ok (.dup, 1) := by decide +kernel
theorem dX4_undo_14 : decode cX4_undo 14 = .ok (.ldc 181, 2) := by decide +kernel
theorem dX4_undo_16 : decode cX4_undo 16 = .ok (.invokespecial 136, 3) := by decide +kernel
theorem dX4_undo_19 : decode cX4_undo 19 = .ok (.athrow, 1) := by decide +kernel
theorem dX4_undo_20 : decode cX4_undo 20 = .ok (.aload_n 0, 1) := by decide +kernel
theorem dX4_undo_21 : decode cX4_undo 21 = .ok (.getfield 22, 3) := by decide +kernel
theorem dX4_undo_24 : decode cX4_undo 24 = .ok (.aload_n 0, 1) := by decide +kernel
theorem dX4_undo_25 : decode cX4_undo 25 = .ok (.getfield 10, 3) := by decide +kernel
theorem dX4_undo_28 : decode cX4_undo 28 = .ok (.invokevirtual 183, 3) := by decide +kernel
theorem dX4_undo_31 : decode cX4_undo 31 = .ok (.aload_n 0, 1) := by decide +kernel
theorem dX4_undo_32 : decode cX4_undo 32 = .ok (.getfield 22, 3) := by decide +kernel
theorem dX4_undo_35 : decode cX4_undo 35 = .ok (.getfield 178, 3) := by decide +kernel
theorem dX4_undo_38 : decode cX4_undo 38 = .ok (.ireturn, 1) := by decide +kernel
set_option maxRecDepth 20000 in
theorem ggX4_threadOf_X4_isThread : GoodIn wsX4_threadOf wsX4_isThread := goodIn_r _ [12, 13, 14, 11, 15] (by decide +kernel) (by decide +kernel)
set_option maxRecDepth 20000 in
theorem gX4_threadOf_X4_isThread : GoodIn wsX4_threadOf (va_wsS RX4 45 yX4_isThread wsX4_isThread) := goodIn_app (goodIn_of _ (by decide +kernel)) ggX4_threadOf_X4_isThread
set_option maxRecDepth 20000 in
theorem ggX4_threadOf_X4_bit : GoodIn wsX4_threadOf wsX4_bit := goodIn_r _ [18] (by decide +kernel) (by decide +kernel)
set_option maxRecDepth 20000 in
theorem gX4_threadOf_X4_bit : GoodIn wsX4_threadOf (va_wsS RX4 70 yX4_bit wsX4_bit) := goodIn_app (goodIn_of _ (by decide +kernel)) ggX4_threadOf_X4_bit
set_option maxRecDepth 20000 in
theorem ggX4_threadOf_X2_means : GoodIn wsX4_threadOf wsX2_means := goodIn_r _ [23, 24, 25, 26, 27, 22, 28, 29, 67, 68, 69, 70, 71, 72, 73, 74] (by decide +kernel) (by decide +kernel)
set_option maxRecDepth 20000 in
theorem gX4_threadOf_X2_means : GoodIn wsX4_threadOf (wsV RX4 186 RX2 yX2_means wsX2_means) := goodIn_app (goodIn_of _ (by decide +kernel)) ggX4_threadOf_X2_means
set_option maxRecDepth 20000 in
theorem ggX4_threadOf_X2_tells : GoodIn wsX4_threadOf wsX2_tells := goodIn_r _ [33, 34, 35, 36, 22, 37, 24, 29, 17, 11, 18, 38, 39, 40, 41, 42, 43, 44, 45, 46, 47, 48, 49, 50, 51, 25, 26, 27, 28, 67, 68, 69, 70, 71, 72, 73, 74] (by decide +kernel) (by decide +kernel)
set_option maxRecDepth 20000 in
theorem gX4_threadOf_X2_tells : GoodIn wsX4_threadOf (wsV RX4 159 RX2 yX2_tells wsX2_tells) := goodIn_app (goodIn_of _ (by decide +kernel)) ggX4_threadOf_X2_tells
set_option maxRecDepth 20000 in
theorem ggX4_threadOf_J6_bitCount_0f7a4 : GoodIn wsX4_threadOf wsJ6_bitCount_0f7a4 := goodIn_r _ [55, 56, 57, 58] (by decide +kernel) (by decide +kernel)
set_option maxRecDepth 20000 in
theorem gX4_threadOf_J6_bitCount_0f7a4 : GoodIn wsX4_threadOf (va_wsS RX4 189 yJ6_bitCount_0f7a4 wsJ6_bitCount_0f7a4) := goodIn_app (goodIn_of _ (by decide +kernel)) ggX4_threadOf_J6_bitCount_0f7a4
set_option maxRecDepth 20000 in
theorem ggX4_threadOf_X2_answering : GoodIn wsX4_threadOf wsX2_answering := goodIn_r _ [37, 24, 29, 17, 11, 18, 38, 39, 40, 22, 41, 42, 43, 44, 45, 46, 47, 48, 49, 50, 51, 67, 68, 69, 70, 71, 72, 73, 74] (by decide +kernel) (by decide +kernel)
set_option maxRecDepth 20000 in
theorem gX4_threadOf_X2_answering : GoodIn wsX4_threadOf (wsV RX4 194 RX2 yX2_answering wsX2_answering) := goodIn_app (goodIn_of _ (by decide +kernel)) ggX4_threadOf_X2_answering
theorem dX4_threadOf_0 : decode cX4_threadOf 0 = .ok (.iload_n 1, 1) := by decide +kernel
theorem dX4_threadOf_1 : decode cX4_threadOf 1 = .ok (.invokestatic 45, 3) := by decide +kernel
theorem dX4_threadOf_4 : decode cX4_threadOf 4 = .ok (.ifCond .ne 13, 3) := by decide +kernel
theorem dX4_threadOf_7 : decode cX4_threadOf 7 = .ok (.new 52, 3) := by decide +kernel
theorem dX4_threadOf_10 : decode cX4_threadOf 10 = .ok (.dup, 1) := by decide +kernel
theorem dX4_threadOf_11 : decode cX4_threadOf 11 = .ok (.ldc 73, 2) := by decide +kernel
theorem dX4_threadOf_13 : decode cX4_threadOf 13 = .ok (.invokespecial 56, 3) := by decide +kernel
theorem dX4_threadOf_16 : decode cX4_threadOf 16 = .ok (.athrow, 1) := by decide +kernel
theorem dX4_threadOf_17 : decode cX4_threadOf 17 = .ok (.iload_n 2, 1) := by decide +kernel
theorem dX4_threadOf_18 : decode cX4_threadOf 18 = .ok (.tableswitch 159 0 7 #[46, 56, 68, 77, 86, 107, 128, 149], 46) := by decide +kernel
theorem dX4_threadOf_64 : decode cX4_threadOf 64 = .ok (.aload_n 0, 1) := by decide +kernel
theorem dX4_threadOf_65 : decode cX4_threadOf 65 = .ok (.getfield 10, 3) := by decide +kernel
theorem dX4_threadOf_68 : decode cX4_threadOf 68 = .ok (.getfield 63, 3) := by decide +kernel
theorem dX4_threadOf_71 : decode cX4_threadOf 71 = .ok (.iload_n 1, 1) := by decide +kernel
theorem dX4_threadOf_72 : decode cX4_threadOf 72 = .ok (.iaload, 1) := by decide +kernel
theorem dX4_threadOf_73 : decode cX4_threadOf 73 = .ok (.ireturn, 1) := by decide +kernel
theorem dX4_threadOf_74 : decode cX4_threadOf 74 = .ok (.aload_n 0, 1) := by decide +kernel
theorem dX4_threadOf_75 : decode cX4_threadOf 75 = .ok (.getfield 10, 3) := by decide +kernel
theorem dX4_threadOf_78 : decode cX4_threadOf 78 = .ok (.getfield 88, 3) := by decide +kernel
theorem dX4_threadOf_81 : decode cX4_threadOf 81 = .ok (.iload_n 1, 1) := by decide +kernel
theorem dX4_threadOf_82 : decode cX4_threadOf 82 = .ok (.invokestatic 70, 3) := by decide +kernel
theorem dX4_threadOf_85 : decode cX4_threadOf 85 = .ok (.ireturn, 1) := by decide +kernel
theorem dX4_threadOf_86 : decode cX4_threadOf 86 = .ok (.aload_n 0, 1) := by decide +kernel
theorem dX4_threadOf_87 : decode cX4_threadOf 87 = .ok (.getfield 10, 3) := by decide +kernel
theorem dX4_threadOf_90 : decode cX4_threadOf 90 = .ok (.iload_n 1, 1) := by decide +kernel
theorem dX4_threadOf_91 : decode cX4_threadOf 91 = .ok (.invokevirtual 186, 3) := by decide +kernel
theorem dX4_threadOf_94 : decode cX4_threadOf 94 = .ok (.ireturn, 1) := by decide +kernel
theorem dX4_threadOf_95 : decode cX4_threadOf 95 = .ok (.aload_n 0, 1) := by decide +kernel
theorem dX4_threadOf_96 : decode cX4_threadOf 96 = .ok (.getfield 10, 3) := by decide +kernel
theorem dX4_threadOf_99 : decode cX4_threadOf 99 = .ok (.iload_n 1, 1) := by decide +kernel
theorem dX4_threadOf_100 : decode cX4_threadOf 100 = .ok (.invokevirtual 159, 3) := by decide +kernel
theorem dX4_threadOf_103 : decode cX4_threadOf 103 = .ok (.ireturn, 1) := by decide +kernel
theorem dX4_threadOf_104 : decode cX4_threadOf 104 = .ok (.aload_n 0, 1) := by decide +kernel
theorem dX4_threadOf_105 : decode cX4_threadOf 105 = .ok (.getfield 10, 3) := by decide +kernel
theorem dX4_threadOf_108 : decode cX4_threadOf 108 = .ok (.iload_n 1, 1) := by decide +kernel
theorem dX4_threadOf_109 : decode cX4_threadOf 109 = .ok (.invokevirtual 186, 3) := by decide +kernel
theorem dX4_threadOf_112 : decode cX4_threadOf 112 = .ok (.aload_n 0, 1) := by decide +kernel
theorem dX4_threadOf_113 : decode cX4_threadOf 113 = .ok (.getfield 10, 3) := by decide +kernel
theorem dX4_threadOf_116 : decode cX4_threadOf 116 = .ok (.iload_n 1, 1) := by decide +kernel
theorem dX4_threadOf_117 : decode cX4_threadOf 117 = .ok (.invokevirtual 159, 3) := by decide +kernel
theorem dX4_threadOf_120 : decode cX4_threadOf 120 = .ok (.ixor, 1) := by decide +kernel
theorem dX4_threadOf_121 : decode cX4_threadOf 121 = .ok (.invokestatic 189, 3) := by decide +kernel
theorem dX4_threadOf_124 : decode cX4_threadOf 124 = .ok (.ireturn, 1) := by decide +kernel
theorem dX4_threadOf_125 : decode cX4_threadOf 125 = .ok (.aload_n 0, 1) := by decide +kernel
theorem dX4_threadOf_126 : decode cX4_threadOf 126 = .ok (.getfield 10, 3) := by decide +kernel
theorem dX4_threadOf_129 : decode cX4_threadOf 129 = .ok (.iload_n 1, 1) := by decide +kernel
theorem dX4_threadOf_130 : decode cX4_threadOf 130 = .ok (.invokevirtual 194, 3) := by decide +kernel
theorem dX4_threadOf_133 : decode cX4_threadOf 133 = .ok (.aload_n 0, 1) := by decide +kernel
theorem dX4_threadOf_134 : decode cX4_threadOf 134 = .ok (.getfield 10, 3) := by decide +kernel
theorem dX4_threadOf_137 : decode cX4_threadOf 137 = .ok (.getfield 63, 3) := by decide +kernel
theorem dX4_threadOf_140 : decode cX4_threadOf 140 = .ok (.iload_n 1, 1) := by decide +kernel
theorem dX4_threadOf_141 : decode cX4_threadOf 141 = .ok (.iaload, 1) := by decide +kernel
theorem dX4_threadOf_142 : decode cX4_threadOf 142 = .ok (.iconst (-1), 1) := by decide +kernel
theorem dX4_threadOf_143 : decode cX4_threadOf 143 = .ok (.ixor, 1) := by decide +kernel
theorem dX4_threadOf_144 : decode cX4_threadOf 144 = .ok (.iand, 1) := by decide +kernel
theorem dX4_threadOf_145 : decode cX4_threadOf 145 = .ok (.ireturn, 1) := by decide +kernel
theorem dX4_threadOf_146 : decode cX4_threadOf 146 = .ok (.aload_n 0, 1) := by decide +kernel
theorem dX4_threadOf_147 : decode cX4_threadOf 147 = .ok (.getfield 10, 3) := by decide +kernel
theorem dX4_threadOf_150 : decode cX4_threadOf 150 = .ok (.getfield 63, 3) := by decide +kernel
theorem dX4_threadOf_153 : decode cX4_threadOf 153 = .ok (.iload_n 1, 1) := by decide +kernel
theorem dX4_threadOf_154 : decode cX4_threadOf 154 = .ok (.iaload, 1) := by decide +kernel
theorem dX4_threadOf_155 : decode cX4_threadOf 155 = .ok (.aload_n 0, 1) := by decide +kernel
theorem dX4_threadOf_156 : decode cX4_threadOf 156 = .ok (.getfield 10, 3) := by decide +kernel
theorem dX4_threadOf_159 : decode cX4_threadOf 159 = .ok (.iload_n 1, 1) := by decide +kernel
theorem dX4_threadOf_160 : decode cX4_threadOf 160 = .ok (.invokevirtual 194, 3) := by decide +kernel
theorem dX4_threadOf_163 : decode cX4_threadOf 163 = .ok (.iconst (-1), 1) := by decide +kernel
theorem dX4_threadOf_164 : decode cX4_threadOf 164 = .ok (.ixor, 1) := by decide +kernel
theorem dX4_threadOf_165 : decode cX4_threadOf 165 = .ok (.iand, 1) := by decide +kernel
theorem dX4_threadOf_166 : decode cX4_threadOf 166 = .ok (.ireturn, 1) := by decide +kernel
theorem dX4_threadOf_167 : decode cX4_threadOf 167 = .ok (.aload_n 0, 1) := by decide +kernel
theorem dX4_threadOf_168 : decode cX4_threadOf 168 = .ok (.getfield 10, 3) := by decide +kernel
theorem dX4_threadOf_171 : decode cX4_threadOf 171 = .ok (.getfield 197, 3) := by decide +kernel
theorem dX4_threadOf_174 : decode cX4_threadOf 174 = .ok (.iload_n 1, 1) := by decide +kernel
theorem dX4_threadOf_175 : decode cX4_threadOf 175 = .ok (.iaload, 1) := by decide +kernel
theorem dX4_threadOf_176 : decode cX4_threadOf 176 = .ok (.ireturn, 1) := by decide +kernel
theorem dX4_threadOf_177 : decode cX4_threadOf 177 = .ok (.new 79, 3) := by decide +kernel
theorem dX4_threadOf_180 : decode cX4_threadOf 180 = .ok (.dup, 1) := by decide +kernel
theorem dX4_threadOf_181 : decode cX4_threadOf 181 = .ok (.ldc 200, 2) := by decide +kernel
theorem dX4_threadOf_183 : decode cX4_threadOf 183 = .ok (.invokespecial 83, 3) := by decide +kernel
theorem dX4_threadOf_186 : decode cX4_threadOf 186 = .ok (.athrow, 1) := by decide +kernel
set_option maxRecDepth 20000 in
theorem ggX4_ringOf_X4_isRing : GoodIn wsX4_ringOf wsX4_isRing := goodIn_r _ [10, 11, 12, 9, 13] (by decide +kernel) (by decide +kernel)
set_option maxRecDepth 20000 in
theorem gX4_ringOf_X4_isRing : GoodIn wsX4_ringOf (va_wsS RX4 49 yX4_isRing wsX4_isRing) := goodIn_app (goodIn_of _ (by decide +kernel)) ggX4_ringOf_X4_isRing
set_option maxRecDepth 20000 in
theorem ggX4_ringOf_X2_threadsThrough : GoodIn wsX4_ringOf wsX2_threadsThrough := goodIn_r _ [18, 19, 20, 9, 21, 64, 65, 66, 67, 68, 69, 70, 71] (by decide +kernel) (by decide +kernel)
set_option maxRecDepth 20000 in
theorem gX4_ringOf_X2_threadsThrough : GoodIn wsX4_ringOf (wsV RX4 205 RX2 yX2_threadsThrough wsX2_threadsThrough) := goodIn_app (goodIn_of _ (by decide +kernel)) ggX4_ringOf_X2_threadsThrough
set_option maxRecDepth 20000 in
theorem ggX4_ringOf_J6_bitCount_0f7a4 : GoodIn wsX4_ringOf wsJ6_bitCount_0f7a4 := goodIn_r _ [25, 26, 27, 28] (by decide +kernel) (by decide +kernel)
set_option maxRecDepth 20000 in
theorem gX4_ringOf_J6_bitCount_0f7a4 : GoodIn wsX4_ringOf (va_wsS RX4 189 yJ6_bitCount_0f7a4 wsJ6_bitCount_0f7a4) := goodIn_app (goodIn_of _ (by decide +kernel)) ggX4_ringOf_J6_bitCount_0f7a4
set_option maxRecDepth 20000 in
theorem ggX4_ringOf_X2_threadsAnswered : GoodIn wsX4_ringOf wsX2_threadsAnswered := goodIn_r _ [32, 33, 34, 35, 17, 36, 19, 37, 20, 9, 21, 38, 39, 40, 41, 42, 43, 44, 45, 46, 47, 48, 49, 50, 51, 64, 65, 66, 67, 68, 69, 70, 71] (by decide +kernel) (by decide +kernel)
set_option maxRecDepth 20000 in
theorem gX4_ringOf_X2_threadsAnswered : GoodIn wsX4_ringOf (wsV RX4 208 RX2 yX2_threadsAnswered wsX2_threadsAnswered) := goodIn_app (goodIn_of _ (by decide +kernel)) ggX4_ringOf_X2_threadsAnswered
set_option maxRecDepth 20000 in
theorem ggX4_ringOf_X2_isWornOut : GoodIn wsX4_ringOf wsX2_isWornOut := goodIn_r _ [55, 37, 56, 15, 16, 17, 18, 19, 20, 9, 21, 38, 39, 40, 41, 42, 43, 44, 45, 46, 64, 65, 66, 67, 68, 69, 70, 71] (by decide +kernel) (by decide +kernel)
set_option maxRecDepth 20000 in
theorem gX4_ringOf_X2_isWornOut : GoodIn wsX4_ringOf (wsV RX4 211 RX2 yX2_isWornOut wsX2_isWornOut) := goodIn_app (goodIn_of _ (by decide +kernel)) ggX4_ringOf_X2_isWornOut
theorem dX4_ringOf_0 : decode cX4_ringOf 0 = .ok (.iload_n 1, 1) := by decide +kernel
theorem dX4_ringOf_1 : decode cX4_ringOf 1 = .ok (.invokestatic 49, 3) := by decide +kernel
theorem dX4_ringOf_4 : decode cX4_ringOf 4 = .ok (.ifCond .ne 13, 3) := by decide +kernel
theorem dX4_ringOf_7 : decode cX4_ringOf 7 = .ok (.new 52, 3) := by decide +kernel
theorem dX4_ringOf_10 : decode cX4_ringOf 10 = .ok (.dup, 1) := by decide +kernel
theorem dX4_ringOf_11 : decode cX4_ringOf 11 = .ok (.ldc 92, 2) := by decide +kernel
