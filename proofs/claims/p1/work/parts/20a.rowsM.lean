theorem dX5_init_0 : decode cX5_init 0 = .ok (.aload_n 0, 1) := by decide +kernel
theorem dX5_init_1 : decode cX5_init 1 = .ok (.invokespecial 1, 3) := by decide +kernel
theorem dX5_init_4 : decode cX5_init 4 = .ok (.aload_n 0, 1) := by decide +kernel
theorem dX5_init_5 : decode cX5_init 5 = .ok (.sipush 620, 3) := by decide +kernel
theorem dX5_init_8 : decode cX5_init 8 = .ok (.newarray .int, 2) := by decide +kernel
theorem dX5_init_10 : decode cX5_init 10 = .ok (.putfield 7, 3) := by decide +kernel
theorem dX5_init_13 : decode cX5_init 13 = .ok (.aload_n 0, 1) := by decide +kernel
theorem dX5_init_14 : decode cX5_init 14 = .ok (.iconst 2, 1) := by decide +kernel
theorem dX5_init_15 : decode cX5_init 15 = .ok (.newarray .boolean, 2) := by decide +kernel
theorem dX5_init_17 : decode cX5_init 17 = .ok (.putfield 13, 3) := by decide +kernel
theorem dX5_init_20 : decode cX5_init 20 = .ok (.aload_n 0, 1) := by decide +kernel
theorem dX5_init_21 : decode cX5_init 21 = .ok (.bipush 60, 2) := by decide +kernel
theorem dX5_init_23 : decode cX5_init 23 = .ok (.newarray .int, 2) := by decide +kernel
theorem dX5_init_25 : decode cX5_init 25 = .ok (.putfield 17, 3) := by decide +kernel
theorem dX5_init_28 : decode cX5_init 28 = .ok (.aload_n 0, 1) := by decide +kernel
theorem dX5_init_29 : decode cX5_init 29 = .ok (.bipush 16, 2) := by decide +kernel
theorem dX5_init_31 : decode cX5_init 31 = .ok (.newarray .int, 2) := by decide +kernel
theorem dX5_init_33 : decode cX5_init 33 = .ok (.putfield 20, 3) := by decide +kernel
theorem dX5_init_36 : decode cX5_init 36 = .ok (.aload_n 0, 1) := by decide +kernel
theorem dX5_init_37 : decode cX5_init 37 = .ok (.getfield 7, 3) := by decide +kernel
theorem dX5_init_40 : decode cX5_init 40 = .ok (.bipush 25, 2) := by decide +kernel
theorem dX5_init_42 : decode cX5_init 42 = .ok (.bipush 6, 2) := by decide +kernel
theorem dX5_init_44 : decode cX5_init 44 = .ok (.iastore, 1) := by decide +kernel
theorem dX5_init_45 : decode cX5_init 45 = .ok (.aload_n 0, 1) := by decide +kernel
theorem dX5_init_46 : decode cX5_init 46 = .ok (.getfield 7, 3) := by decide +kernel
theorem dX5_init_49 : decode cX5_init 49 = .ok (.bipush 33, 2) := by decide +kernel
theorem dX5_init_51 : decode cX5_init 51 = .ok (.iconst 1, 1) := by decide +kernel
theorem dX5_init_52 : decode cX5_init 52 = .ok (.iastore, 1) := by decide +kernel
theorem dX5_init_53 : decode cX5_init 53 = .ok (.return_, 1) := by decide +kernel
theorem dX5_thrown_0 : decode cX5_thrown 0 = .ok (.aload_n 0, 1) := by decide +kernel
theorem dX5_thrown_1 : decode cX5_thrown 1 = .ok (.getfield 23, 3) := by decide +kernel
theorem dX5_thrown_4 : decode cX5_thrown 4 = .ok (.ireturn, 1) := by decide +kernel
theorem dX5_in_0 : decode cX5_in 0 = .ok (.iload_n 0, 1) := by decide +kernel
theorem dX5_in_1 : decode cX5_in 1 = .ok (.iload_n 1, 1) := by decide +kernel
theorem dX5_in_2 : decode cX5_in 2 = .ok (.if_icmp .lt 12, 3) := by decide +kernel
theorem dX5_in_5 : decode cX5_in 5 = .ok (.iload_n 0, 1) := by decide +kernel
theorem dX5_in_6 : decode cX5_in 6 = .ok (.iload_n 2, 1) := by decide +kernel
theorem dX5_in_7 : decode cX5_in 7 = .ok (.if_icmp .gt 7, 3) := by decide +kernel
theorem dX5_in_10 : decode cX5_in 10 = .ok (.iconst 1, 1) := by decide +kernel
theorem dX5_in_11 : decode cX5_in 11 = .ok (.goto 4, 3) := by decide +kernel
theorem dX5_in_14 : decode cX5_in 14 = .ok (.iconst 0, 1) := by decide +kernel
theorem dX5_in_15 : decode cX5_in 15 = .ok (.ireturn, 1) := by decide +kernel
theorem dX5_holds_0 : decode cX5_holds 0 = .ok (.aload_n 0, 1) := by decide +kernel
theorem dX5_holds_1 : decode cX5_holds 1 = .ok (.iload_n 1, 1) := by decide +kernel
theorem dX5_holds_2 : decode cX5_holds 2 = .ok (.putfield 23, 3) := by decide +kernel
theorem dX5_holds_5 : decode cX5_holds 5 = .ok (.iload_n 1, 1) := by decide +kernel
theorem dX5_holds_6 : decode cX5_holds 6 = .ok (.ifCond .ne 7, 3) := by decide +kernel
theorem dX5_holds_9 : decode cX5_holds 9 = .ok (.iconst 1, 1) := by decide +kernel
theorem dX5_holds_10 : decode cX5_holds 10 = .ok (.goto 4, 3) := by decide +kernel
theorem dX5_holds_13 : decode cX5_holds 13 = .ok (.iconst 0, 1) := by decide +kernel
theorem dX5_holds_14 : decode cX5_holds 14 = .ok (.ireturn, 1) := by decide +kernel
theorem dX5_has_0 : decode cX5_has 0 = .ok (.iload_n 0, 1) := by decide +kernel
theorem dX5_has_1 : decode cX5_has 1 = .ok (.iload_n 1, 1) := by decide +kernel
theorem dX5_has_2 : decode cX5_has 2 = .ok (.ishr, 1) := by decide +kernel
theorem dX5_has_3 : decode cX5_has 3 = .ok (.iconst 1, 1) := by decide +kernel
theorem dX5_has_4 : decode cX5_has 4 = .ok (.iand, 1) := by decide +kernel
theorem dX5_has_5 : decode cX5_has 5 = .ok (.iconst 1, 1) := by decide +kernel
theorem dX5_has_6 : decode cX5_has 6 = .ok (.if_icmp .ne 7, 3) := by decide +kernel
theorem dX5_has_9 : decode cX5_has 9 = .ok (.iconst 1, 1) := by decide +kernel
theorem dX5_has_10 : decode cX5_has 10 = .ok (.goto 4, 3) := by decide +kernel
theorem dX5_has_13 : decode cX5_has 13 = .ok (.iconst 0, 1) := by decide +kernel
theorem dX5_has_14 : decode cX5_has 14 = .ok (.ireturn, 1) := by decide +kernel
theorem dX5_ones_0 : decode cX5_ones 0 = .ok (.iconst 0, 1) := by decide +kernel
theorem dX5_ones_1 : decode cX5_ones 1 = .ok (.istore_n 1, 1) := by decide +kernel
theorem dX5_ones_2 : decode cX5_ones 2 = .ok (.iconst 0, 1) := by decide +kernel
theorem dX5_ones_3 : decode cX5_ones 3 = .ok (.istore_n 2, 1) := by decide +kernel
theorem dX5_ones_4 : decode cX5_ones 4 = .ok (.iload_n 2, 1) := by decide +kernel
theorem dX5_ones_5 : decode cX5_ones 5 = .ok (.bipush 16, 2) := by decide +kernel
theorem dX5_ones_7 : decode cX5_ones 7 = .ok (.if_icmp .ge 17, 3) := by decide +kernel
theorem dX5_ones_10 : decode cX5_ones 10 = .ok (.iload_n 1, 1) := by decide +kernel
theorem dX5_ones_11 : decode cX5_ones 11 = .ok (.iload_n 0, 1) := by decide +kernel
theorem dX5_ones_12 : decode cX5_ones 12 = .ok (.iload_n 2, 1) := by decide +kernel
theorem dX5_ones_13 : decode cX5_ones 13 = .ok (.ishr, 1) := by decide +kernel
theorem dX5_ones_14 : decode cX5_ones 14 = .ok (.iconst 1, 1) := by decide +kernel
theorem dX5_ones_15 : decode cX5_ones 15 = .ok (.iand, 1) := by decide +kernel
theorem dX5_ones_16 : decode cX5_ones 16 = .ok (.iadd, 1) := by decide +kernel
theorem dX5_ones_17 : decode cX5_ones 17 = .ok (.istore_n 1, 1) := by decide +kernel
theorem dX5_ones_18 : decode cX5_ones 18 = .ok (.iinc 2 1, 3) := by decide +kernel
theorem dX5_ones_21 : decode cX5_ones 21 = .ok (.goto (-17), 3) := by decide +kernel
theorem dX5_ones_24 : decode cX5_ones 24 = .ok (.iload_n 1, 1) := by decide +kernel
theorem dX5_ones_25 : decode cX5_ones 25 = .ok (.ireturn, 1) := by decide +kernel
set_option maxRecDepth 20000 in
theorem ggX5_isThread_X5_in : GoodIn wsX5_isThread wsX5_in := goodIn_r _ [4] (by decide +kernel) (by decide +kernel)
set_option maxRecDepth 20000 in
theorem gX5_isThread_X5_in : GoodIn wsX5_isThread (va_wsS RX5 27 yX5_in wsX5_in) := goodIn_app (goodIn_of _ (by decide +kernel)) ggX5_isThread_X5_in
theorem dX5_isThread_0 : decode cX5_isThread 0 = .ok (.iload_n 0, 1) := by decide +kernel
theorem dX5_isThread_1 : decode cX5_isThread 1 = .ok (.iconst 0, 1) := by decide +kernel
theorem dX5_isThread_2 : decode cX5_isThread 2 = .ok (.bipush 15, 2) := by decide +kernel
theorem dX5_isThread_4 : decode cX5_isThread 4 = .ok (.invokestatic 27, 3) := by decide +kernel
theorem dX5_isThread_7 : decode cX5_isThread 7 = .ok (.ireturn, 1) := by decide +kernel
set_option maxRecDepth 20000 in
theorem ggX5_isRing_X5_in : GoodIn wsX5_isRing wsX5_in := goodIn_r _ [4] (by decide +kernel) (by decide +kernel)
set_option maxRecDepth 20000 in
theorem gX5_isRing_X5_in : GoodIn wsX5_isRing (va_wsS RX5 27 yX5_in wsX5_in) := goodIn_app (goodIn_of _ (by decide +kernel)) ggX5_isRing_X5_in
theorem dX5_isRing_0 : decode cX5_isRing 0 = .ok (.iload_n 0, 1) := by decide +kernel
theorem dX5_isRing_1 : decode cX5_isRing 1 = .ok (.iconst 0, 1) := by decide +kernel
theorem dX5_isRing_2 : decode cX5_isRing 2 = .ok (.bipush 7, 2) := by decide +kernel
theorem dX5_isRing_4 : decode cX5_isRing 4 = .ok (.invokestatic 27, 3) := by decide +kernel
theorem dX5_isRing_7 : decode cX5_isRing 7 = .ok (.ireturn, 1) := by decide +kernel
set_option maxRecDepth 20000 in
theorem ggX5_reached_X5_has : GoodIn wsX5_reached wsX5_has := goodIn_r _ [5] (by decide +kernel) (by decide +kernel)
set_option maxRecDepth 20000 in
theorem gX5_reached_X5_has : GoodIn wsX5_reached (va_wsS RX5 31 yX5_has wsX5_has) := goodIn_app (goodIn_of _ (by decide +kernel)) ggX5_reached_X5_has
theorem dX5_reached_0 : decode cX5_reached 0 = .ok (.aload_n 0, 1) := by decide +kernel
theorem dX5_reached_1 : decode cX5_reached 1 = .ok (.getfield 7, 3) := by decide +kernel
theorem dX5_reached_4 : decode cX5_reached 4 = .ok (.iload_n 1, 1) := by decide +kernel
theorem dX5_reached_5 : decode cX5_reached 5 = .ok (.iload_n 2, 1) := by decide +kernel
theorem dX5_reached_6 : decode cX5_reached 6 = .ok (.iadd, 1) := by decide +kernel
theorem dX5_reached_7 : decode cX5_reached 7 = .ok (.iaload, 1) := by decide +kernel
theorem dX5_reached_8 : decode cX5_reached 8 = .ok (.istore 4, 2) := by decide +kernel
theorem dX5_reached_10 : decode cX5_reached 10 = .ok (.iconst 0, 1) := by decide +kernel
theorem dX5_reached_11 : decode cX5_reached 11 = .ok (.istore 5, 2) := by decide +kernel
theorem dX5_reached_13 : decode cX5_reached 13 = .ok (.iload 5, 2) := by decide +kernel
theorem dX5_reached_15 : decode cX5_reached 15 = .ok (.iload_n 3, 1) := by decide +kernel
theorem dX5_reached_16 : decode cX5_reached 16 = .ok (.if_icmp .ge 101, 3) := by decide +kernel
theorem dX5_reached_19 : decode cX5_reached 19 = .ok (.iload 4, 2) := by decide +kernel
theorem dX5_reached_21 : decode cX5_reached 21 = .ok (.istore 6, 2) := by decide +kernel
theorem dX5_reached_23 : decode cX5_reached 23 = .ok (.iconst 0, 1) := by decide +kernel
theorem dX5_reached_24 : decode cX5_reached 24 = .ok (.istore 7, 2) := by decide +kernel
theorem dX5_reached_26 : decode cX5_reached 26 = .ok (.iload 7, 2) := by decide +kernel
theorem dX5_reached_28 : decode cX5_reached 28 = .ok (.bipush 16, 2) := by decide +kernel
theorem dX5_reached_30 : decode cX5_reached 30 = .ok (.if_icmp .ge 77, 3) := by decide +kernel
theorem dX5_reached_33 : decode cX5_reached 33 = .ok (.iload 7, 2) := by decide +kernel
theorem dX5_reached_35 : decode cX5_reached 35 = .ok (.iload_n 2, 1) := by decide +kernel
theorem dX5_reached_36 : decode cX5_reached 36 = .ok (.if_icmp .eq 39, 3) := by decide +kernel
theorem dX5_reached_39 : decode cX5_reached 39 = .ok (.aload_n 0, 1) := by decide +kernel
theorem dX5_reached_40 : decode cX5_reached 40 = .ok (.getfield 7, 3) := by decide +kernel
theorem dX5_reached_43 : decode cX5_reached 43 = .ok (.iload_n 1, 1) := by decide +kernel
theorem dX5_reached_44 : decode cX5_reached 44 = .ok (.bipush 16, 2) := by decide +kernel
theorem dX5_reached_46 : decode cX5_reached 46 = .ok (.iadd, 1) := by decide +kernel
theorem dX5_reached_47 : decode cX5_reached 47 = .ok (.iaload, 1) := by decide +kernel
theorem dX5_reached_48 : decode cX5_reached 48 = .ok (.iload 7, 2) := by decide +kernel
theorem dX5_reached_50 : decode cX5_reached 50 = .ok (.invokestatic 31, 3) := by decide +kernel
theorem dX5_reached_53 : decode cX5_reached 53 = .ok (.ifCond .ne 22, 3) := by decide +kernel
theorem dX5_reached_56 : decode cX5_reached 56 = .ok (.aload_n 0, 1) := by decide +kernel
theorem dX5_reached_57 : decode cX5_reached 57 = .ok (.getfield 7, 3) := by decide +kernel
theorem dX5_reached_60 : decode cX5_reached 60 = .ok (.iload_n 1, 1) := by decide +kernel
theorem dX5_reached_61 : decode cX5_reached 61 = .ok (.iload 7, 2) := by decide +kernel
theorem dX5_reached_63 : decode cX5_reached 63 = .ok (.iadd, 1) := by decide +kernel
theorem dX5_reached_64 : decode cX5_reached 64 = .ok (.iaload, 1) := by decide +kernel
theorem dX5_reached_65 : decode cX5_reached 65 = .ok (.iload 4, 2) := by decide +kernel
theorem dX5_reached_67 : decode cX5_reached 67 = .ok (.iand, 1) := by decide +kernel
theorem dX5_reached_68 : decode cX5_reached 68 = .ok (.ifCond .eq 7, 3) := by decide +kernel
theorem dX5_reached_71 : decode cX5_reached 71 = .ok (.iconst 1, 1) := by decide +kernel
theorem dX5_reached_72 : decode cX5_reached 72 = .ok (.goto 4, 3) := by decide +kernel
theorem dX5_reached_75 : decode cX5_reached 75 = .ok (.iconst 0, 1) := by decide +kernel
theorem dX5_reached_76 : decode cX5_reached 76 = .ok (.istore 8, 2) := by decide +kernel
theorem dX5_reached_78 : decode cX5_reached 78 = .ok (.iload 6, 2) := by decide +kernel
theorem dX5_reached_80 : decode cX5_reached 80 = .ok (.iload 8, 2) := by decide +kernel
theorem dX5_reached_82 : decode cX5_reached 82 = .ok (.ifCond .eq 15, 3) := by decide +kernel
theorem dX5_reached_85 : decode cX5_reached 85 = .ok (.aload_n 0, 1) := by decide +kernel
theorem dX5_reached_86 : decode cX5_reached 86 = .ok (.getfield 7, 3) := by decide +kernel
theorem dX5_reached_89 : decode cX5_reached 89 = .ok (.iload_n 1, 1) := by decide +kernel
theorem dX5_reached_90 : decode cX5_reached 90 = .ok (.iload 7, 2) := by decide +kernel
theorem dX5_reached_92 : decode cX5_reached 92 = .ok (.iadd, 1) := by decide +kernel
theorem dX5_reached_93 : decode cX5_reached 93 = .ok (.iaload, 1) := by decide +kernel
theorem dX5_reached_94 : decode cX5_reached 94 = .ok (.goto 4, 3) := by decide +kernel
theorem dX5_reached_97 : decode cX5_reached 97 = .ok (.iconst 0, 1) := by decide +kernel
theorem dX5_reached_98 : decode cX5_reached 98 = .ok (.ior, 1) := by decide +kernel
theorem dX5_reached_99 : decode cX5_reached 99 = .ok (.istore 6, 2) := by decide +kernel
theorem dX5_reached_101 : decode cX5_reached 101 = .ok (.iinc 7 1, 3) := by decide +kernel
theorem dX5_reached_104 : decode cX5_reached 104 = .ok (.goto (-78), 3) := by decide +kernel
theorem dX5_reached_107 : decode cX5_reached 107 = .ok (.iload 6, 2) := by decide +kernel
theorem dX5_reached_109 : decode cX5_reached 109 = .ok (.istore 4, 2) := by decide +kernel
theorem dX5_reached_111 : decode cX5_reached 111 = .ok (.iinc 5 1, 3) := by decide +kernel
theorem dX5_reached_114 : decode cX5_reached 114 = .ok (.goto (-101), 3) := by decide +kernel
theorem dX5_reached_117 : decode cX5_reached 117 = .ok (.iload 4, 2) := by decide +kernel
theorem dX5_reached_119 : decode cX5_reached 119 = .ok (.ireturn, 1) := by decide +kernel
set_option maxRecDepth 20000 in
theorem ggX5_hopsTo_X5_reached : GoodIn wsX5_hopsTo wsX5_reached := goodIn_r _ [5, 6, 7, 8, 4, 9, 10, 11, 12, 13, 14, 15, 16, 17, 18, 19] (by decide +kernel) (by decide +kernel)
set_option maxRecDepth 20000 in
theorem gX5_hopsTo_X5_reached : GoodIn wsX5_hopsTo (wsV RX5 35 RX5 yX5_reached wsX5_reached) := goodIn_app (goodIn_of _ (by decide +kernel)) ggX5_hopsTo_X5_reached
set_option maxRecDepth 20000 in
theorem ggX5_hopsTo_X5_has : GoodIn wsX5_hopsTo wsX5_has := goodIn_r _ [9] (by decide +kernel) (by decide +kernel)
set_option maxRecDepth 20000 in
theorem gX5_hopsTo_X5_has : GoodIn wsX5_hopsTo (va_wsS RX5 31 yX5_has wsX5_has) := goodIn_app (goodIn_of _ (by decide +kernel)) ggX5_hopsTo_X5_has
theorem dX5_hopsTo_0 : decode cX5_hopsTo 0 = .ok (.iconst 0, 1) := by decide +kernel
theorem dX5_hopsTo_1 : decode cX5_hopsTo 1 = .ok (.istore 4, 2) := by decide +kernel
theorem dX5_hopsTo_3 : decode cX5_hopsTo 3 = .ok (.iload 4, 2) := by decide +kernel
theorem dX5_hopsTo_5 : decode cX5_hopsTo 5 = .ok (.bipush 8, 2) := by decide +kernel
theorem dX5_hopsTo_7 : decode cX5_hopsTo 7 = .ok (.if_icmp .ge 27, 3) := by decide +kernel
theorem dX5_hopsTo_10 : decode cX5_hopsTo 10 = .ok (.aload_n 0, 1) := by decide +kernel
theorem dX5_hopsTo_11 : decode cX5_hopsTo 11 = .ok (.iload_n 1, 1) := by decide +kernel
theorem dX5_hopsTo_12 : decode cX5_hopsTo 12 = .ok (.iload_n 2, 1) := by decide +kernel
theorem dX5_hopsTo_13 : decode cX5_hopsTo 13 = .ok (.iload 4, 2) := by decide +kernel
theorem dX5_hopsTo_15 : decode cX5_hopsTo 15 = .ok (.invokevirtual 35, 3) := by decide +kernel
theorem dX5_hopsTo_18 : decode cX5_hopsTo 18 = .ok (.iload_n 3, 1) := by decide +kernel
theorem dX5_hopsTo_19 : decode cX5_hopsTo 19 = .ok (.invokestatic 31, 3) := by decide +kernel
theorem dX5_hopsTo_22 : decode cX5_hopsTo 22 = .ok (.ifCond .eq 6, 3) := by decide +kernel
theorem dX5_hopsTo_25 : decode cX5_hopsTo 25 = .ok (.iload 4, 2) := by decide +kernel
theorem dX5_hopsTo_27 : decode cX5_hopsTo 27 = .ok (.ireturn, 1) := by decide +kernel
theorem dX5_hopsTo_28 : decode cX5_hopsTo 28 = .ok (.iinc 4 1, 3) := by decide +kernel
theorem dX5_hopsTo_31 : decode cX5_hopsTo 31 = .ok (.goto (-28), 3) := by decide +kernel
theorem dX5_hopsTo_34 : decode cX5_hopsTo 34 = .ok (.iconst (-1), 1) := by decide +kernel
theorem dX5_hopsTo_35 : decode cX5_hopsTo 35 = .ok (.ireturn, 1) := by decide +kernel
set_option maxRecDepth 20000 in
theorem ggX5_strengthIn_X5_hopsTo : GoodIn wsX5_strengthIn wsX5_hopsTo := goodIn_r _ [6, 7, 8, 9, 5, 10, 1, 11, 12, 13, 14, 15, 16, 17, 18, 19, 20, 21, 22, 23] (by decide +kernel) (by decide +kernel)
set_option maxRecDepth 20000 in
theorem gX5_strengthIn_X5_hopsTo : GoodIn wsX5_strengthIn (wsV RX5 39 RX5 yX5_hopsTo wsX5_hopsTo) := goodIn_app (goodIn_of _ (by decide +kernel)) ggX5_strengthIn_X5_hopsTo
theorem dX5_strengthIn_0 : decode cX5_strengthIn 0 = .ok (.aload_n 0, 1) := by decide +kernel
theorem dX5_strengthIn_1 : decode cX5_strengthIn 1 = .ok (.iload_n 1, 1) := by decide +kernel
theorem dX5_strengthIn_2 : decode cX5_strengthIn 2 = .ok (.iload_n 2, 1) := by decide +kernel
theorem dX5_strengthIn_3 : decode cX5_strengthIn 3 = .ok (.iload_n 3, 1) := by decide +kernel
theorem dX5_strengthIn_4 : decode cX5_strengthIn 4 = .ok (.invokevirtual 39, 3) := by decide +kernel
theorem dX5_strengthIn_7 : decode cX5_strengthIn 7 = .ok (.istore 4, 2) := by decide +kernel
theorem dX5_strengthIn_9 : decode cX5_strengthIn 9 = .ok (.iload 4, 2) := by decide +kernel
theorem dX5_strengthIn_11 : decode cX5_strengthIn 11 = .ok (.iconst (-1), 1) := by decide +kernel
theorem dX5_strengthIn_12 : decode cX5_strengthIn 12 = .ok (.if_icmp .eq 9, 3) := by decide +kernel
theorem dX5_strengthIn_15 : decode cX5_strengthIn 15 = .ok (.iload 4, 2) := by decide +kernel
theorem dX5_strengthIn_17 : decode cX5_strengthIn 17 = .ok (.iconst 2, 1) := by decide +kernel
theorem dX5_strengthIn_18 : decode cX5_strengthIn 18 = .ok (.if_icmp .le 7, 3) := by decide +kernel
theorem dX5_strengthIn_21 : decode cX5_strengthIn 21 = .ok (.iconst 0, 1) := by decide +kernel
theorem dX5_strengthIn_22 : decode cX5_strengthIn 22 = .ok (.goto 10, 3) := by decide +kernel
theorem dX5_strengthIn_25 : decode cX5_strengthIn 25 = .ok (.bipush 8, 2) := by decide +kernel
theorem dX5_strengthIn_27 : decode cX5_strengthIn 27 = .ok (.iconst 3, 1) := by decide +kernel
theorem dX5_strengthIn_28 : decode cX5_strengthIn 28 = .ok (.iload 4, 2) := by decide +kernel
theorem dX5_strengthIn_30 : decode cX5_strengthIn 30 = .ok (.imul, 1) := by decide +kernel
theorem dX5_strengthIn_31 : decode cX5_strengthIn 31 = .ok (.isub, 1) := by decide +kernel
theorem dX5_strengthIn_32 : decode cX5_strengthIn 32 = .ok (.istore 5, 2) := by decide +kernel
theorem dX5_strengthIn_34 : decode cX5_strengthIn 34 = .ok (.iload 5, 2) := by decide +kernel
theorem dX5_strengthIn_36 : decode cX5_strengthIn 36 = .ok (.aload_n 0, 1) := by decide +kernel
theorem dX5_strengthIn_37 : decode cX5_strengthIn 37 = .ok (.getfield 7, 3) := by decide +kernel
theorem dX5_strengthIn_40 : decode cX5_strengthIn 40 = .ok (.iload_n 1, 1) := by decide +kernel
theorem dX5_strengthIn_41 : decode cX5_strengthIn 41 = .ok (.bipush 17, 2) := by decide +kernel
theorem dX5_strengthIn_43 : decode cX5_strengthIn 43 = .ok (.iadd, 1) := by decide +kernel
theorem dX5_strengthIn_44 : decode cX5_strengthIn 44 = .ok (.iload_n 3, 1) := by decide +kernel
theorem dX5_strengthIn_45 : decode cX5_strengthIn 45 = .ok (.iadd, 1) := by decide +kernel
theorem dX5_strengthIn_46 : decode cX5_strengthIn 46 = .ok (.iaload, 1) := by decide +kernel
theorem dX5_strengthIn_47 : decode cX5_strengthIn 47 = .ok (.bipush 10, 2) := by decide +kernel
theorem dX5_strengthIn_49 : decode cX5_strengthIn 49 = .ok (.idiv, 1) := by decide +kernel
theorem dX5_strengthIn_50 : decode cX5_strengthIn 50 = .ok (.isub, 1) := by decide +kernel
theorem dX5_strengthIn_51 : decode cX5_strengthIn 51 = .ok (.istore 6, 2) := by decide +kernel
theorem dX5_strengthIn_53 : decode cX5_strengthIn 53 = .ok (.iload 6, 2) := by decide +kernel
theorem dX5_strengthIn_55 : decode cX5_strengthIn 55 = .ok (.ifCond .ge 7, 3) := by decide +kernel
theorem dX5_strengthIn_58 : decode cX5_strengthIn 58 = .ok (.iconst 0, 1) := by decide +kernel
theorem dX5_strengthIn_59 : decode cX5_strengthIn 59 = .ok (.goto 5, 3) := by decide +kernel
theorem dX5_strengthIn_62 : decode cX5_strengthIn 62 = .ok (.iload 6, 2) := by decide +kernel
theorem dX5_strengthIn_64 : decode cX5_strengthIn 64 = .ok (.ireturn, 1) := by decide +kernel
set_option maxRecDepth 20000 in
theorem ggX5_answers_X5_strengthIn : GoodIn wsX5_answers wsX5_strengthIn := goodIn_r _ [6, 1, 7, 8, 9, 5, 10, 11, 12, 13, 14, 15, 16, 17, 18, 19, 20, 21, 22, 23, 24, 25, 26, 27] (by decide +kernel) (by decide +kernel)
set_option maxRecDepth 20000 in
theorem gX5_answers_X5_strengthIn : GoodIn wsX5_answers (wsV RX5 42 RX5 yX5_strengthIn wsX5_strengthIn) := goodIn_app (goodIn_of _ (by decide +kernel)) ggX5_answers_X5_strengthIn
theorem dX5_answers_0 : decode cX5_answers 0 = .ok (.iconst 0, 1) := by decide +kernel
theorem dX5_answers_1 : decode cX5_answers 1 = .ok (.istore_n 3, 1) := by decide +kernel
theorem dX5_answers_2 : decode cX5_answers 2 = .ok (.iconst 0, 1) := by decide +kernel
theorem dX5_answers_3 : decode cX5_answers 3 = .ok (.istore 4, 2) := by decide +kernel
theorem dX5_answers_5 : decode cX5_answers 5 = .ok (.iload 4, 2) := by decide +kernel
theorem dX5_answers_7 : decode cX5_answers 7 = .ok (.bipush 8, 2) := by decide +kernel
theorem dX5_answers_9 : decode cX5_answers 9 = .ok (.if_icmp .ge 40, 3) := by decide +kernel
theorem dX5_answers_12 : decode cX5_answers 12 = .ok (.iload_n 3, 1) := by decide +kernel
theorem dX5_answers_13 : decode cX5_answers 13 = .ok (.aload_n 0, 1) := by decide +kernel
theorem dX5_answers_14 : decode cX5_answers 14 = .ok (.iload_n 1, 1) := by decide +kernel
theorem dX5_answers_15 : decode cX5_answers 15 = .ok (.iload_n 2, 1) := by decide +kernel
theorem dX5_answers_16 : decode cX5_answers 16 = .ok (.iload 4, 2) := by decide +kernel
theorem dX5_answers_18 : decode cX5_answers 18 = .ok (.invokevirtual 42, 3) := by decide +kernel
theorem dX5_answers_21 : decode cX5_answers 21 = .ok (.aload_n 0, 1) := by decide +kernel
theorem dX5_answers_22 : decode cX5_answers 22 = .ok (.getfield 7, 3) := by decide +kernel
theorem dX5_answers_25 : decode cX5_answers 25 = .ok (.iload_n 1, 1) := by decide +kernel
theorem dX5_answers_26 : decode cX5_answers 26 = .ok (.bipush 25, 2) := by decide +kernel
theorem dX5_answers_28 : decode cX5_answers 28 = .ok (.iadd, 1) := by decide +kernel
theorem dX5_answers_29 : decode cX5_answers 29 = .ok (.iaload, 1) := by decide +kernel
theorem dX5_answers_30 : decode cX5_answers 30 = .ok (.if_icmp .lt 10, 3) := by decide +kernel
theorem dX5_answers_33 : decode cX5_answers 33 = .ok (.iconst 1, 1) := by decide +kernel
theorem dX5_answers_34 : decode cX5_answers 34 = .ok (.iload 4, 2) := by decide +kernel
theorem dX5_answers_36 : decode cX5_answers 36 = .ok (.ishl, 1) := by decide +kernel
theorem dX5_answers_37 : decode cX5_answers 37 = .ok (.goto 4, 3) := by decide +kernel
theorem dX5_answers_40 : decode cX5_answers 40 = .ok (.iconst 0, 1) := by decide +kernel
theorem dX5_answers_41 : decode cX5_answers 41 = .ok (.ior, 1) := by decide +kernel
theorem dX5_answers_42 : decode cX5_answers 42 = .ok (.istore_n 3, 1) := by decide +kernel
theorem dX5_answers_43 : decode cX5_answers 43 = .ok (.iinc 4 1, 3) := by decide +kernel
theorem dX5_answers_46 : decode cX5_answers 46 = .ok (.goto (-41), 3) := by decide +kernel
theorem dX5_answers_49 : decode cX5_answers 49 = .ok (.iload_n 3, 1) := by decide +kernel
theorem dX5_answers_50 : decode cX5_answers 50 = .ok (.ireturn, 1) := by decide +kernel
theorem dX5_turned_0 : decode cX5_turned 0 = .ok (.aload_n 0, 1) := by decide +kernel
theorem dX5_turned_1 : decode cX5_turned 1 = .ok (.getfield 7, 3) := by decide +kernel
theorem dX5_turned_4 : decode cX5_turned 4 = .ok (.iload_n 1, 1) := by decide +kernel
theorem dX5_turned_5 : decode cX5_turned 5 = .ok (.bipush 25, 2) := by decide +kernel
theorem dX5_turned_7 : decode cX5_turned 7 = .ok (.iadd, 1) := by decide +kernel
theorem dX5_turned_8 : decode cX5_turned 8 = .ok (.iconst 1, 1) := by decide +kernel
theorem dX5_turned_9 : decode cX5_turned 9 = .ok (.iadd, 1) := by decide +kernel
theorem dX5_turned_10 : decode cX5_turned 10 = .ok (.iaload, 1) := by decide +kernel
theorem dX5_turned_11 : decode cX5_turned 11 = .ok (.iconst 1, 1) := by decide +kernel
theorem dX5_turned_12 : decode cX5_turned 12 = .ok (.if_icmp .ne 11, 3) := by decide +kernel
theorem dX5_turned_15 : decode cX5_turned 15 = .ok (.sipush 255, 3) := by decide +kernel
theorem dX5_turned_18 : decode cX5_turned 18 = .ok (.iload_n 2, 1) := by decide +kernel
theorem dX5_turned_19 : decode cX5_turned 19 = .ok (.isub, 1) := by decide +kernel
theorem dX5_turned_20 : decode cX5_turned 20 = .ok (.goto 4, 3) := by decide +kernel
theorem dX5_turned_23 : decode cX5_turned 23 = .ok (.iload_n 2, 1) := by decide +kernel
theorem dX5_turned_24 : decode cX5_turned 24 = .ok (.ireturn, 1) := by decide +kernel
set_option maxRecDepth 20000 in
theorem ggX5_wordOf_X5_answers : GoodIn wsX5_wordOf wsX5_answers := goodIn_r _ [5, 6, 7, 8, 9, 4, 10, 11, 12, 13, 14, 15, 16, 17, 18, 19, 20, 21, 26, 27, 28, 29, 30, 31, 32, 33, 34, 35] (by decide +kernel) (by decide +kernel)
set_option maxRecDepth 20000 in
theorem gX5_wordOf_X5_answers : GoodIn wsX5_wordOf (wsV RX5 45 RX5 yX5_answers wsX5_answers) := goodIn_app (goodIn_of _ (by decide +kernel)) ggX5_wordOf_X5_answers
set_option maxRecDepth 20000 in
theorem ggX5_wordOf_X5_turned : GoodIn wsX5_wordOf wsX5_turned := goodIn_r _ [25, 6, 26, 27, 28, 29, 30, 31, 32, 33, 34, 35] (by decide +kernel) (by decide +kernel)
set_option maxRecDepth 20000 in
theorem gX5_wordOf_X5_turned : GoodIn wsX5_wordOf (wsV RX5 49 RX5 yX5_turned wsX5_turned) := goodIn_app (goodIn_of _ (by decide +kernel)) ggX5_wordOf_X5_turned
theorem dX5_wordOf_0 : decode cX5_wordOf 0 = .ok (.aload_n 0, 1) := by decide +kernel
theorem dX5_wordOf_1 : decode cX5_wordOf 1 = .ok (.iload_n 1, 1) := by decide +kernel
theorem dX5_wordOf_2 : decode cX5_wordOf 2 = .ok (.aload_n 0, 1) := by decide +kernel
theorem dX5_wordOf_3 : decode cX5_wordOf 3 = .ok (.iload_n 1, 1) := by decide +kernel
theorem dX5_wordOf_4 : decode cX5_wordOf 4 = .ok (.iload_n 2, 1) := by decide +kernel
theorem dX5_wordOf_5 : decode cX5_wordOf 5 = .ok (.invokevirtual 45, 3) := by decide +kernel
theorem dX5_wordOf_8 : decode cX5_wordOf 8 = .ok (.invokevirtual 49, 3) := by decide +kernel
theorem dX5_wordOf_11 : decode cX5_wordOf 11 = .ok (.ireturn, 1) := by decide +kernel
set_option maxRecDepth 20000 in
theorem ggX5_meant_X5_turned : GoodIn wsX5_meant wsX5_turned := goodIn_r _ [6, 1, 7, 8, 9, 10, 11, 12, 13, 14, 15, 16] (by decide +kernel) (by decide +kernel)
set_option maxRecDepth 20000 in
theorem gX5_meant_X5_turned : GoodIn wsX5_meant (wsV RX5 49 RX5 yX5_turned wsX5_turned) := goodIn_app (goodIn_of _ (by decide +kernel)) ggX5_meant_X5_turned
theorem dX5_meant_0 : decode cX5_meant 0 = .ok (.aload_n 0, 1) := by decide +kernel
theorem dX5_meant_1 : decode cX5_meant 1 = .ok (.iload_n 1, 1) := by decide +kernel
theorem dX5_meant_2 : decode cX5_meant 2 = .ok (.aload_n 0, 1) := by decide +kernel
theorem dX5_meant_3 : decode cX5_meant 3 = .ok (.getfield 7, 3) := by decide +kernel
theorem dX5_meant_6 : decode cX5_meant 6 = .ok (.iload_n 1, 1) := by decide +kernel
theorem dX5_meant_7 : decode cX5_meant 7 = .ok (.iload_n 2, 1) := by decide +kernel
theorem dX5_meant_8 : decode cX5_meant 8 = .ok (.iadd, 1) := by decide +kernel
theorem dX5_meant_9 : decode cX5_meant 9 = .ok (.iaload, 1) := by decide +kernel
theorem dX5_meant_10 : decode cX5_meant 10 = .ok (.invokevirtual 49, 3) := by decide +kernel
theorem dX5_meant_13 : decode cX5_meant 13 = .ok (.ireturn, 1) := by decide +kernel
theorem dX5_wears_0 : decode cX5_wears 0 = .ok (.aload_n 0, 1) := by decide +kernel
theorem dX5_wears_1 : decode cX5_wears 1 = .ok (.getfield 7, 3) := by decide +kernel
theorem dX5_wears_4 : decode cX5_wears 4 = .ok (.iload_n 1, 1) := by decide +kernel
theorem dX5_wears_5 : decode cX5_wears 5 = .ok (.bipush 17, 2) := by decide +kernel
theorem dX5_wears_7 : decode cX5_wears 7 = .ok (.iadd, 1) := by decide +kernel
theorem dX5_wears_8 : decode cX5_wears 8 = .ok (.iload_n 2, 1) := by decide +kernel
theorem dX5_wears_9 : decode cX5_wears 9 = .ok (.iadd, 1) := by decide +kernel
theorem dX5_wears_10 : decode cX5_wears 10 = .ok (.iaload, 1) := by decide +kernel
theorem dX5_wears_11 : decode cX5_wears 11 = .ok (.iload_n 3, 1) := by decide +kernel
theorem dX5_wears_12 : decode cX5_wears 12 = .ok (.iadd, 1) := by decide +kernel
theorem dX5_wears_13 : decode cX5_wears 13 = .ok (.istore 4, 2) := by decide +kernel
theorem dX5_wears_15 : decode cX5_wears 15 = .ok (.aload_n 0, 1) := by decide +kernel
theorem dX5_wears_16 : decode cX5_wears 16 = .ok (.getfield 7, 3) := by decide +kernel
theorem dX5_wears_19 : decode cX5_wears 19 = .ok (.iload_n 1, 1) := by decide +kernel
theorem dX5_wears_20 : decode cX5_wears 20 = .ok (.bipush 17, 2) := by decide +kernel
theorem dX5_wears_22 : decode cX5_wears 22 = .ok (.iadd, 1) := by decide +kernel
theorem dX5_wears_23 : decode cX5_wears 23 = .ok (.iload_n 2, 1) := by decide +kernel
theorem dX5_wears_24 : decode cX5_wears 24 = .ok (.iadd, 1) := by decide +kernel
theorem dX5_wears_25 : decode cX5_wears 25 = .ok (.iload 4, 2) := by decide +kernel
theorem dX5_wears_27 : decode cX5_wears 27 = .ok (.bipush 99, 2) := by decide +kernel
theorem dX5_wears_29 : decode cX5_wears 29 = .ok (.if_icmp .le 8, 3) := by decide +kernel
theorem dX5_wears_32 : decode cX5_wears 32 = .ok (.bipush 99, 2) := by decide +kernel
theorem dX5_wears_34 : decode cX5_wears 34 = .ok (.goto 5, 3) := by decide +kernel
theorem dX5_wears_37 : decode cX5_wears 37 = .ok (.iload 4, 2) := by decide +kernel
theorem dX5_wears_39 : decode cX5_wears 39 = .ok (.iastore, 1) := by decide +kernel
theorem dX5_wears_40 : decode cX5_wears 40 = .ok (.return_, 1) := by decide +kernel
set_option maxRecDepth 20000 in
theorem ggX5_reads_X5_wordOf : GoodIn wsX5_reads wsX5_wordOf := goodIn_r _ [6, 7, 8, 9, 5, 10, 1, 11, 12, 13, 14, 15, 16, 17, 18, 19, 20, 21, 22, 23, 24, 25, 26, 27, 28, 29, 34, 35, 36, 37, 38, 39, 40, 41, 42, 43] (by decide +kernel) (by decide +kernel)
set_option maxRecDepth 20000 in
theorem gX5_reads_X5_wordOf : GoodIn wsX5_reads (wsV RX5 52 RX5 yX5_wordOf wsX5_wordOf) := goodIn_app (goodIn_of _ (by decide +kernel)) ggX5_reads_X5_wordOf
set_option maxRecDepth 20000 in
theorem ggX5_reads_X5_has : GoodIn wsX5_reads wsX5_has := goodIn_r _ [25] (by decide +kernel) (by decide +kernel)
set_option maxRecDepth 20000 in
theorem gX5_reads_X5_has : GoodIn wsX5_reads (va_wsS RX5 31 yX5_has wsX5_has) := goodIn_app (goodIn_of _ (by decide +kernel)) ggX5_reads_X5_has
set_option maxRecDepth 20000 in
theorem ggX5_reads_X5_wears : GoodIn wsX5_reads wsX5_wears := goodIn_r _ [33, 1, 34, 35, 36, 37, 38, 39, 40, 41, 42, 43] (by decide +kernel) (by decide +kernel)
set_option maxRecDepth 20000 in
theorem gX5_reads_X5_wears : GoodIn wsX5_reads (wsV RX5 55 RX5 yX5_wears wsX5_wears) := goodIn_app (goodIn_of _ (by decide +kernel)) ggX5_reads_X5_wears
theorem dX5_reads_0 : decode cX5_reads 0 = .ok (.aload_n 0, 1) := by decide +kernel
theorem dX5_reads_1 : decode cX5_reads 1 = .ok (.iload_n 1, 1) := by decide +kernel
theorem dX5_reads_2 : decode cX5_reads 2 = .ok (.iload_n 2, 1) := by decide +kernel
theorem dX5_reads_3 : decode cX5_reads 3 = .ok (.invokevirtual 52, 3) := by decide +kernel
theorem dX5_reads_6 : decode cX5_reads 6 = .ok (.istore_n 3, 1) := by decide +kernel
theorem dX5_reads_7 : decode cX5_reads 7 = .ok (.iconst 0, 1) := by decide +kernel
theorem dX5_reads_8 : decode cX5_reads 8 = .ok (.istore 4, 2) := by decide +kernel
theorem dX5_reads_10 : decode cX5_reads 10 = .ok (.iload 4, 2) := by decide +kernel
theorem dX5_reads_12 : decode cX5_reads 12 = .ok (.bipush 8, 2) := by decide +kernel
theorem dX5_reads_14 : decode cX5_reads 14 = .ok (.if_icmp .ge 37, 3) := by decide +kernel
theorem dX5_reads_17 : decode cX5_reads 17 = .ok (.aload_n 0, 1) := by decide +kernel
theorem dX5_reads_18 : decode cX5_reads 18 = .ok (.iload_n 1, 1) := by decide +kernel
theorem dX5_reads_19 : decode cX5_reads 19 = .ok (.iload 4, 2) := by decide +kernel
theorem dX5_reads_21 : decode cX5_reads 21 = .ok (.aload_n 0, 1) := by decide +kernel
theorem dX5_reads_22 : decode cX5_reads 22 = .ok (.getfield 7, 3) := by decide +kernel
theorem dX5_reads_25 : decode cX5_reads 25 = .ok (.iload_n 1, 1) := by decide +kernel
theorem dX5_reads_26 : decode cX5_reads 26 = .ok (.iload_n 2, 1) := by decide +kernel
theorem dX5_reads_27 : decode cX5_reads 27 = .ok (.iadd, 1) := by decide +kernel
theorem dX5_reads_28 : decode cX5_reads 28 = .ok (.iaload, 1) := by decide +kernel
theorem dX5_reads_29 : decode cX5_reads 29 = .ok (.iload 4, 2) := by decide +kernel
theorem dX5_reads_31 : decode cX5_reads 31 = .ok (.invokestatic 31, 3) := by decide +kernel
theorem dX5_reads_34 : decode cX5_reads 34 = .ok (.ifCond .eq 7, 3) := by decide +kernel
theorem dX5_reads_37 : decode cX5_reads 37 = .ok (.iconst 1, 1) := by decide +kernel
theorem dX5_reads_38 : decode cX5_reads 38 = .ok (.goto 4, 3) := by decide +kernel
theorem dX5_reads_41 : decode cX5_reads 41 = .ok (.iconst 0, 1) := by decide +kernel
theorem dX5_reads_42 : decode cX5_reads 42 = .ok (.invokevirtual 55, 3) := by decide +kernel
theorem dX5_reads_45 : decode cX5_reads 45 = .ok (.iinc 4 1, 3) := by decide +kernel
theorem dX5_reads_48 : decode cX5_reads 48 = .ok (.goto (-38), 3) := by decide +kernel
theorem dX5_reads_51 : decode cX5_reads 51 = .ok (.aload_n 0, 1) := by decide +kernel
theorem dX5_reads_52 : decode cX5_reads 52 = .ok (.getfield 7, 3) := by decide +kernel
theorem dX5_reads_55 : decode cX5_reads 55 = .ok (.iload_n 1, 1) := by decide +kernel
theorem dX5_reads_56 : decode cX5_reads 56 = .ok (.bipush 44, 2) := by decide +kernel
theorem dX5_reads_58 : decode cX5_reads 58 = .ok (.iadd, 1) := by decide +kernel
theorem dX5_reads_59 : decode cX5_reads 59 = .ok (.iload_n 2, 1) := by decide +kernel
theorem dX5_reads_60 : decode cX5_reads 60 = .ok (.iadd, 1) := by decide +kernel
theorem dX5_reads_61 : decode cX5_reads 61 = .ok (.dup2, 1) := by decide +kernel
theorem dX5_reads_62 : decode cX5_reads 62 = .ok (.iaload, 1) := by decide +kernel
theorem dX5_reads_63 : decode cX5_reads 63 = .ok (.iconst 1, 1) := by decide +kernel
theorem dX5_reads_64 : decode cX5_reads 64 = .ok (.iadd, 1) := by decide +kernel
theorem dX5_reads_65 : decode cX5_reads 65 = .ok (.iastore, 1) := by decide +kernel
theorem dX5_reads_66 : decode cX5_reads 66 = .ok (.aload_n 0, 1) := by decide +kernel
theorem dX5_reads_67 : decode cX5_reads 67 = .ok (.getfield 7, 3) := by decide +kernel
theorem dX5_reads_70 : decode cX5_reads 70 = .ok (.iload_n 1, 1) := by decide +kernel
theorem dX5_reads_71 : decode cX5_reads 71 = .ok (.bipush 61, 2) := by decide +kernel
theorem dX5_reads_73 : decode cX5_reads 73 = .ok (.iadd, 1) := by decide +kernel
theorem dX5_reads_74 : decode cX5_reads 74 = .ok (.dup2, 1) := by decide +kernel
theorem dX5_reads_75 : decode cX5_reads 75 = .ok (.iaload, 1) := by decide +kernel
theorem dX5_reads_76 : decode cX5_reads 76 = .ok (.iconst 1, 1) := by decide +kernel
theorem dX5_reads_77 : decode cX5_reads 77 = .ok (.iadd, 1) := by decide +kernel
theorem dX5_reads_78 : decode cX5_reads 78 = .ok (.iastore, 1) := by decide +kernel
theorem dX5_reads_79 : decode cX5_reads 79 = .ok (.iload_n 3, 1) := by decide +kernel
theorem dX5_reads_80 : decode cX5_reads 80 = .ok (.ireturn, 1) := by decide +kernel
set_option maxRecDepth 20000 in
theorem ggX5_lays_X5_turned : GoodIn wsX5_lays wsX5_turned := goodIn_r _ [6, 1, 17, 18, 19, 20, 21, 22, 23, 24, 25, 26] (by decide +kernel) (by decide +kernel)
set_option maxRecDepth 20000 in
theorem gX5_lays_X5_turned : GoodIn wsX5_lays (wsV RX5 49 RX5 yX5_turned wsX5_turned) := goodIn_app (goodIn_of _ (by decide +kernel)) ggX5_lays_X5_turned
set_option maxRecDepth 20000 in
theorem ggX5_lays_X5_has : GoodIn wsX5_lays wsX5_has := goodIn_r _ [9] (by decide +kernel) (by decide +kernel)
set_option maxRecDepth 20000 in
theorem gX5_lays_X5_has : GoodIn wsX5_lays (va_wsS RX5 31 yX5_has wsX5_has) := goodIn_app (goodIn_of _ (by decide +kernel)) ggX5_lays_X5_has
set_option maxRecDepth 20000 in
theorem ggX5_lays_X5_wears : GoodIn wsX5_lays wsX5_wears := goodIn_r _ [13, 1, 17, 18, 19, 20, 21, 22, 23, 24, 25, 26] (by decide +kernel) (by decide +kernel)
set_option maxRecDepth 20000 in
theorem gX5_lays_X5_wears : GoodIn wsX5_lays (wsV RX5 55 RX5 yX5_wears wsX5_wears) := goodIn_app (goodIn_of _ (by decide +kernel)) ggX5_lays_X5_wears
set_option maxRecDepth 20000 in
theorem ggX5_lays_X5_ones : GoodIn wsX5_lays wsX5_ones := goodIn_r _ [16] (by decide +kernel) (by decide +kernel)
set_option maxRecDepth 20000 in
theorem gX5_lays_X5_ones : GoodIn wsX5_lays (va_wsS RX5 59 yX5_ones wsX5_ones) := goodIn_app (goodIn_of _ (by decide +kernel)) ggX5_lays_X5_ones
theorem dX5_lays_0 : decode cX5_lays 0 = .ok (.aload_n 0, 1) := by decide +kernel
theorem dX5_lays_1 : decode cX5_lays 1 = .ok (.iload_n 1, 1) := by decide +kernel
theorem dX5_lays_2 : decode cX5_lays 2 = .ok (.iload_n 3, 1) := by decide +kernel
theorem dX5_lays_3 : decode cX5_lays 3 = .ok (.invokevirtual 49, 3) := by decide +kernel
theorem dX5_lays_6 : decode cX5_lays 6 = .ok (.aload_n 0, 1) := by decide +kernel
theorem dX5_lays_7 : decode cX5_lays 7 = .ok (.getfield 7, 3) := by decide +kernel
theorem dX5_lays_10 : decode cX5_lays 10 = .ok (.iload_n 1, 1) := by decide +kernel
theorem dX5_lays_11 : decode cX5_lays 11 = .ok (.iload_n 2, 1) := by decide +kernel
theorem dX5_lays_12 : decode cX5_lays 12 = .ok (.iadd, 1) := by decide +kernel
theorem dX5_lays_13 : decode cX5_lays 13 = .ok (.iaload, 1) := by decide +kernel
theorem dX5_lays_14 : decode cX5_lays 14 = .ok (.ixor, 1) := by decide +kernel
theorem dX5_lays_15 : decode cX5_lays 15 = .ok (.istore 4, 2) := by decide +kernel
theorem dX5_lays_17 : decode cX5_lays 17 = .ok (.iconst 0, 1) := by decide +kernel
theorem dX5_lays_18 : decode cX5_lays 18 = .ok (.istore 5, 2) := by decide +kernel
theorem dX5_lays_20 : decode cX5_lays 20 = .ok (.iload 5, 2) := by decide +kernel
theorem dX5_lays_22 : decode cX5_lays 22 = .ok (.bipush 8, 2) := by decide +kernel
theorem dX5_lays_24 : decode cX5_lays 24 = .ok (.if_icmp .ge 31, 3) := by decide +kernel
theorem dX5_lays_27 : decode cX5_lays 27 = .ok (.aload_n 0, 1) := by decide +kernel
theorem dX5_lays_28 : decode cX5_lays 28 = .ok (.iload_n 1, 1) := by decide +kernel
theorem dX5_lays_29 : decode cX5_lays 29 = .ok (.iload 5, 2) := by decide +kernel
theorem dX5_lays_31 : decode cX5_lays 31 = .ok (.iload 4, 2) := by decide +kernel
theorem dX5_lays_33 : decode cX5_lays 33 = .ok (.iload 5, 2) := by decide +kernel
theorem dX5_lays_35 : decode cX5_lays 35 = .ok (.invokestatic 31, 3) := by decide +kernel
theorem dX5_lays_38 : decode cX5_lays 38 = .ok (.ifCond .eq 7, 3) := by decide +kernel
theorem dX5_lays_41 : decode cX5_lays 41 = .ok (.iconst 2, 1) := by decide +kernel
theorem dX5_lays_42 : decode cX5_lays 42 = .ok (.goto 4, 3) := by decide +kernel
theorem dX5_lays_45 : decode cX5_lays 45 = .ok (.iconst 0, 1) := by decide +kernel
theorem dX5_lays_46 : decode cX5_lays 46 = .ok (.invokevirtual 55, 3) := by decide +kernel
theorem dX5_lays_49 : decode cX5_lays 49 = .ok (.iinc 5 1, 3) := by decide +kernel
theorem dX5_lays_52 : decode cX5_lays 52 = .ok (.goto (-32), 3) := by decide +kernel
theorem dX5_lays_55 : decode cX5_lays 55 = .ok (.aload_n 0, 1) := by decide +kernel
theorem dX5_lays_56 : decode cX5_lays 56 = .ok (.getfield 7, 3) := by decide +kernel
theorem dX5_lays_59 : decode cX5_lays 59 = .ok (.iload_n 1, 1) := by decide +kernel
theorem dX5_lays_60 : decode cX5_lays 60 = .ok (.iload_n 2, 1) := by decide +kernel
theorem dX5_lays_61 : decode cX5_lays 61 = .ok (.iadd, 1) := by decide +kernel
theorem dX5_lays_62 : decode cX5_lays 62 = .ok (.dup2, 1) := by decide +kernel
theorem dX5_lays_63 : decode cX5_lays 63 = .ok (.iaload, 1) := by decide +kernel
theorem dX5_lays_64 : decode cX5_lays 64 = .ok (.iload 4, 2) := by decide +kernel
theorem dX5_lays_66 : decode cX5_lays 66 = .ok (.ixor, 1) := by decide +kernel
theorem dX5_lays_67 : decode cX5_lays 67 = .ok (.iastore, 1) := by decide +kernel
theorem dX5_lays_68 : decode cX5_lays 68 = .ok (.aload_n 0, 1) := by decide +kernel
theorem dX5_lays_69 : decode cX5_lays 69 = .ok (.getfield 7, 3) := by decide +kernel
theorem dX5_lays_72 : decode cX5_lays 72 = .ok (.iload_n 1, 1) := by decide +kernel
theorem dX5_lays_73 : decode cX5_lays 73 = .ok (.bipush 60, 2) := by decide +kernel
theorem dX5_lays_75 : decode cX5_lays 75 = .ok (.iadd, 1) := by decide +kernel
theorem dX5_lays_76 : decode cX5_lays 76 = .ok (.dup2, 1) := by decide +kernel
theorem dX5_lays_77 : decode cX5_lays 77 = .ok (.iaload, 1) := by decide +kernel
theorem dX5_lays_78 : decode cX5_lays 78 = .ok (.iload 4, 2) := by decide +kernel
theorem dX5_lays_80 : decode cX5_lays 80 = .ok (.invokestatic 59, 3) := by decide +kernel
theorem dX5_lays_83 : decode cX5_lays 83 = .ok (.iadd, 1) := by decide +kernel
theorem dX5_lays_84 : decode cX5_lays 84 = .ok (.iastore, 1) := by decide +kernel
theorem dX5_lays_85 : decode cX5_lays 85 = .ok (.iload 4, 2) := by decide +kernel
theorem dX5_lays_87 : decode cX5_lays 87 = .ok (.invokestatic 59, 3) := by decide +kernel
theorem dX5_lays_90 : decode cX5_lays 90 = .ok (.ireturn, 1) := by decide +kernel
set_option maxRecDepth 20000 in
theorem ggX5_crossings_X5_ones : GoodIn wsX5_crossings wsX5_ones := goodIn_r _ [5] (by decide +kernel) (by decide +kernel)
set_option maxRecDepth 20000 in
theorem gX5_crossings_X5_ones : GoodIn wsX5_crossings (va_wsS RX5 59 yX5_ones wsX5_ones) := goodIn_app (goodIn_of _ (by decide +kernel)) ggX5_crossings_X5_ones
theorem dX5_crossings_0 : decode cX5_crossings 0 = .ok (.iconst 0, 1) := by decide +kernel
theorem dX5_crossings_1 : decode cX5_crossings 1 = .ok (.istore_n 2, 1) := by decide +kernel
theorem dX5_crossings_2 : decode cX5_crossings 2 = .ok (.iconst 0, 1) := by decide +kernel
theorem dX5_crossings_3 : decode cX5_crossings 3 = .ok (.istore_n 3, 1) := by decide +kernel
theorem dX5_crossings_4 : decode cX5_crossings 4 = .ok (.iload_n 3, 1) := by decide +kernel
theorem dX5_crossings_5 : decode cX5_crossings 5 = .ok (.bipush 16, 2) := by decide +kernel
theorem dX5_crossings_7 : decode cX5_crossings 7 = .ok (.if_icmp .ge 23, 3) := by decide +kernel
theorem dX5_crossings_10 : decode cX5_crossings 10 = .ok (.iload_n 2, 1) := by decide +kernel
theorem dX5_crossings_11 : decode cX5_crossings 11 = .ok (.aload_n 0, 1) := by decide +kernel
theorem dX5_crossings_12 : decode cX5_crossings 12 = .ok (.getfield 7, 3) := by decide +kernel
theorem dX5_crossings_15 : decode cX5_crossings 15 = .ok (.iload_n 1, 1) := by decide +kernel
theorem dX5_crossings_16 : decode cX5_crossings 16 = .ok (.iload_n 3, 1) := by decide +kernel
theorem dX5_crossings_17 : decode cX5_crossings 17 = .ok (.iadd, 1) := by decide +kernel
theorem dX5_crossings_18 : decode cX5_crossings 18 = .ok (.iaload, 1) := by decide +kernel
theorem dX5_crossings_19 : decode cX5_crossings 19 = .ok (.invokestatic 59, 3) := by decide +kernel
theorem dX5_crossings_22 : decode cX5_crossings 22 = .ok (.iadd, 1) := by decide +kernel
theorem dX5_crossings_23 : decode cX5_crossings 23 = .ok (.istore_n 2, 1) := by decide +kernel
theorem dX5_crossings_24 : decode cX5_crossings 24 = .ok (.iinc 3 1, 3) := by decide +kernel
theorem dX5_crossings_27 : decode cX5_crossings 27 = .ok (.goto (-23), 3) := by decide +kernel
theorem dX5_crossings_30 : decode cX5_crossings 30 = .ok (.iload_n 2, 1) := by decide +kernel
theorem dX5_crossings_31 : decode cX5_crossings 31 = .ok (.ireturn, 1) := by decide +kernel
set_option maxRecDepth 20000 in
theorem ggX5_right_X5_wordOf : GoodIn wsX5_right wsX5_wordOf := goodIn_r _ [5, 6, 7, 8, 4, 9, 10, 11, 12, 13, 14, 15, 16, 17, 18, 19, 20, 21, 22, 23, 24, 25, 26, 27, 28, 29, 34, 35, 36, 37, 38, 39, 40, 41, 42, 43] (by decide +kernel) (by decide +kernel)
set_option maxRecDepth 20000 in
theorem gX5_right_X5_wordOf : GoodIn wsX5_right (wsV RX5 52 RX5 yX5_wordOf wsX5_wordOf) := goodIn_app (goodIn_of _ (by decide +kernel)) ggX5_right_X5_wordOf
set_option maxRecDepth 20000 in
theorem ggX5_right_X5_meant : GoodIn wsX5_right wsX5_meant := goodIn_r _ [33, 10, 26, 27, 28, 4, 29, 34, 35, 36, 37, 38, 39, 40, 41, 42, 43] (by decide +kernel) (by decide +kernel)
set_option maxRecDepth 20000 in
theorem gX5_right_X5_meant : GoodIn wsX5_right (wsV RX5 63 RX5 yX5_meant wsX5_meant) := goodIn_app (goodIn_of _ (by decide +kernel)) ggX5_right_X5_meant
theorem dX5_right_0 : decode cX5_right 0 = .ok (.iconst 0, 1) := by decide +kernel
theorem dX5_right_1 : decode cX5_right 1 = .ok (.istore_n 2, 1) := by decide +kernel
theorem dX5_right_2 : decode cX5_right 2 = .ok (.iconst 0, 1) := by decide +kernel
theorem dX5_right_3 : decode cX5_right 3 = .ok (.istore_n 3, 1) := by decide +kernel
theorem dX5_right_4 : decode cX5_right 4 = .ok (.iload_n 3, 1) := by decide +kernel
theorem dX5_right_5 : decode cX5_right 5 = .ok (.bipush 16, 2) := by decide +kernel
theorem dX5_right_7 : decode cX5_right 7 = .ok (.if_icmp .ge 32, 3) := by decide +kernel
theorem dX5_right_10 : decode cX5_right 10 = .ok (.iload_n 2, 1) := by decide +kernel
theorem dX5_right_11 : decode cX5_right 11 = .ok (.aload_n 0, 1) := by decide +kernel
theorem dX5_right_12 : decode cX5_right 12 = .ok (.iload_n 1, 1) := by decide +kernel
theorem dX5_right_13 : decode cX5_right 13 = .ok (.iload_n 3, 1) := by decide +kernel
theorem dX5_right_14 : decode cX5_right 14 = .ok (.invokevirtual 52, 3) := by decide +kernel
theorem dX5_right_17 : decode cX5_right 17 = .ok (.aload_n 0, 1) := by decide +kernel
theorem dX5_right_18 : decode cX5_right 18 = .ok (.iload_n 1, 1) := by decide +kernel
theorem dX5_right_19 : decode cX5_right 19 = .ok (.iload_n 3, 1) := by decide +kernel
theorem dX5_right_20 : decode cX5_right 20 = .ok (.invokevirtual 63, 3) := by decide +kernel
theorem dX5_right_23 : decode cX5_right 23 = .ok (.if_icmp .ne 7, 3) := by decide +kernel
theorem dX5_right_26 : decode cX5_right 26 = .ok (.iconst 1, 1) := by decide +kernel
theorem dX5_right_27 : decode cX5_right 27 = .ok (.goto 4, 3) := by decide +kernel
theorem dX5_right_30 : decode cX5_right 30 = .ok (.iconst 0, 1) := by decide +kernel
theorem dX5_right_31 : decode cX5_right 31 = .ok (.iadd, 1) := by decide +kernel
theorem dX5_right_32 : decode cX5_right 32 = .ok (.istore_n 2, 1) := by decide +kernel
theorem dX5_right_33 : decode cX5_right 33 = .ok (.iinc 3 1, 3) := by decide +kernel
theorem dX5_right_36 : decode cX5_right 36 = .ok (.goto (-32), 3) := by decide +kernel
theorem dX5_right_39 : decode cX5_right 39 = .ok (.iload_n 2, 1) := by decide +kernel
theorem dX5_right_40 : decode cX5_right 40 = .ok (.ireturn, 1) := by decide +kernel
theorem dX5_tells_0 : decode cX5_tells 0 = .ok (.bipush 7, 2) := by decide +kernel
theorem dX5_tells_2 : decode cX5_tells 2 = .ok (.istore_n 2, 1) := by decide +kernel
theorem dX5_tells_3 : decode cX5_tells 3 = .ok (.iload_n 2, 1) := by decide +kernel
theorem dX5_tells_4 : decode cX5_tells 4 = .ok (.ifCond .le 33, 3) := by decide +kernel
theorem dX5_tells_7 : decode cX5_tells 7 = .ok (.aload_n 0, 1) := by decide +kernel
theorem dX5_tells_8 : decode cX5_tells 8 = .ok (.getfield 7, 3) := by decide +kernel
theorem dX5_tells_11 : decode cX5_tells 11 = .ok (.iload_n 1, 1) := by decide +kernel
theorem dX5_tells_12 : decode cX5_tells 12 = .ok (.bipush 36, 2) := by decide +kernel
theorem dX5_tells_14 : decode cX5_tells 14 = .ok (.iadd, 1) := by decide +kernel
theorem dX5_tells_15 : decode cX5_tells 15 = .ok (.iload_n 2, 1) := by decide +kernel
theorem dX5_tells_16 : decode cX5_tells 16 = .ok (.iadd, 1) := by decide +kernel
theorem dX5_tells_17 : decode cX5_tells 17 = .ok (.aload_n 0, 1) := by decide +kernel
theorem dX5_tells_18 : decode cX5_tells 18 = .ok (.getfield 7, 3) := by decide +kernel
theorem dX5_tells_21 : decode cX5_tells 21 = .ok (.iload_n 1, 1) := by decide +kernel
theorem dX5_tells_22 : decode cX5_tells 22 = .ok (.bipush 36, 2) := by decide +kernel
theorem dX5_tells_24 : decode cX5_tells 24 = .ok (.iadd, 1) := by decide +kernel
theorem dX5_tells_25 : decode cX5_tells 25 = .ok (.iload_n 2, 1) := by decide +kernel
theorem dX5_tells_26 : decode cX5_tells 26 = .ok (.iadd, 1) := by decide +kernel
theorem dX5_tells_27 : decode cX5_tells 27 = .ok (.iconst 1, 1) := by decide +kernel
theorem dX5_tells_28 : decode cX5_tells 28 = .ok (.isub, 1) := by decide +kernel
theorem dX5_tells_29 : decode cX5_tells 29 = .ok (.iaload, 1) := by decide +kernel
theorem dX5_tells_30 : decode cX5_tells 30 = .ok (.iastore, 1) := by decide +kernel
theorem dX5_tells_31 : decode cX5_tells 31 = .ok (.iinc 2 (-1), 3) := by decide +kernel
theorem dX5_tells_34 : decode cX5_tells 34 = .ok (.goto (-31), 3) := by decide +kernel
theorem dX5_tells_37 : decode cX5_tells 37 = .ok (.aload_n 0, 1) := by decide +kernel
theorem dX5_tells_38 : decode cX5_tells 38 = .ok (.getfield 7, 3) := by decide +kernel
theorem dX5_tells_41 : decode cX5_tells 41 = .ok (.iload_n 1, 1) := by decide +kernel
theorem dX5_tells_42 : decode cX5_tells 42 = .ok (.bipush 36, 2) := by decide +kernel
theorem dX5_tells_44 : decode cX5_tells 44 = .ok (.iadd, 1) := by decide +kernel
theorem dX5_tells_45 : decode cX5_tells 45 = .ok (.aload_n 0, 1) := by decide +kernel
theorem dX5_tells_46 : decode cX5_tells 46 = .ok (.getfield 7, 3) := by decide +kernel
theorem dX5_tells_49 : decode cX5_tells 49 = .ok (.iload_n 1, 1) := by decide +kernel
theorem dX5_tells_50 : decode cX5_tells 50 = .ok (.bipush 28, 2) := by decide +kernel
theorem dX5_tells_52 : decode cX5_tells 52 = .ok (.iadd, 1) := by decide +kernel
theorem dX5_tells_53 : decode cX5_tells 53 = .ok (.iaload, 1) := by decide +kernel
theorem dX5_tells_54 : decode cX5_tells 54 = .ok (.iastore, 1) := by decide +kernel
theorem dX5_tells_55 : decode cX5_tells 55 = .ok (.aload_n 0, 1) := by decide +kernel
theorem dX5_tells_56 : decode cX5_tells 56 = .ok (.getfield 7, 3) := by decide +kernel
theorem dX5_tells_59 : decode cX5_tells 59 = .ok (.iload_n 1, 1) := by decide +kernel
theorem dX5_tells_60 : decode cX5_tells 60 = .ok (.bipush 35, 2) := by decide +kernel
theorem dX5_tells_62 : decode cX5_tells 62 = .ok (.iadd, 1) := by decide +kernel
theorem dX5_tells_63 : decode cX5_tells 63 = .ok (.dup2, 1) := by decide +kernel
theorem dX5_tells_64 : decode cX5_tells 64 = .ok (.iaload, 1) := by decide +kernel
theorem dX5_tells_65 : decode cX5_tells 65 = .ok (.iconst 1, 1) := by decide +kernel
theorem dX5_tells_66 : decode cX5_tells 66 = .ok (.iadd, 1) := by decide +kernel
theorem dX5_tells_67 : decode cX5_tells 67 = .ok (.iastore, 1) := by decide +kernel
theorem dX5_tells_68 : decode cX5_tells 68 = .ok (.return_, 1) := by decide +kernel
set_option maxRecDepth 20000 in
theorem ggX5_steps_X5_reads : GoodIn wsX5_steps wsX5_reads := goodIn_r _ [6, 1, 7, 8, 9, 5, 10, 11, 12, 13, 14, 15, 16, 17, 18, 19, 20, 21, 22, 23, 24, 25, 26, 27, 28, 29, 30, 31, 32, 33, 34, 35, 36, 37, 42, 43, 44, 45, 46, 47, 48, 49, 50, 51] (by decide +kernel) (by decide +kernel)
set_option maxRecDepth 20000 in
theorem gX5_steps_X5_reads : GoodIn wsX5_steps (wsV RX5 66 RX5 yX5_reads wsX5_reads) := goodIn_app (goodIn_of _ (by decide +kernel)) ggX5_steps_X5_reads
set_option maxRecDepth 20000 in
theorem ggX5_steps_X5_tells : GoodIn wsX5_steps wsX5_tells := goodIn_r _ [41, 1, 42, 43, 44, 45, 46, 47, 48, 49, 50, 51] (by decide +kernel) (by decide +kernel)
set_option maxRecDepth 20000 in
theorem gX5_steps_X5_tells : GoodIn wsX5_steps (wsV RX5 69 RX5 yX5_tells wsX5_tells) := goodIn_app (goodIn_of _ (by decide +kernel)) ggX5_steps_X5_tells
theorem dX5_steps_0 : decode cX5_steps 0 = .ok (.aload_n 0, 1) := by decide +kernel
theorem dX5_steps_1 : decode cX5_steps 1 = .ok (.iload_n 1, 1) := by decide +kernel
theorem dX5_steps_2 : decode cX5_steps 2 = .ok (.aload_n 0, 1) := by decide +kernel
theorem dX5_steps_3 : decode cX5_steps 3 = .ok (.getfield 7, 3) := by decide +kernel
theorem dX5_steps_6 : decode cX5_steps 6 = .ok (.iload_n 1, 1) := by decide +kernel
theorem dX5_steps_7 : decode cX5_steps 7 = .ok (.bipush 27, 2) := by decide +kernel
theorem dX5_steps_9 : decode cX5_steps 9 = .ok (.iadd, 1) := by decide +kernel
theorem dX5_steps_10 : decode cX5_steps 10 = .ok (.iaload, 1) := by decide +kernel
theorem dX5_steps_11 : decode cX5_steps 11 = .ok (.invokevirtual 66, 3) := by decide +kernel
theorem dX5_steps_14 : decode cX5_steps 14 = .ok (.istore_n 2, 1) := by decide +kernel
theorem dX5_steps_15 : decode cX5_steps 15 = .ok (.iload_n 2, 1) := by decide +kernel
theorem dX5_steps_16 : decode cX5_steps 16 = .ok (.bipush 32, 2) := by decide +kernel
theorem dX5_steps_18 : decode cX5_steps 18 = .ok (.irem, 1) := by decide +kernel
theorem dX5_steps_19 : decode cX5_steps 19 = .ok (.istore_n 3, 1) := by decide +kernel
theorem dX5_steps_20 : decode cX5_steps 20 = .ok (.iload_n 1, 1) := by decide +kernel
theorem dX5_steps_21 : decode cX5_steps 21 = .ok (.bipush 29, 2) := by decide +kernel
theorem dX5_steps_23 : decode cX5_steps 23 = .ok (.iadd, 1) := by decide +kernel
theorem dX5_steps_24 : decode cX5_steps 24 = .ok (.iload_n 3, 1) := by decide +kernel
theorem dX5_steps_25 : decode cX5_steps 25 = .ok (.iconst 4, 1) := by decide +kernel
theorem dX5_steps_26 : decode cX5_steps 26 = .ok (.irem, 1) := by decide +kernel
theorem dX5_steps_27 : decode cX5_steps 27 = .ok (.iadd, 1) := by decide +kernel
theorem dX5_steps_28 : decode cX5_steps 28 = .ok (.istore 4, 2) := by decide +kernel
theorem dX5_steps_30 : decode cX5_steps 30 = .ok (.aload_n 0, 1) := by decide +kernel
theorem dX5_steps_31 : decode cX5_steps 31 = .ok (.getfield 7, 3) := by decide +kernel
theorem dX5_steps_34 : decode cX5_steps 34 = .ok (.iload_n 1, 1) := by decide +kernel
theorem dX5_steps_35 : decode cX5_steps 35 = .ok (.bipush 27, 2) := by decide +kernel
theorem dX5_steps_37 : decode cX5_steps 37 = .ok (.iadd, 1) := by decide +kernel
theorem dX5_steps_38 : decode cX5_steps 38 = .ok (.aload_n 0, 1) := by decide +kernel
theorem dX5_steps_39 : decode cX5_steps 39 = .ok (.getfield 7, 3) := by decide +kernel
theorem dX5_steps_42 : decode cX5_steps 42 = .ok (.iload_n 1, 1) := by decide +kernel
theorem dX5_steps_43 : decode cX5_steps 43 = .ok (.bipush 27, 2) := by decide +kernel
theorem dX5_steps_45 : decode cX5_steps 45 = .ok (.iadd, 1) := by decide +kernel
theorem dX5_steps_46 : decode cX5_steps 46 = .ok (.iaload, 1) := by decide +kernel
theorem dX5_steps_47 : decode cX5_steps 47 = .ok (.iconst 1, 1) := by decide +kernel
theorem dX5_steps_48 : decode cX5_steps 48 = .ok (.iadd, 1) := by decide +kernel
theorem dX5_steps_49 : decode cX5_steps 49 = .ok (.bipush 16, 2) := by decide +kernel
theorem dX5_steps_51 : decode cX5_steps 51 = .ok (.irem, 1) := by decide +kernel
theorem dX5_steps_52 : decode cX5_steps 52 = .ok (.iastore, 1) := by decide +kernel
theorem dX5_steps_53 : decode cX5_steps 53 = .ok (.aload_n 0, 1) := by decide +kernel
theorem dX5_steps_54 : decode cX5_steps 54 = .ok (.getfield 7, 3) := by decide +kernel
theorem dX5_steps_57 : decode cX5_steps 57 = .ok (.iload_n 1, 1) := by decide +kernel
theorem dX5_steps_58 : decode cX5_steps 58 = .ok (.bipush 34, 2) := by decide +kernel
theorem dX5_steps_60 : decode cX5_steps 60 = .ok (.iadd, 1) := by decide +kernel
theorem dX5_steps_61 : decode cX5_steps 61 = .ok (.dup2, 1) := by decide +kernel
theorem dX5_steps_62 : decode cX5_steps 62 = .ok (.iaload, 1) := by decide +kernel
theorem dX5_steps_63 : decode cX5_steps 63 = .ok (.iconst 1, 1) := by decide +kernel
theorem dX5_steps_64 : decode cX5_steps 64 = .ok (.iadd, 1) := by decide +kernel
theorem dX5_steps_65 : decode cX5_steps 65 = .ok (.iastore, 1) := by decide +kernel
theorem dX5_steps_66 : decode cX5_steps 66 = .ok (.iload_n 2, 1) := by decide +kernel
theorem dX5_steps_67 : decode cX5_steps 67 = .ok (.bipush 32, 2) := by decide +kernel
theorem dX5_steps_69 : decode cX5_steps 69 = .ok (.idiv, 1) := by decide +kernel
theorem dX5_steps_70 : decode cX5_steps 70 = .ok (.tableswitch 207 0 6 #[42, 55, 68, 101, 120, 136, 176], 42) := by decide +kernel
theorem dX5_steps_112 : decode cX5_steps 112 = .ok (.aload_n 0, 1) := by decide +kernel
theorem dX5_steps_113 : decode cX5_steps 113 = .ok (.getfield 7, 3) := by decide +kernel
theorem dX5_steps_116 : decode cX5_steps 116 = .ok (.iload_n 1, 1) := by decide +kernel
theorem dX5_steps_117 : decode cX5_steps 117 = .ok (.bipush 33, 2) := by decide +kernel
theorem dX5_steps_119 : decode cX5_steps 119 = .ok (.iadd, 1) := by decide +kernel
theorem dX5_steps_120 : decode cX5_steps 120 = .ok (.iconst 0, 1) := by decide +kernel
theorem dX5_steps_121 : decode cX5_steps 121 = .ok (.iastore, 1) := by decide +kernel
theorem dX5_steps_122 : decode cX5_steps 122 = .ok (.goto 160, 3) := by decide +kernel
theorem dX5_steps_125 : decode cX5_steps 125 = .ok (.aload_n 0, 1) := by decide +kernel
theorem dX5_steps_126 : decode cX5_steps 126 = .ok (.getfield 7, 3) := by decide +kernel
theorem dX5_steps_129 : decode cX5_steps 129 = .ok (.iload_n 1, 1) := by decide +kernel
theorem dX5_steps_130 : decode cX5_steps 130 = .ok (.bipush 28, 2) := by decide +kernel
theorem dX5_steps_132 : decode cX5_steps 132 = .ok (.iadd, 1) := by decide +kernel
theorem dX5_steps_133 : decode cX5_steps 133 = .ok (.iload_n 3, 1) := by decide +kernel
theorem dX5_steps_134 : decode cX5_steps 134 = .ok (.iastore, 1) := by decide +kernel
theorem dX5_steps_135 : decode cX5_steps 135 = .ok (.goto 147, 3) := by decide +kernel
theorem dX5_steps_138 : decode cX5_steps 138 = .ok (.aload_n 0, 1) := by decide +kernel
theorem dX5_steps_139 : decode cX5_steps 139 = .ok (.getfield 7, 3) := by decide +kernel
theorem dX5_steps_142 : decode cX5_steps 142 = .ok (.iload_n 1, 1) := by decide +kernel
theorem dX5_steps_143 : decode cX5_steps 143 = .ok (.bipush 28, 2) := by decide +kernel
theorem dX5_steps_145 : decode cX5_steps 145 = .ok (.iadd, 1) := by decide +kernel
theorem dX5_steps_146 : decode cX5_steps 146 = .ok (.aload_n 0, 1) := by decide +kernel
theorem dX5_steps_147 : decode cX5_steps 147 = .ok (.getfield 7, 3) := by decide +kernel
theorem dX5_steps_150 : decode cX5_steps 150 = .ok (.iload_n 1, 1) := by decide +kernel
theorem dX5_steps_151 : decode cX5_steps 151 = .ok (.bipush 28, 2) := by decide +kernel
theorem dX5_steps_153 : decode cX5_steps 153 = .ok (.iadd, 1) := by decide +kernel
theorem dX5_steps_154 : decode cX5_steps 154 = .ok (.iaload, 1) := by decide +kernel
theorem dX5_steps_155 : decode cX5_steps 155 = .ok (.aload_n 0, 1) := by decide +kernel
theorem dX5_steps_156 : decode cX5_steps 156 = .ok (.getfield 7, 3) := by decide +kernel
theorem dX5_steps_159 : decode cX5_steps 159 = .ok (.iload 4, 2) := by decide +kernel
theorem dX5_steps_161 : decode cX5_steps 161 = .ok (.iaload, 1) := by decide +kernel
theorem dX5_steps_162 : decode cX5_steps 162 = .ok (.iadd, 1) := by decide +kernel
theorem dX5_steps_163 : decode cX5_steps 163 = .ok (.sipush 256, 3) := by decide +kernel
theorem dX5_steps_166 : decode cX5_steps 166 = .ok (.irem, 1) := by decide +kernel
theorem dX5_steps_167 : decode cX5_steps 167 = .ok (.iastore, 1) := by decide +kernel
theorem dX5_steps_168 : decode cX5_steps 168 = .ok (.goto 114, 3) := by decide +kernel
theorem dX5_steps_171 : decode cX5_steps 171 = .ok (.aload_n 0, 1) := by decide +kernel
theorem dX5_steps_172 : decode cX5_steps 172 = .ok (.getfield 7, 3) := by decide +kernel
theorem dX5_steps_175 : decode cX5_steps 175 = .ok (.iload 4, 2) := by decide +kernel
theorem dX5_steps_177 : decode cX5_steps 177 = .ok (.aload_n 0, 1) := by decide +kernel
theorem dX5_steps_178 : decode cX5_steps 178 = .ok (.getfield 7, 3) := by decide +kernel
theorem dX5_steps_181 : decode cX5_steps 181 = .ok (.iload_n 1, 1) := by decide +kernel
theorem dX5_steps_182 : decode cX5_steps 182 = .ok (.bipush 28, 2) := by decide +kernel
theorem dX5_steps_184 : decode cX5_steps 184 = .ok (.iadd, 1) := by decide +kernel
theorem dX5_steps_185 : decode cX5_steps 185 = .ok (.iaload, 1) := by decide +kernel
theorem dX5_steps_186 : decode cX5_steps 186 = .ok (.iastore, 1) := by decide +kernel
theorem dX5_steps_187 : decode cX5_steps 187 = .ok (.goto 95, 3) := by decide +kernel
theorem dX5_steps_190 : decode cX5_steps 190 = .ok (.aload_n 0, 1) := by decide +kernel
theorem dX5_steps_191 : decode cX5_steps 191 = .ok (.getfield 7, 3) := by decide +kernel
theorem dX5_steps_194 : decode cX5_steps 194 = .ok (.iload_n 1, 1) := by decide +kernel
theorem dX5_steps_195 : decode cX5_steps 195 = .ok (.bipush 27, 2) := by decide +kernel
theorem dX5_steps_197 : decode cX5_steps 197 = .ok (.iadd, 1) := by decide +kernel
theorem dX5_steps_198 : decode cX5_steps 198 = .ok (.iload_n 3, 1) := by decide +kernel
theorem dX5_steps_199 : decode cX5_steps 199 = .ok (.bipush 16, 2) := by decide +kernel
theorem dX5_steps_201 : decode cX5_steps 201 = .ok (.irem, 1) := by decide +kernel
theorem dX5_steps_202 : decode cX5_steps 202 = .ok (.iastore, 1) := by decide +kernel
theorem dX5_steps_203 : decode cX5_steps 203 = .ok (.goto 79, 3) := by decide +kernel
theorem dX5_steps_206 : decode cX5_steps 206 = .ok (.aload_n 0, 1) := by decide +kernel
theorem dX5_steps_207 : decode cX5_steps 207 = .ok (.getfield 7, 3) := by decide +kernel
theorem dX5_steps_210 : decode cX5_steps 210 = .ok (.iload_n 1, 1) := by decide +kernel
theorem dX5_steps_211 : decode cX5_steps 211 = .ok (.bipush 27, 2) := by decide +kernel
theorem dX5_steps_213 : decode cX5_steps 213 = .ok (.iadd, 1) := by decide +kernel
theorem dX5_steps_214 : decode cX5_steps 214 = .ok (.aload_n 0, 1) := by decide +kernel
theorem dX5_steps_215 : decode cX5_steps 215 = .ok (.getfield 7, 3) := by decide +kernel
theorem dX5_steps_218 : decode cX5_steps 218 = .ok (.iload_n 1, 1) := by decide +kernel
theorem dX5_steps_219 : decode cX5_steps 219 = .ok (.bipush 28, 2) := by decide +kernel
theorem dX5_steps_221 : decode cX5_steps 221 = .ok (.iadd, 1) := by decide +kernel
theorem dX5_steps_222 : decode cX5_steps 222 = .ok (.iaload, 1) := by decide +kernel
theorem dX5_steps_223 : decode cX5_steps 223 = .ok (.ifCond .ne 10, 3) := by decide +kernel
theorem dX5_steps_226 : decode cX5_steps 226 = .ok (.iload_n 3, 1) := by decide +kernel
theorem dX5_steps_227 : decode cX5_steps 227 = .ok (.bipush 16, 2) := by decide +kernel
theorem dX5_steps_229 : decode cX5_steps 229 = .ok (.irem, 1) := by decide +kernel
theorem dX5_steps_230 : decode cX5_steps 230 = .ok (.goto 12, 3) := by decide +kernel
theorem dX5_steps_233 : decode cX5_steps 233 = .ok (.aload_n 0, 1) := by decide +kernel
theorem dX5_steps_234 : decode cX5_steps 234 = .ok (.getfield 7, 3) := by decide +kernel
theorem dX5_steps_237 : decode cX5_steps 237 = .ok (.iload_n 1, 1) := by decide +kernel
theorem dX5_steps_238 : decode cX5_steps 238 = .ok (.bipush 27, 2) := by decide +kernel
theorem dX5_steps_240 : decode cX5_steps 240 = .ok (.iadd, 1) := by decide +kernel
theorem dX5_steps_241 : decode cX5_steps 241 = .ok (.iaload, 1) := by decide +kernel
theorem dX5_steps_242 : decode cX5_steps 242 = .ok (.iastore, 1) := by decide +kernel
theorem dX5_steps_243 : decode cX5_steps 243 = .ok (.goto 39, 3) := by decide +kernel
theorem dX5_steps_246 : decode cX5_steps 246 = .ok (.aload_n 0, 1) := by decide +kernel
theorem dX5_steps_247 : decode cX5_steps 247 = .ok (.getfield 7, 3) := by decide +kernel
theorem dX5_steps_250 : decode cX5_steps 250 = .ok (.iload_n 1, 1) := by decide +kernel
theorem dX5_steps_251 : decode cX5_steps 251 = .ok (.bipush 28, 2) := by decide +kernel
theorem dX5_steps_253 : decode cX5_steps 253 = .ok (.iadd, 1) := by decide +kernel
theorem dX5_steps_254 : decode cX5_steps 254 = .ok (.aload_n 0, 1) := by decide +kernel
theorem dX5_steps_255 : decode cX5_steps 255 = .ok (.getfield 7, 3) := by decide +kernel
theorem dX5_steps_258 : decode cX5_steps 258 = .ok (.iload_n 1, 1) := by decide +kernel
theorem dX5_steps_259 : decode cX5_steps 259 = .ok (.bipush 28, 2) := by decide +kernel
theorem dX5_steps_261 : decode cX5_steps 261 = .ok (.iadd, 1) := by decide +kernel
theorem dX5_steps_262 : decode cX5_steps 262 = .ok (.iaload, 1) := by decide +kernel
theorem dX5_steps_263 : decode cX5_steps 263 = .ok (.sipush 256, 3) := by decide +kernel
