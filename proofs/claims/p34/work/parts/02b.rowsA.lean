theorem dX2_wearRings_39 : decode cX2_wearRings 39 = .ok (.goto (-37), 3) := by decide +kernel
theorem dX2_wearRings_42 : decode cX2_wearRings 42 = .ok (.return_, 1) := by decide +kernel
set_option maxRecDepth 20000 in
theorem ggX2_takeReading_X2_tells : GoodIn wsX2_takeReading wsX2_tells := goodIn_r _ [8, 9, 10, 11, 7, 12, 1, 13, 14, 15, 16, 17, 18, 19, 20, 21, 22, 23, 24, 25, 26, 27, 28, 29, 30, 31, 32, 33, 34, 42, 43, 44, 45, 46, 47, 48, 49] (by decide +kernel) (by decide +kernel)
set_option maxRecDepth 20000 in
theorem gX2_takeReading_X2_tells : GoodIn wsX2_takeReading (wsV RX2 79 RX2 yX2_tells wsX2_tells) := goodIn_app (goodIn_of _ (by decide +kernel)) ggX2_takeReading_X2_tells
set_option maxRecDepth 20000 in
theorem ggX2_takeReading_X2_wearRings : GoodIn wsX2_takeReading wsX2_wearRings := goodIn_r _ [38, 25, 39, 40, 23, 41, 14, 15, 16, 42, 43, 44, 45, 46, 47, 48, 49] (by decide +kernel) (by decide +kernel)
set_option maxRecDepth 20000 in
theorem gX2_takeReading_X2_wearRings : GoodIn wsX2_takeReading (wsV RX2 58 RX2 yX2_wearRings wsX2_wearRings) := goodIn_app (goodIn_of _ (by decide +kernel)) ggX2_takeReading_X2_wearRings
theorem dX2_takeReading_0 : decode cX2_takeReading 0 = .ok (.aload_n 0, 1) := by decide +kernel
theorem dX2_takeReading_1 : decode cX2_takeReading 1 = .ok (.iload_n 1, 1) := by decide +kernel
theorem dX2_takeReading_2 : decode cX2_takeReading 2 = .ok (.invokevirtual 79, 3) := by decide +kernel
theorem dX2_takeReading_5 : decode cX2_takeReading 5 = .ok (.istore_n 2, 1) := by decide +kernel
theorem dX2_takeReading_6 : decode cX2_takeReading 6 = .ok (.aload_n 0, 1) := by decide +kernel
theorem dX2_takeReading_7 : decode cX2_takeReading 7 = .ok (.aload_n 0, 1) := by decide +kernel
theorem dX2_takeReading_8 : decode cX2_takeReading 8 = .ok (.getfield 9, 3) := by decide +kernel
theorem dX2_takeReading_11 : decode cX2_takeReading 11 = .ok (.iload_n 1, 1) := by decide +kernel
theorem dX2_takeReading_12 : decode cX2_takeReading 12 = .ok (.iaload, 1) := by decide +kernel
theorem dX2_takeReading_13 : decode cX2_takeReading 13 = .ok (.iconst 1, 1) := by decide +kernel
theorem dX2_takeReading_14 : decode cX2_takeReading 14 = .ok (.invokevirtual 58, 3) := by decide +kernel
theorem dX2_takeReading_17 : decode cX2_takeReading 17 = .ok (.aload_n 0, 1) := by decide +kernel
theorem dX2_takeReading_18 : decode cX2_takeReading 18 = .ok (.getfield 15, 3) := by decide +kernel
theorem dX2_takeReading_21 : decode cX2_takeReading 21 = .ok (.iload_n 1, 1) := by decide +kernel
theorem dX2_takeReading_22 : decode cX2_takeReading 22 = .ok (.dup2, 1) := by decide +kernel
theorem dX2_takeReading_23 : decode cX2_takeReading 23 = .ok (.iaload, 1) := by decide +kernel
theorem dX2_takeReading_24 : decode cX2_takeReading 24 = .ok (.iconst 1, 1) := by decide +kernel
theorem dX2_takeReading_25 : decode cX2_takeReading 25 = .ok (.iadd, 1) := by decide +kernel
theorem dX2_takeReading_26 : decode cX2_takeReading 26 = .ok (.iastore, 1) := by decide +kernel
theorem dX2_takeReading_27 : decode cX2_takeReading 27 = .ok (.aload_n 0, 1) := by decide +kernel
theorem dX2_takeReading_28 : decode cX2_takeReading 28 = .ok (.dup, 1) := by decide +kernel
theorem dX2_takeReading_29 : decode cX2_takeReading 29 = .ok (.getfield 48, 3) := by decide +kernel
theorem dX2_takeReading_32 : decode cX2_takeReading 32 = .ok (.iconst 1, 1) := by decide +kernel
theorem dX2_takeReading_33 : decode cX2_takeReading 33 = .ok (.iadd, 1) := by decide +kernel
theorem dX2_takeReading_34 : decode cX2_takeReading 34 = .ok (.putfield 48, 3) := by decide +kernel
theorem dX2_takeReading_37 : decode cX2_takeReading 37 = .ok (.iload_n 2, 1) := by decide +kernel
theorem dX2_takeReading_38 : decode cX2_takeReading 38 = .ok (.ireturn, 1) := by decide +kernel
set_option maxRecDepth 20000 in
theorem ggX2_run_X2_takeReading : GoodIn wsX2_run wsX2_takeReading := goodIn_r _ [8, 9, 10, 11, 12, 13, 14, 7, 15, 16, 17, 18, 19, 20, 21, 22, 23, 24, 25, 26, 27, 28, 29, 30, 31, 32, 33, 34, 35, 36, 37, 38, 39, 40, 41, 42, 43, 44, 45, 46, 47, 48, 65, 66, 67, 68, 69, 70, 71, 72] (by decide +kernel) (by decide +kernel)
set_option maxRecDepth 20000 in
theorem gX2_run_X2_takeReading : GoodIn wsX2_run (wsV RX2 89 RX2 yX2_takeReading wsX2_takeReading) := goodIn_app (goodIn_of _ (by decide +kernel)) ggX2_run_X2_takeReading
set_option maxRecDepth 20000 in
theorem ggX2_run_X0_obey : GoodIn wsX2_run wsX0_obey := goodIn_r _ [53, 54, 55, 56, 57, 58, 59, 60, 61, 52, 62, 63, 64, 73, 74, 75, 76, 77, 78, 79] (by decide +kernel) (by decide +kernel)
set_option maxRecDepth 20000 in
theorem gX2_run_X0_obey : GoodIn wsX2_run (wsV RX2 92 RX0 yX0_obey wsX0_obey) := goodIn_app (goodIn_of _ (by decide +kernel)) ggX2_run_X0_obey
theorem dX2_run_0 : decode cX2_run 0 = .ok (.iconst 0, 1) := by decide +kernel
theorem dX2_run_1 : decode cX2_run 1 = .ok (.istore_n 2, 1) := by decide +kernel
theorem dX2_run_2 : decode cX2_run 2 = .ok (.iload_n 2, 1) := by decide +kernel
theorem dX2_run_3 : decode cX2_run 3 = .ok (.iload_n 1, 1) := by decide +kernel
theorem dX2_run_4 : decode cX2_run 4 = .ok (.if_icmp .ge 39, 3) := by decide +kernel
theorem dX2_run_7 : decode cX2_run 7 = .ok (.aload_n 0, 1) := by decide +kernel
theorem dX2_run_8 : decode cX2_run 8 = .ok (.getfield 27, 3) := by decide +kernel
theorem dX2_run_11 : decode cX2_run 11 = .ok (.getfield 82, 3) := by decide +kernel
theorem dX2_run_14 : decode cX2_run 14 = .ok (.ifCond .eq 29, 3) := by decide +kernel
theorem dX2_run_17 : decode cX2_run 17 = .ok (.aload_n 0, 1) := by decide +kernel
theorem dX2_run_18 : decode cX2_run 18 = .ok (.aload_n 0, 1) := by decide +kernel
theorem dX2_run_19 : decode cX2_run 19 = .ok (.getfield 27, 3) := by decide +kernel
theorem dX2_run_22 : decode cX2_run 22 = .ok (.getfield 86, 3) := by decide +kernel
theorem dX2_run_25 : decode cX2_run 25 = .ok (.invokevirtual 89, 3) := by decide +kernel
theorem dX2_run_28 : decode cX2_run 28 = .ok (.istore_n 3, 1) := by decide +kernel
theorem dX2_run_29 : decode cX2_run 29 = .ok (.aload_n 0, 1) := by decide +kernel
theorem dX2_run_30 : decode cX2_run 30 = .ok (.getfield 27, 3) := by decide +kernel
theorem dX2_run_33 : decode cX2_run 33 = .ok (.iload_n 3, 1) := by decide +kernel
theorem dX2_run_34 : decode cX2_run 34 = .ok (.invokevirtual 92, 3) := by decide +kernel
theorem dX2_run_37 : decode cX2_run 37 = .ok (.iinc 2 1, 3) := by decide +kernel
theorem dX2_run_40 : decode cX2_run 40 = .ok (.goto (-38), 3) := by decide +kernel
theorem dX2_run_43 : decode cX2_run 43 = .ok (.iload_n 2, 1) := by decide +kernel
theorem dX2_run_44 : decode cX2_run 44 = .ok (.ireturn, 1) := by decide +kernel
set_option maxRecDepth 20000 in
theorem ggX2_oneThreadOn_X4_bit : GoodIn wsX2_oneThreadOn wsX4_bit := goodIn_r _ [5] (by decide +kernel) (by decide +kernel)
set_option maxRecDepth 20000 in
theorem gX2_oneThreadOn_X4_bit_n70 : GoodIn wsX2_oneThreadOn (wsX4_bit) := ggX2_oneThreadOn_X4_bit
theorem dX2_oneThreadOn_0 : decode cX2_oneThreadOn 0 = .ok (.iload_n 2, 1) := by decide +kernel
theorem dX2_oneThreadOn_1 : decode cX2_oneThreadOn 1 = .ok (.istore_n 3, 1) := by decide +kernel
theorem dX2_oneThreadOn_2 : decode cX2_oneThreadOn 2 = .ok (.iconst 0, 1) := by decide +kernel
theorem dX2_oneThreadOn_3 : decode cX2_oneThreadOn 3 = .ok (.istore 4, 2) := by decide +kernel
theorem dX2_oneThreadOn_5 : decode cX2_oneThreadOn 5 = .ok (.iload 4, 2) := by decide +kernel
theorem dX2_oneThreadOn_7 : decode cX2_oneThreadOn 7 = .ok (.bipush 16, 2) := by decide +kernel
theorem dX2_oneThreadOn_9 : decode cX2_oneThreadOn 9 = .ok (.if_icmp .ge 61, 3) := by decide +kernel
theorem dX2_oneThreadOn_12 : decode cX2_oneThreadOn 12 = .ok (.aload_n 0, 1) := by decide +kernel
theorem dX2_oneThreadOn_13 : decode cX2_oneThreadOn 13 = .ok (.getfield 9, 3) := by decide +kernel
theorem dX2_oneThreadOn_16 : decode cX2_oneThreadOn 16 = .ok (.iload 4, 2) := by decide +kernel
theorem dX2_oneThreadOn_18 : decode cX2_oneThreadOn 18 = .ok (.iaload, 1) := by decide +kernel
theorem dX2_oneThreadOn_19 : decode cX2_oneThreadOn 19 = .ok (.iload_n 2, 1) := by decide +kernel
theorem dX2_oneThreadOn_20 : decode cX2_oneThreadOn 20 = .ok (.iand, 1) := by decide +kernel
theorem dX2_oneThreadOn_21 : decode cX2_oneThreadOn 21 = .ok (.ifCond .eq 7, 3) := by decide +kernel
theorem dX2_oneThreadOn_24 : decode cX2_oneThreadOn 24 = .ok (.iconst 1, 1) := by decide +kernel
theorem dX2_oneThreadOn_25 : decode cX2_oneThreadOn 25 = .ok (.goto 4, 3) := by decide +kernel
theorem dX2_oneThreadOn_28 : decode cX2_oneThreadOn 28 = .ok (.iconst 0, 1) := by decide +kernel
theorem dX2_oneThreadOn_29 : decode cX2_oneThreadOn 29 = .ok (.istore 5, 2) := by decide +kernel
theorem dX2_oneThreadOn_31 : decode cX2_oneThreadOn 31 = .ok (.iload 5, 2) := by decide +kernel
theorem dX2_oneThreadOn_33 : decode cX2_oneThreadOn 33 = .ok (.ifCond .eq 31, 3) := by decide +kernel
theorem dX2_oneThreadOn_36 : decode cX2_oneThreadOn 36 = .ok (.iload 4, 2) := by decide +kernel
theorem dX2_oneThreadOn_38 : decode cX2_oneThreadOn 38 = .ok (.iload_n 1, 1) := by decide +kernel
theorem dX2_oneThreadOn_39 : decode cX2_oneThreadOn 39 = .ok (.if_icmp .eq 25, 3) := by decide +kernel
theorem dX2_oneThreadOn_42 : decode cX2_oneThreadOn 42 = .ok (.aload_n 0, 1) := by decide +kernel
theorem dX2_oneThreadOn_43 : decode cX2_oneThreadOn 43 = .ok (.getfield 41, 3) := by decide +kernel
theorem dX2_oneThreadOn_46 : decode cX2_oneThreadOn 46 = .ok (.iload 4, 2) := by decide +kernel
theorem dX2_oneThreadOn_48 : decode cX2_oneThreadOn 48 = .ok (.invokestatic 70, 3) := by decide +kernel
theorem dX2_oneThreadOn_51 : decode cX2_oneThreadOn 51 = .ok (.ifCond .ne 13, 3) := by decide +kernel
theorem dX2_oneThreadOn_54 : decode cX2_oneThreadOn 54 = .ok (.iload_n 3, 1) := by decide +kernel
theorem dX2_oneThreadOn_55 : decode cX2_oneThreadOn 55 = .ok (.aload_n 0, 1) := by decide +kernel
theorem dX2_oneThreadOn_56 : decode cX2_oneThreadOn 56 = .ok (.getfield 9, 3) := by decide +kernel
theorem dX2_oneThreadOn_59 : decode cX2_oneThreadOn 59 = .ok (.iload 4, 2) := by decide +kernel
theorem dX2_oneThreadOn_61 : decode cX2_oneThreadOn 61 = .ok (.iaload, 1) := by decide +kernel
theorem dX2_oneThreadOn_62 : decode cX2_oneThreadOn 62 = .ok (.ior, 1) := by decide +kernel
theorem dX2_oneThreadOn_63 : decode cX2_oneThreadOn 63 = .ok (.istore_n 3, 1) := by decide +kernel
theorem dX2_oneThreadOn_64 : decode cX2_oneThreadOn 64 = .ok (.iinc 4 1, 3) := by decide +kernel
theorem dX2_oneThreadOn_67 : decode cX2_oneThreadOn 67 = .ok (.goto (-62), 3) := by decide +kernel
theorem dX2_oneThreadOn_70 : decode cX2_oneThreadOn 70 = .ok (.iload_n 3, 1) := by decide +kernel
theorem dX2_oneThreadOn_71 : decode cX2_oneThreadOn 71 = .ok (.ireturn, 1) := by decide +kernel
set_option maxRecDepth 20000 in
theorem ggX2_hops_X4_bit : GoodIn wsX2_hops wsX4_bit := goodIn_r _ [4] (by decide +kernel) (by decide +kernel)
set_option maxRecDepth 20000 in
theorem gX2_hops_X4_bit_n70 : GoodIn wsX2_hops (wsX4_bit) := ggX2_hops_X4_bit
set_option maxRecDepth 20000 in
theorem ggX2_hops_X2_oneThreadOn : GoodIn wsX2_hops wsX2_oneThreadOn := goodIn_r _ [9, 1, 10, 2, 3, 4, 11, 12, 13, 14, 15, 16, 17, 18] (by decide +kernel) (by decide +kernel)
set_option maxRecDepth 20000 in
theorem gX2_hops_X2_oneThreadOn : GoodIn wsX2_hops (wsV RX2 96 RX2 yX2_oneThreadOn wsX2_oneThreadOn) := goodIn_app (goodIn_of _ (by decide +kernel)) ggX2_hops_X2_oneThreadOn
theorem dX2_hops_0 : decode cX2_hops 0 = .ok (.aload_n 0, 1) := by decide +kernel
theorem dX2_hops_1 : decode cX2_hops 1 = .ok (.getfield 9, 3) := by decide +kernel
theorem dX2_hops_4 : decode cX2_hops 4 = .ok (.iload_n 1, 1) := by decide +kernel
theorem dX2_hops_5 : decode cX2_hops 5 = .ok (.iaload, 1) := by decide +kernel
theorem dX2_hops_6 : decode cX2_hops 6 = .ok (.istore_n 3, 1) := by decide +kernel
theorem dX2_hops_7 : decode cX2_hops 7 = .ok (.iconst 0, 1) := by decide +kernel
theorem dX2_hops_8 : decode cX2_hops 8 = .ok (.istore 4, 2) := by decide +kernel
theorem dX2_hops_10 : decode cX2_hops 10 = .ok (.iload 4, 2) := by decide +kernel
theorem dX2_hops_12 : decode cX2_hops 12 = .ok (.bipush 8, 2) := by decide +kernel
theorem dX2_hops_14 : decode cX2_hops 14 = .ok (.if_icmp .ge 28, 3) := by decide +kernel
theorem dX2_hops_17 : decode cX2_hops 17 = .ok (.iload_n 3, 1) := by decide +kernel
theorem dX2_hops_18 : decode cX2_hops 18 = .ok (.iload_n 2, 1) := by decide +kernel
theorem dX2_hops_19 : decode cX2_hops 19 = .ok (.invokestatic 70, 3) := by decide +kernel
theorem dX2_hops_22 : decode cX2_hops 22 = .ok (.iconst 1, 1) := by decide +kernel
theorem dX2_hops_23 : decode cX2_hops 23 = .ok (.if_icmp .ne 6, 3) := by decide +kernel
theorem dX2_hops_26 : decode cX2_hops 26 = .ok (.iload 4, 2) := by decide +kernel
theorem dX2_hops_28 : decode cX2_hops 28 = .ok (.ireturn, 1) := by decide +kernel
theorem dX2_hops_29 : decode cX2_hops 29 = .ok (.aload_n 0, 1) := by decide +kernel
theorem dX2_hops_30 : decode cX2_hops 30 = .ok (.iload_n 1, 1) := by decide +kernel
theorem dX2_hops_31 : decode cX2_hops 31 = .ok (.iload_n 3, 1) := by decide +kernel
theorem dX2_hops_32 : decode cX2_hops 32 = .ok (.invokevirtual 96, 3) := by decide +kernel
theorem dX2_hops_35 : decode cX2_hops 35 = .ok (.istore_n 3, 1) := by decide +kernel
theorem dX2_hops_36 : decode cX2_hops 36 = .ok (.iinc 4 1, 3) := by decide +kernel
theorem dX2_hops_39 : decode cX2_hops 39 = .ok (.goto (-29), 3) := by decide +kernel
theorem dX2_hops_42 : decode cX2_hops 42 = .ok (.iconst (-1), 1) := by decide +kernel
theorem dX2_hops_43 : decode cX2_hops 43 = .ok (.ireturn, 1) := by decide +kernel
theorem dX2_strengthAt_0 : decode cX2_strengthAt 0 = .ok (.iload_n 2, 1) := by decide +kernel
theorem dX2_strengthAt_1 : decode cX2_strengthAt 1 = .ok (.iconst (-1), 1) := by decide +kernel
theorem dX2_strengthAt_2 : decode cX2_strengthAt 2 = .ok (.if_icmp .ne 5, 3) := by decide +kernel
theorem dX2_strengthAt_5 : decode cX2_strengthAt 5 = .ok (.iconst 0, 1) := by decide +kernel
theorem dX2_strengthAt_6 : decode cX2_strengthAt 6 = .ok (.ireturn, 1) := by decide +kernel
theorem dX2_strengthAt_7 : decode cX2_strengthAt 7 = .ok (.bipush 8, 2) := by decide +kernel
theorem dX2_strengthAt_9 : decode cX2_strengthAt 9 = .ok (.iconst 3, 1) := by decide +kernel
theorem dX2_strengthAt_10 : decode cX2_strengthAt 10 = .ok (.iload_n 2, 1) := by decide +kernel
theorem dX2_strengthAt_11 : decode cX2_strengthAt 11 = .ok (.imul, 1) := by decide +kernel
theorem dX2_strengthAt_12 : decode cX2_strengthAt 12 = .ok (.isub, 1) := by decide +kernel
theorem dX2_strengthAt_13 : decode cX2_strengthAt 13 = .ok (.iconst 0, 1) := by decide +kernel
theorem dX2_strengthAt_14 : decode cX2_strengthAt 14 = .ok (.invokestatic 99, 3) := by decide +kernel
theorem dX2_strengthAt_17 : decode cX2_strengthAt 17 = .ok (.istore_n 3, 1) := by decide +kernel
theorem dX2_strengthAt_18 : decode cX2_strengthAt 18 = .ok (.iload_n 3, 1) := by decide +kernel
theorem dX2_strengthAt_19 : decode cX2_strengthAt 19 = .ok (.aload_n 0, 1) := by decide +kernel
theorem dX2_strengthAt_20 : decode cX2_strengthAt 20 = .ok (.getfield 18, 3) := by decide +kernel
theorem dX2_strengthAt_23 : decode cX2_strengthAt 23 = .ok (.iload_n 1, 1) := by decide +kernel
theorem dX2_strengthAt_24 : decode cX2_strengthAt 24 = .ok (.iaload, 1) := by decide +kernel
theorem dX2_strengthAt_25 : decode cX2_strengthAt 25 = .ok (.bipush 10, 2) := by decide +kernel
theorem dX2_strengthAt_27 : decode cX2_strengthAt 27 = .ok (.idiv, 1) := by decide +kernel
theorem dX2_strengthAt_28 : decode cX2_strengthAt 28 = .ok (.isub, 1) := by decide +kernel
theorem dX2_strengthAt_29 : decode cX2_strengthAt 29 = .ok (.iconst 0, 1) := by decide +kernel
theorem dX2_strengthAt_30 : decode cX2_strengthAt 30 = .ok (.invokestatic 99, 3) := by decide +kernel
theorem dX2_strengthAt_33 : decode cX2_strengthAt 33 = .ok (.ireturn, 1) := by decide +kernel
set_option maxRecDepth 20000 in
theorem ggX2_answering_X4_bit : GoodIn wsX2_answering wsX4_bit := goodIn_r _ [5] (by decide +kernel) (by decide +kernel)
set_option maxRecDepth 20000 in
theorem gX2_answering_X4_bit_n70 : GoodIn wsX2_answering (wsX4_bit) := ggX2_answering_X4_bit
set_option maxRecDepth 20000 in
theorem ggX2_answering_X2_strengthAt : GoodIn wsX2_answering wsX2_strengthAt := goodIn_r _ [10, 11, 12, 13, 14, 15, 21, 22, 23, 24, 25, 26, 27, 28] (by decide +kernel) (by decide +kernel)
set_option maxRecDepth 20000 in
theorem gX2_answering_X2_strengthAt : GoodIn wsX2_answering (wsV RX2 102 RX2 yX2_strengthAt wsX2_strengthAt) := goodIn_app (goodIn_of _ (by decide +kernel)) ggX2_answering_X2_strengthAt
set_option maxRecDepth 20000 in
theorem ggX2_answering_X2_oneThreadOn : GoodIn wsX2_answering wsX2_oneThreadOn := goodIn_r _ [19, 1, 20, 3, 4, 5, 21, 22, 23, 24, 25, 26, 27, 28] (by decide +kernel) (by decide +kernel)
set_option maxRecDepth 20000 in
theorem gX2_answering_X2_oneThreadOn : GoodIn wsX2_answering (wsV RX2 96 RX2 yX2_oneThreadOn wsX2_oneThreadOn) := goodIn_app (goodIn_of _ (by decide +kernel)) ggX2_answering_X2_oneThreadOn
theorem dX2_answering_0 : decode cX2_answering 0 = .ok (.iconst 0, 1) := by decide +kernel
theorem dX2_answering_1 : decode cX2_answering 1 = .ok (.istore_n 2, 1) := by decide +kernel
theorem dX2_answering_2 : decode cX2_answering 2 = .ok (.iconst 0, 1) := by decide +kernel
theorem dX2_answering_3 : decode cX2_answering 3 = .ok (.istore_n 3, 1) := by decide +kernel
theorem dX2_answering_4 : decode cX2_answering 4 = .ok (.aload_n 0, 1) := by decide +kernel
theorem dX2_answering_5 : decode cX2_answering 5 = .ok (.getfield 9, 3) := by decide +kernel
theorem dX2_answering_8 : decode cX2_answering 8 = .ok (.iload_n 1, 1) := by decide +kernel
theorem dX2_answering_9 : decode cX2_answering 9 = .ok (.iaload, 1) := by decide +kernel
theorem dX2_answering_10 : decode cX2_answering 10 = .ok (.istore 4, 2) := by decide +kernel
theorem dX2_answering_12 : decode cX2_answering 12 = .ok (.iconst 0, 1) := by decide +kernel
theorem dX2_answering_13 : decode cX2_answering 13 = .ok (.istore 5, 2) := by decide +kernel
theorem dX2_answering_15 : decode cX2_answering 15 = .ok (.iconst 3, 1) := by decide +kernel
theorem dX2_answering_16 : decode cX2_answering 16 = .ok (.iload 5, 2) := by decide +kernel
theorem dX2_answering_18 : decode cX2_answering 18 = .ok (.imul, 1) := by decide +kernel
theorem dX2_answering_19 : decode cX2_answering 19 = .ok (.bipush 8, 2) := by decide +kernel
theorem dX2_answering_21 : decode cX2_answering 21 = .ok (.if_icmp .ge 80, 3) := by decide +kernel
theorem dX2_answering_24 : decode cX2_answering 24 = .ok (.iload 4, 2) := by decide +kernel
theorem dX2_answering_26 : decode cX2_answering 26 = .ok (.iload_n 3, 1) := by decide +kernel
theorem dX2_answering_27 : decode cX2_answering 27 = .ok (.iconst (-1), 1) := by decide +kernel
theorem dX2_answering_28 : decode cX2_answering 28 = .ok (.ixor, 1) := by decide +kernel
theorem dX2_answering_29 : decode cX2_answering 29 = .ok (.iand, 1) := by decide +kernel
theorem dX2_answering_30 : decode cX2_answering 30 = .ok (.istore 6, 2) := by decide +kernel
theorem dX2_answering_32 : decode cX2_answering 32 = .ok (.iconst 0, 1) := by decide +kernel
theorem dX2_answering_33 : decode cX2_answering 33 = .ok (.istore 7, 2) := by decide +kernel
theorem dX2_answering_35 : decode cX2_answering 35 = .ok (.iload 7, 2) := by decide +kernel
theorem dX2_answering_37 : decode cX2_answering 37 = .ok (.bipush 8, 2) := by decide +kernel
theorem dX2_answering_39 : decode cX2_answering 39 = .ok (.if_icmp .ge 44, 3) := by decide +kernel
theorem dX2_answering_42 : decode cX2_answering 42 = .ok (.iload 6, 2) := by decide +kernel
theorem dX2_answering_44 : decode cX2_answering 44 = .ok (.iload 7, 2) := by decide +kernel
theorem dX2_answering_46 : decode cX2_answering 46 = .ok (.invokestatic 70, 3) := by decide +kernel
theorem dX2_answering_49 : decode cX2_answering 49 = .ok (.iconst 1, 1) := by decide +kernel
theorem dX2_answering_50 : decode cX2_answering 50 = .ok (.if_icmp .ne 27, 3) := by decide +kernel
theorem dX2_answering_53 : decode cX2_answering 53 = .ok (.aload_n 0, 1) := by decide +kernel
theorem dX2_answering_54 : decode cX2_answering 54 = .ok (.iload 7, 2) := by decide +kernel
theorem dX2_answering_56 : decode cX2_answering 56 = .ok (.iload 5, 2) := by decide +kernel
theorem dX2_answering_58 : decode cX2_answering 58 = .ok (.invokevirtual 102, 3) := by decide +kernel
theorem dX2_answering_61 : decode cX2_answering 61 = .ok (.aload_n 0, 1) := by decide +kernel
theorem dX2_answering_62 : decode cX2_answering 62 = .ok (.getfield 21, 3) := by decide +kernel
theorem dX2_answering_65 : decode cX2_answering 65 = .ok (.iconst 0, 1) := by decide +kernel
theorem dX2_answering_66 : decode cX2_answering 66 = .ok (.iaload, 1) := by decide +kernel
theorem dX2_answering_67 : decode cX2_answering 67 = .ok (.if_icmp .lt 10, 3) := by decide +kernel
theorem dX2_answering_70 : decode cX2_answering 70 = .ok (.iload_n 2, 1) := by decide +kernel
theorem dX2_answering_71 : decode cX2_answering 71 = .ok (.iconst 1, 1) := by decide +kernel
theorem dX2_answering_72 : decode cX2_answering 72 = .ok (.iload 7, 2) := by decide +kernel
theorem dX2_answering_74 : decode cX2_answering 74 = .ok (.ishl, 1) := by decide +kernel
theorem dX2_answering_75 : decode cX2_answering 75 = .ok (.ior, 1) := by decide +kernel
theorem dX2_answering_76 : decode cX2_answering 76 = .ok (.istore_n 2, 1) := by decide +kernel
theorem dX2_answering_77 : decode cX2_answering 77 = .ok (.iinc 7 1, 3) := by decide +kernel
theorem dX2_answering_80 : decode cX2_answering 80 = .ok (.goto (-45), 3) := by decide +kernel
theorem dX2_answering_83 : decode cX2_answering 83 = .ok (.iload 4, 2) := by decide +kernel
theorem dX2_answering_85 : decode cX2_answering 85 = .ok (.istore_n 3, 1) := by decide +kernel
theorem dX2_answering_86 : decode cX2_answering 86 = .ok (.aload_n 0, 1) := by decide +kernel
theorem dX2_answering_87 : decode cX2_answering 87 = .ok (.iload_n 1, 1) := by decide +kernel
theorem dX2_answering_88 : decode cX2_answering 88 = .ok (.iload 4, 2) := by decide +kernel
theorem dX2_answering_90 : decode cX2_answering 90 = .ok (.invokevirtual 96, 3) := by decide +kernel
theorem dX2_answering_93 : decode cX2_answering 93 = .ok (.istore 4, 2) := by decide +kernel
theorem dX2_answering_95 : decode cX2_answering 95 = .ok (.iinc 5 1, 3) := by decide +kernel
theorem dX2_answering_98 : decode cX2_answering 98 = .ok (.goto (-83), 3) := by decide +kernel
theorem dX2_answering_101 : decode cX2_answering 101 = .ok (.iload_n 2, 1) := by decide +kernel
theorem dX2_answering_102 : decode cX2_answering 102 = .ok (.ireturn, 1) := by decide +kernel
set_option maxRecDepth 20000 in
theorem ggX2_readingsUntilChange_X4_bit : GoodIn wsX2_readingsUntilChange wsX4_bit := goodIn_r _ [6] (by decide +kernel) (by decide +kernel)
set_option maxRecDepth 20000 in
theorem gX2_readingsUntilChange_X4_bit_n70 : GoodIn wsX2_readingsUntilChange (wsX4_bit) := ggX2_readingsUntilChange_X4_bit
theorem dX2_readingsUntilChange_0 : decode cX2_readingsUntilChange 0 = .ok (.bipush 10, 2) := by decide +kernel
theorem dX2_readingsUntilChange_2 : decode cX2_readingsUntilChange 2 = .ok (.bipush 8, 2) := by decide +kernel
theorem dX2_readingsUntilChange_4 : decode cX2_readingsUntilChange 4 = .ok (.aload_n 0, 1) := by decide +kernel
theorem dX2_readingsUntilChange_5 : decode cX2_readingsUntilChange 5 = .ok (.getfield 21, 3) := by decide +kernel
theorem dX2_readingsUntilChange_8 : decode cX2_readingsUntilChange 8 = .ok (.iconst 0, 1) := by decide +kernel
theorem dX2_readingsUntilChange_9 : decode cX2_readingsUntilChange 9 = .ok (.iaload, 1) := by decide +kernel
theorem dX2_readingsUntilChange_10 : decode cX2_readingsUntilChange 10 = .ok (.isub, 1) := by decide +kernel
theorem dX2_readingsUntilChange_11 : decode cX2_readingsUntilChange 11 = .ok (.iconst 1, 1) := by decide +kernel
theorem dX2_readingsUntilChange_12 : decode cX2_readingsUntilChange 12 = .ok (.iadd, 1) := by decide +kernel
theorem dX2_readingsUntilChange_13 : decode cX2_readingsUntilChange 13 = .ok (.imul, 1) := by decide +kernel
theorem dX2_readingsUntilChange_14 : decode cX2_readingsUntilChange 14 = .ok (.istore_n 2, 1) := by decide +kernel
theorem dX2_readingsUntilChange_15 : decode cX2_readingsUntilChange 15 = .ok (.iconst (-1), 1) := by decide +kernel
theorem dX2_readingsUntilChange_16 : decode cX2_readingsUntilChange 16 = .ok (.istore_n 3, 1) := by decide +kernel
theorem dX2_readingsUntilChange_17 : decode cX2_readingsUntilChange 17 = .ok (.iconst 0, 1) := by decide +kernel
theorem dX2_readingsUntilChange_18 : decode cX2_readingsUntilChange 18 = .ok (.istore 4, 2) := by decide +kernel
theorem dX2_readingsUntilChange_20 : decode cX2_readingsUntilChange 20 = .ok (.iload 4, 2) := by decide +kernel
theorem dX2_readingsUntilChange_22 : decode cX2_readingsUntilChange 22 = .ok (.bipush 8, 2) := by decide +kernel
theorem dX2_readingsUntilChange_24 : decode cX2_readingsUntilChange 24 = .ok (.if_icmp .ge 54, 3) := by decide +kernel
theorem dX2_readingsUntilChange_27 : decode cX2_readingsUntilChange 27 = .ok (.iload_n 2, 1) := by decide +kernel
theorem dX2_readingsUntilChange_28 : decode cX2_readingsUntilChange 28 = .ok (.aload_n 0, 1) := by decide +kernel
theorem dX2_readingsUntilChange_29 : decode cX2_readingsUntilChange 29 = .ok (.getfield 18, 3) := by decide +kernel
theorem dX2_readingsUntilChange_32 : decode cX2_readingsUntilChange 32 = .ok (.iload 4, 2) := by decide +kernel
theorem dX2_readingsUntilChange_34 : decode cX2_readingsUntilChange 34 = .ok (.iaload, 1) := by decide +kernel
theorem dX2_readingsUntilChange_35 : decode cX2_readingsUntilChange 35 = .ok (.isub, 1) := by decide +kernel
theorem dX2_readingsUntilChange_36 : decode cX2_readingsUntilChange 36 = .ok (.istore 5, 2) := by decide +kernel
theorem dX2_readingsUntilChange_38 : decode cX2_readingsUntilChange 38 = .ok (.aload_n 0, 1) := by decide +kernel
theorem dX2_readingsUntilChange_39 : decode cX2_readingsUntilChange 39 = .ok (.getfield 9, 3) := by decide +kernel
theorem dX2_readingsUntilChange_42 : decode cX2_readingsUntilChange 42 = .ok (.iload_n 1, 1) := by decide +kernel
theorem dX2_readingsUntilChange_43 : decode cX2_readingsUntilChange 43 = .ok (.iaload, 1) := by decide +kernel
theorem dX2_readingsUntilChange_44 : decode cX2_readingsUntilChange 44 = .ok (.iload 4, 2) := by decide +kernel
theorem dX2_readingsUntilChange_46 : decode cX2_readingsUntilChange 46 = .ok (.invokestatic 70, 3) := by decide +kernel
theorem dX2_readingsUntilChange_49 : decode cX2_readingsUntilChange 49 = .ok (.iconst 1, 1) := by decide +kernel
theorem dX2_readingsUntilChange_50 : decode cX2_readingsUntilChange 50 = .ok (.if_icmp .ne 22, 3) := by decide +kernel
theorem dX2_readingsUntilChange_53 : decode cX2_readingsUntilChange 53 = .ok (.iload 5, 2) := by decide +kernel
theorem dX2_readingsUntilChange_55 : decode cX2_readingsUntilChange 55 = .ok (.ifCond .le 17, 3) := by decide +kernel
theorem dX2_readingsUntilChange_58 : decode cX2_readingsUntilChange 58 = .ok (.iload_n 3, 1) := by decide +kernel
theorem dX2_readingsUntilChange_59 : decode cX2_readingsUntilChange 59 = .ok (.iconst (-1), 1) := by decide +kernel
theorem dX2_readingsUntilChange_60 : decode cX2_readingsUntilChange 60 = .ok (.if_icmp .eq 9, 3) := by decide +kernel
theorem dX2_readingsUntilChange_63 : decode cX2_readingsUntilChange 63 = .ok (.iload 5, 2) := by decide +kernel
theorem dX2_readingsUntilChange_65 : decode cX2_readingsUntilChange 65 = .ok (.iload_n 3, 1) := by decide +kernel
theorem dX2_readingsUntilChange_66 : decode cX2_readingsUntilChange 66 = .ok (.if_icmp .ge 6, 3) := by decide +kernel
theorem dX2_readingsUntilChange_69 : decode cX2_readingsUntilChange 69 = .ok (.iload 5, 2) := by decide +kernel
theorem dX2_readingsUntilChange_71 : decode cX2_readingsUntilChange 71 = .ok (.istore_n 3, 1) := by decide +kernel
theorem dX2_readingsUntilChange_72 : decode cX2_readingsUntilChange 72 = .ok (.iinc 4 1, 3) := by decide +kernel
theorem dX2_readingsUntilChange_75 : decode cX2_readingsUntilChange 75 = .ok (.goto (-55), 3) := by decide +kernel
theorem dX2_readingsUntilChange_78 : decode cX2_readingsUntilChange 78 = .ok (.iload_n 3, 1) := by decide +kernel
theorem dX2_readingsUntilChange_79 : decode cX2_readingsUntilChange 79 = .ok (.ireturn, 1) := by decide +kernel
set_option maxRecDepth 20000 in
theorem ggX2_threadsThrough_X4_bit : GoodIn wsX2_threadsThrough wsX4_bit := goodIn_r _ [4] (by decide +kernel) (by decide +kernel)
set_option maxRecDepth 20000 in
theorem gX2_threadsThrough_X4_bit_n70 : GoodIn wsX2_threadsThrough (wsX4_bit) := ggX2_threadsThrough_X4_bit
theorem dX2_threadsThrough_0 : decode cX2_threadsThrough 0 = .ok (.iconst 0, 1) := by decide +kernel
theorem dX2_threadsThrough_1 : decode cX2_threadsThrough 1 = .ok (.istore_n 2, 1) := by decide +kernel
theorem dX2_threadsThrough_2 : decode cX2_threadsThrough 2 = .ok (.iconst 0, 1) := by decide +kernel
theorem dX2_threadsThrough_3 : decode cX2_threadsThrough 3 = .ok (.istore_n 3, 1) := by decide +kernel
theorem dX2_threadsThrough_4 : decode cX2_threadsThrough 4 = .ok (.iload_n 3, 1) := by decide +kernel
theorem dX2_threadsThrough_5 : decode cX2_threadsThrough 5 = .ok (.bipush 16, 2) := by decide +kernel
theorem dX2_threadsThrough_7 : decode cX2_threadsThrough 7 = .ok (.if_icmp .ge 24, 3) := by decide +kernel
theorem dX2_threadsThrough_10 : decode cX2_threadsThrough 10 = .ok (.iload_n 2, 1) := by decide +kernel
theorem dX2_threadsThrough_11 : decode cX2_threadsThrough 11 = .ok (.aload_n 0, 1) := by decide +kernel
theorem dX2_threadsThrough_12 : decode cX2_threadsThrough 12 = .ok (.getfield 9, 3) := by decide +kernel
theorem dX2_threadsThrough_15 : decode cX2_threadsThrough 15 = .ok (.iload_n 3, 1) := by decide +kernel
theorem dX2_threadsThrough_16 : decode cX2_threadsThrough 16 = .ok (.iaload, 1) := by decide +kernel
theorem dX2_threadsThrough_17 : decode cX2_threadsThrough 17 = .ok (.iload_n 1, 1) := by decide +kernel
theorem dX2_threadsThrough_18 : decode cX2_threadsThrough 18 = .ok (.invokestatic 70, 3) := by decide +kernel
theorem dX2_threadsThrough_21 : decode cX2_threadsThrough 21 = .ok (.iload_n 3, 1) := by decide +kernel
theorem dX2_threadsThrough_22 : decode cX2_threadsThrough 22 = .ok (.ishl, 1) := by decide +kernel
theorem dX2_threadsThrough_23 : decode cX2_threadsThrough 23 = .ok (.ior, 1) := by decide +kernel
theorem dX2_threadsThrough_24 : decode cX2_threadsThrough 24 = .ok (.istore_n 2, 1) := by decide +kernel
theorem dX2_threadsThrough_25 : decode cX2_threadsThrough 25 = .ok (.iinc 3 1, 3) := by decide +kernel
theorem dX2_threadsThrough_28 : decode cX2_threadsThrough 28 = .ok (.goto (-24), 3) := by decide +kernel
theorem dX2_threadsThrough_31 : decode cX2_threadsThrough 31 = .ok (.iload_n 2, 1) := by decide +kernel
theorem dX2_threadsThrough_32 : decode cX2_threadsThrough 32 = .ok (.ireturn, 1) := by decide +kernel
set_option maxRecDepth 20000 in
theorem ggX2_threadsAnswered_X2_answering : GoodIn wsX2_threadsAnswered wsX2_answering := goodIn_r _ [5, 6, 7, 8, 9, 10, 11, 12, 13, 4, 14, 15, 16, 17, 18, 19, 20, 21, 22, 23, 24, 25, 26, 27, 28, 29, 30, 31, 32] (by decide +kernel) (by decide +kernel)
set_option maxRecDepth 20000 in
theorem gX2_threadsAnswered_X2_answering : GoodIn wsX2_threadsAnswered (wsV RX2 55 RX2 yX2_answering wsX2_answering) := goodIn_app (goodIn_of _ (by decide +kernel)) ggX2_threadsAnswered_X2_answering
set_option maxRecDepth 20000 in
theorem ggX2_threadsAnswered_X4_bit : GoodIn wsX2_threadsAnswered wsX4_bit := goodIn_r _ [10] (by decide +kernel) (by decide +kernel)
set_option maxRecDepth 20000 in
theorem gX2_threadsAnswered_X4_bit_n70 : GoodIn wsX2_threadsAnswered (wsX4_bit) := ggX2_threadsAnswered_X4_bit
theorem dX2_threadsAnswered_0 : decode cX2_threadsAnswered 0 = .ok (.iconst 0, 1) := by decide +kernel
theorem dX2_threadsAnswered_1 : decode cX2_threadsAnswered 1 = .ok (.istore_n 2, 1) := by decide +kernel
theorem dX2_threadsAnswered_2 : decode cX2_threadsAnswered 2 = .ok (.iconst 0, 1) := by decide +kernel
theorem dX2_threadsAnswered_3 : decode cX2_threadsAnswered 3 = .ok (.istore_n 3, 1) := by decide +kernel
theorem dX2_threadsAnswered_4 : decode cX2_threadsAnswered 4 = .ok (.iload_n 3, 1) := by decide +kernel
theorem dX2_threadsAnswered_5 : decode cX2_threadsAnswered 5 = .ok (.bipush 16, 2) := by decide +kernel
theorem dX2_threadsAnswered_7 : decode cX2_threadsAnswered 7 = .ok (.if_icmp .ge 21, 3) := by decide +kernel
theorem dX2_threadsAnswered_10 : decode cX2_threadsAnswered 10 = .ok (.iload_n 2, 1) := by decide +kernel
theorem dX2_threadsAnswered_11 : decode cX2_threadsAnswered 11 = .ok (.aload_n 0, 1) := by decide +kernel
theorem dX2_threadsAnswered_12 : decode cX2_threadsAnswered 12 = .ok (.iload_n 3, 1) := by decide +kernel
theorem dX2_threadsAnswered_13 : decode cX2_threadsAnswered 13 = .ok (.invokevirtual 55, 3) := by decide +kernel
theorem dX2_threadsAnswered_16 : decode cX2_threadsAnswered 16 = .ok (.iload_n 1, 1) := by decide +kernel
theorem dX2_threadsAnswered_17 : decode cX2_threadsAnswered 17 = .ok (.invokestatic 70, 3) := by decide +kernel
theorem dX2_threadsAnswered_20 : decode cX2_threadsAnswered 20 = .ok (.iadd, 1) := by decide +kernel
theorem dX2_threadsAnswered_21 : decode cX2_threadsAnswered 21 = .ok (.istore_n 2, 1) := by decide +kernel
theorem dX2_threadsAnswered_22 : decode cX2_threadsAnswered 22 = .ok (.iinc 3 1, 3) := by decide +kernel
theorem dX2_threadsAnswered_25 : decode cX2_threadsAnswered 25 = .ok (.goto (-21), 3) := by decide +kernel
theorem dX2_threadsAnswered_28 : decode cX2_threadsAnswered 28 = .ok (.iload_n 2, 1) := by decide +kernel
theorem dX2_threadsAnswered_29 : decode cX2_threadsAnswered 29 = .ok (.ireturn, 1) := by decide +kernel
set_option maxRecDepth 20000 in
theorem ggX2_isWornOut_X2_threadsThrough : GoodIn wsX2_isWornOut wsX2_threadsThrough := goodIn_r _ [6, 7, 8, 9, 10, 20, 21, 22, 23, 24, 25, 26, 27] (by decide +kernel) (by decide +kernel)
set_option maxRecDepth 20000 in
theorem gX2_isWornOut_X2_threadsThrough : GoodIn wsX2_isWornOut (wsV RX2 67 RX2 yX2_threadsThrough wsX2_threadsThrough) := goodIn_app (goodIn_of _ (by decide +kernel)) ggX2_isWornOut_X2_threadsThrough
set_option maxRecDepth 20000 in
theorem ggX2_isWornOut_X2_strengthAt : GoodIn wsX2_isWornOut wsX2_strengthAt := goodIn_r _ [14, 15, 16, 17, 18, 19, 20, 21, 22, 23, 24, 25, 26, 27] (by decide +kernel) (by decide +kernel)
set_option maxRecDepth 20000 in
theorem gX2_isWornOut_X2_strengthAt : GoodIn wsX2_isWornOut (wsV RX2 102 RX2 yX2_strengthAt wsX2_strengthAt) := goodIn_app (goodIn_of _ (by decide +kernel)) ggX2_isWornOut_X2_strengthAt
theorem dX2_isWornOut_0 : decode cX2_isWornOut 0 = .ok (.aload_n 0, 1) := by decide +kernel
theorem dX2_isWornOut_1 : decode cX2_isWornOut 1 = .ok (.iload_n 1, 1) := by decide +kernel
theorem dX2_isWornOut_2 : decode cX2_isWornOut 2 = .ok (.invokevirtual 67, 3) := by decide +kernel
theorem dX2_isWornOut_5 : decode cX2_isWornOut 5 = .ok (.ifCond .eq 22, 3) := by decide +kernel
theorem dX2_isWornOut_8 : decode cX2_isWornOut 8 = .ok (.aload_n 0, 1) := by decide +kernel
theorem dX2_isWornOut_9 : decode cX2_isWornOut 9 = .ok (.iload_n 1, 1) := by decide +kernel
theorem dX2_isWornOut_10 : decode cX2_isWornOut 10 = .ok (.iconst 0, 1) := by decide +kernel
theorem dX2_isWornOut_11 : decode cX2_isWornOut 11 = .ok (.invokevirtual 102, 3) := by decide +kernel
theorem dX2_isWornOut_14 : decode cX2_isWornOut 14 = .ok (.aload_n 0, 1) := by decide +kernel
theorem dX2_isWornOut_15 : decode cX2_isWornOut 15 = .ok (.getfield 21, 3) := by decide +kernel
theorem dX2_isWornOut_18 : decode cX2_isWornOut 18 = .ok (.iconst 0, 1) := by decide +kernel
theorem dX2_isWornOut_19 : decode cX2_isWornOut 19 = .ok (.iaload, 1) := by decide +kernel
theorem dX2_isWornOut_20 : decode cX2_isWornOut 20 = .ok (.if_icmp .ge 7, 3) := by decide +kernel
theorem dX2_isWornOut_23 : decode cX2_isWornOut 23 = .ok (.iconst 1, 1) := by decide +kernel
theorem dX2_isWornOut_24 : decode cX2_isWornOut 24 = .ok (.goto 4, 3) := by decide +kernel
theorem dX2_isWornOut_27 : decode cX2_isWornOut 27 = .ok (.iconst 0, 1) := by decide +kernel
theorem dX2_isWornOut_28 : decode cX2_isWornOut 28 = .ok (.ireturn, 1) := by decide +kernel
set_option maxRecDepth 20000 in
theorem ggX2_threadsRight_X2_answering : GoodIn wsX2_threadsRight wsX2_answering := goodIn_r _ [6, 1, 7, 8, 9, 10, 11, 12, 13, 5, 14, 15, 16, 17, 18, 19, 20, 21, 22, 23, 24, 25, 26, 27, 28, 29, 30, 31, 32] (by decide +kernel) (by decide +kernel)
set_option maxRecDepth 20000 in
theorem gX2_threadsRight_X2_answering : GoodIn wsX2_threadsRight (wsV RX2 55 RX2 yX2_answering wsX2_answering) := goodIn_app (goodIn_of _ (by decide +kernel)) ggX2_threadsRight_X2_answering
theorem dX2_threadsRight_0 : decode cX2_threadsRight 0 = .ok (.iconst 0, 1) := by decide +kernel
theorem dX2_threadsRight_1 : decode cX2_threadsRight 1 = .ok (.istore_n 1, 1) := by decide +kernel
theorem dX2_threadsRight_2 : decode cX2_threadsRight 2 = .ok (.iconst 0, 1) := by decide +kernel
theorem dX2_threadsRight_3 : decode cX2_threadsRight 3 = .ok (.istore_n 2, 1) := by decide +kernel
theorem dX2_threadsRight_4 : decode cX2_threadsRight 4 = .ok (.iload_n 2, 1) := by decide +kernel
theorem dX2_threadsRight_5 : decode cX2_threadsRight 5 = .ok (.bipush 16, 2) := by decide +kernel
theorem dX2_threadsRight_7 : decode cX2_threadsRight 7 = .ok (.if_icmp .ge 26, 3) := by decide +kernel
theorem dX2_threadsRight_10 : decode cX2_threadsRight 10 = .ok (.aload_n 0, 1) := by decide +kernel
theorem dX2_threadsRight_11 : decode cX2_threadsRight 11 = .ok (.iload_n 2, 1) := by decide +kernel
theorem dX2_threadsRight_12 : decode cX2_threadsRight 12 = .ok (.invokevirtual 55, 3) := by decide +kernel
theorem dX2_threadsRight_15 : decode cX2_threadsRight 15 = .ok (.aload_n 0, 1) := by decide +kernel
theorem dX2_threadsRight_16 : decode cX2_threadsRight 16 = .ok (.getfield 9, 3) := by decide +kernel
theorem dX2_threadsRight_19 : decode cX2_threadsRight 19 = .ok (.iload_n 2, 1) := by decide +kernel
theorem dX2_threadsRight_20 : decode cX2_threadsRight 20 = .ok (.iaload, 1) := by decide +kernel
theorem dX2_threadsRight_21 : decode cX2_threadsRight 21 = .ok (.if_icmp .ne 6, 3) := by decide +kernel
theorem dX2_threadsRight_24 : decode cX2_threadsRight 24 = .ok (.iinc 1 1, 3) := by decide +kernel
theorem dX2_threadsRight_27 : decode cX2_threadsRight 27 = .ok (.iinc 2 1, 3) := by decide +kernel
theorem dX2_threadsRight_30 : decode cX2_threadsRight 30 = .ok (.goto (-26), 3) := by decide +kernel
theorem dX2_threadsRight_33 : decode cX2_threadsRight 33 = .ok (.iload_n 1, 1) := by decide +kernel
theorem dX2_threadsRight_34 : decode cX2_threadsRight 34 = .ok (.ireturn, 1) := by decide +kernel
set_option maxRecDepth 20000 in
theorem ggX2_crossingsByThreads_J6_bitCount_0f7a4 : GoodIn wsX2_crossingsByThreads wsJ6_bitCount_0f7a4 := goodIn_r _ [5, 6, 7, 8] (by decide +kernel) (by decide +kernel)
set_option maxRecDepth 20000 in
theorem gX2_crossingsByThreads_J6_bitCount_0f7a4 : GoodIn wsX2_crossingsByThreads (va_wsS RX2 62 yJ6_bitCount_0f7a4 wsJ6_bitCount_0f7a4) := goodIn_app (goodIn_of _ (by decide +kernel)) ggX2_crossingsByThreads_J6_bitCount_0f7a4
theorem dX2_crossingsByThreads_0 : decode cX2_crossingsByThreads 0 = .ok (.iconst 0, 1) := by decide +kernel
theorem dX2_crossingsByThreads_1 : decode cX2_crossingsByThreads 1 = .ok (.istore_n 1, 1) := by decide +kernel
theorem dX2_crossingsByThreads_2 : decode cX2_crossingsByThreads 2 = .ok (.iconst 0, 1) := by decide +kernel
theorem dX2_crossingsByThreads_3 : decode cX2_crossingsByThreads 3 = .ok (.istore_n 2, 1) := by decide +kernel
theorem dX2_crossingsByThreads_4 : decode cX2_crossingsByThreads 4 = .ok (.iload_n 2, 1) := by decide +kernel
theorem dX2_crossingsByThreads_5 : decode cX2_crossingsByThreads 5 = .ok (.bipush 16, 2) := by decide +kernel
theorem dX2_crossingsByThreads_7 : decode cX2_crossingsByThreads 7 = .ok (.if_icmp .ge 21, 3) := by decide +kernel
theorem dX2_crossingsByThreads_10 : decode cX2_crossingsByThreads 10 = .ok (.iload_n 1, 1) := by decide +kernel
theorem dX2_crossingsByThreads_11 : decode cX2_crossingsByThreads 11 = .ok (.aload_n 0, 1) := by decide +kernel
theorem dX2_crossingsByThreads_12 : decode cX2_crossingsByThreads 12 = .ok (.getfield 9, 3) := by decide +kernel
theorem dX2_crossingsByThreads_15 : decode cX2_crossingsByThreads 15 = .ok (.iload_n 2, 1) := by decide +kernel
theorem dX2_crossingsByThreads_16 : decode cX2_crossingsByThreads 16 = .ok (.iaload, 1) := by decide +kernel
theorem dX2_crossingsByThreads_17 : decode cX2_crossingsByThreads 17 = .ok (.invokestatic 62, 3) := by decide +kernel
theorem dX2_crossingsByThreads_20 : decode cX2_crossingsByThreads 20 = .ok (.iadd, 1) := by decide +kernel
theorem dX2_crossingsByThreads_21 : decode cX2_crossingsByThreads 21 = .ok (.istore_n 1, 1) := by decide +kernel
theorem dX2_crossingsByThreads_22 : decode cX2_crossingsByThreads 22 = .ok (.iinc 2 1, 3) := by decide +kernel
theorem dX2_crossingsByThreads_25 : decode cX2_crossingsByThreads 25 = .ok (.goto (-21), 3) := by decide +kernel
theorem dX2_crossingsByThreads_28 : decode cX2_crossingsByThreads 28 = .ok (.iload_n 1, 1) := by decide +kernel
theorem dX2_crossingsByThreads_29 : decode cX2_crossingsByThreads 29 = .ok (.ireturn, 1) := by decide +kernel
set_option maxRecDepth 20000 in
theorem ggX2_crossingsByRings_X2_threadsThrough : GoodIn wsX2_crossingsByRings wsX2_threadsThrough := goodIn_r _ [5, 6, 7, 8, 9, 17, 18, 19, 20, 21, 22, 23, 24] (by decide +kernel) (by decide +kernel)
set_option maxRecDepth 20000 in
theorem gX2_crossingsByRings_X2_threadsThrough : GoodIn wsX2_crossingsByRings (wsV RX2 67 RX2 yX2_threadsThrough wsX2_threadsThrough) := goodIn_app (goodIn_of _ (by decide +kernel)) ggX2_crossingsByRings_X2_threadsThrough
set_option maxRecDepth 20000 in
theorem ggX2_crossingsByRings_J6_bitCount_0f7a4 : GoodIn wsX2_crossingsByRings wsJ6_bitCount_0f7a4 := goodIn_r _ [13, 14, 15, 16] (by decide +kernel) (by decide +kernel)
set_option maxRecDepth 20000 in
theorem gX2_crossingsByRings_J6_bitCount_0f7a4 : GoodIn wsX2_crossingsByRings (va_wsS RX2 62 yJ6_bitCount_0f7a4 wsJ6_bitCount_0f7a4) := goodIn_app (goodIn_of _ (by decide +kernel)) ggX2_crossingsByRings_J6_bitCount_0f7a4
theorem dX2_crossingsByRings_0 : decode cX2_crossingsByRings 0 = .ok (.iconst 0, 1) := by decide +kernel
theorem dX2_crossingsByRings_1 : decode cX2_crossingsByRings 1 = .ok (.istore_n 1, 1) := by decide +kernel
theorem dX2_crossingsByRings_2 : decode cX2_crossingsByRings 2 = .ok (.iconst 0, 1) := by decide +kernel
theorem dX2_crossingsByRings_3 : decode cX2_crossingsByRings 3 = .ok (.istore_n 2, 1) := by decide +kernel
theorem dX2_crossingsByRings_4 : decode cX2_crossingsByRings 4 = .ok (.iload_n 2, 1) := by decide +kernel
theorem dX2_crossingsByRings_5 : decode cX2_crossingsByRings 5 = .ok (.bipush 8, 2) := by decide +kernel
theorem dX2_crossingsByRings_7 : decode cX2_crossingsByRings 7 = .ok (.if_icmp .ge 20, 3) := by decide +kernel
theorem dX2_crossingsByRings_10 : decode cX2_crossingsByRings 10 = .ok (.iload_n 1, 1) := by decide +kernel
theorem dX2_crossingsByRings_11 : decode cX2_crossingsByRings 11 = .ok (.aload_n 0, 1) := by decide +kernel
theorem dX2_crossingsByRings_12 : decode cX2_crossingsByRings 12 = .ok (.iload_n 2, 1) := by decide +kernel
theorem dX2_crossingsByRings_13 : decode cX2_crossingsByRings 13 = .ok (.invokevirtual 67, 3) := by decide +kernel
theorem dX2_crossingsByRings_16 : decode cX2_crossingsByRings 16 = .ok (.invokestatic 62, 3) := by decide +kernel
theorem dX2_crossingsByRings_19 : decode cX2_crossingsByRings 19 = .ok (.iadd, 1) := by decide +kernel
theorem dX2_crossingsByRings_20 : decode cX2_crossingsByRings 20 = .ok (.istore_n 1, 1) := by decide +kernel
theorem dX2_crossingsByRings_21 : decode cX2_crossingsByRings 21 = .ok (.iinc 2 1, 3) := by decide +kernel
theorem dX2_crossingsByRings_24 : decode cX2_crossingsByRings 24 = .ok (.goto (-20), 3) := by decide +kernel
theorem dX2_crossingsByRings_27 : decode cX2_crossingsByRings 27 = .ok (.iload_n 1, 1) := by decide +kernel
theorem dX2_crossingsByRings_28 : decode cX2_crossingsByRings 28 = .ok (.ireturn, 1) := by decide +kernel
theorem dX2_greatestWear_0 : decode cX2_greatestWear 0 = .ok (.iconst 0, 1) := by decide +kernel
theorem dX2_greatestWear_1 : decode cX2_greatestWear 1 = .ok (.istore_n 1, 1) := by decide +kernel
theorem dX2_greatestWear_2 : decode cX2_greatestWear 2 = .ok (.iconst 0, 1) := by decide +kernel
theorem dX2_greatestWear_3 : decode cX2_greatestWear 3 = .ok (.istore_n 2, 1) := by decide +kernel
theorem dX2_greatestWear_4 : decode cX2_greatestWear 4 = .ok (.iload_n 2, 1) := by decide +kernel
theorem dX2_greatestWear_5 : decode cX2_greatestWear 5 = .ok (.bipush 8, 2) := by decide +kernel
theorem dX2_greatestWear_7 : decode cX2_greatestWear 7 = .ok (.if_icmp .ge 20, 3) := by decide +kernel
theorem dX2_greatestWear_10 : decode cX2_greatestWear 10 = .ok (.iload_n 1, 1) := by decide +kernel
theorem dX2_greatestWear_11 : decode cX2_greatestWear 11 = .ok (.aload_n 0, 1) := by decide +kernel
theorem dX2_greatestWear_12 : decode cX2_greatestWear 12 = .ok (.getfield 18, 3) := by decide +kernel
theorem dX2_greatestWear_15 : decode cX2_greatestWear 15 = .ok (.iload_n 2, 1) := by decide +kernel
theorem dX2_greatestWear_16 : decode cX2_greatestWear 16 = .ok (.iaload, 1) := by decide +kernel
theorem dX2_greatestWear_17 : decode cX2_greatestWear 17 = .ok (.invokestatic 99, 3) := by decide +kernel
theorem dX2_greatestWear_20 : decode cX2_greatestWear 20 = .ok (.istore_n 1, 1) := by decide +kernel
theorem dX2_greatestWear_21 : decode cX2_greatestWear 21 = .ok (.iinc 2 1, 3) := by decide +kernel
theorem dX2_greatestWear_24 : decode cX2_greatestWear 24 = .ok (.goto (-20), 3) := by decide +kernel
theorem dX2_greatestWear_27 : decode cX2_greatestWear 27 = .ok (.iload_n 1, 1) := by decide +kernel
theorem dX2_greatestWear_28 : decode cX2_greatestWear 28 = .ok (.ireturn, 1) := by decide +kernel
set_option maxRecDepth 20000 in
theorem ggX2_fewestUnlikeBits_J6_bitCount_0f7a4 : GoodIn wsX2_fewestUnlikeBits wsJ6_bitCount_0f7a4 := goodIn_r _ [9, 10, 11, 12] (by decide +kernel) (by decide +kernel)
set_option maxRecDepth 20000 in
theorem gX2_fewestUnlikeBits_J6_bitCount_0f7a4 : GoodIn wsX2_fewestUnlikeBits (va_wsS RX2 62 yJ6_bitCount_0f7a4 wsJ6_bitCount_0f7a4) := goodIn_app (goodIn_of _ (by decide +kernel)) ggX2_fewestUnlikeBits_J6_bitCount_0f7a4
theorem dX2_fewestUnlikeBits_0 : decode cX2_fewestUnlikeBits 0 = .ok (.bipush 8, 2) := by decide +kernel
theorem dX2_fewestUnlikeBits_2 : decode cX2_fewestUnlikeBits 2 = .ok (.istore_n 1, 1) := by decide +kernel
theorem dX2_fewestUnlikeBits_3 : decode cX2_fewestUnlikeBits 3 = .ok (.iconst 0, 1) := by decide +kernel
theorem dX2_fewestUnlikeBits_4 : decode cX2_fewestUnlikeBits 4 = .ok (.istore_n 2, 1) := by decide +kernel
theorem dX2_fewestUnlikeBits_5 : decode cX2_fewestUnlikeBits 5 = .ok (.iload_n 2, 1) := by decide +kernel
theorem dX2_fewestUnlikeBits_6 : decode cX2_fewestUnlikeBits 6 = .ok (.bipush 16, 2) := by decide +kernel
theorem dX2_fewestUnlikeBits_8 : decode cX2_fewestUnlikeBits 8 = .ok (.if_icmp .ge 43, 3) := by decide +kernel
theorem dX2_fewestUnlikeBits_11 : decode cX2_fewestUnlikeBits 11 = .ok (.iconst 0, 1) := by decide +kernel
theorem dX2_fewestUnlikeBits_12 : decode cX2_fewestUnlikeBits 12 = .ok (.istore_n 3, 1) := by decide +kernel
theorem dX2_fewestUnlikeBits_13 : decode cX2_fewestUnlikeBits 13 = .ok (.iload_n 3, 1) := by decide +kernel
theorem dX2_fewestUnlikeBits_14 : decode cX2_fewestUnlikeBits 14 = .ok (.iload_n 2, 1) := by decide +kernel
theorem dX2_fewestUnlikeBits_15 : decode cX2_fewestUnlikeBits 15 = .ok (.if_icmp .ge 30, 3) := by decide +kernel
theorem dX2_fewestUnlikeBits_18 : decode cX2_fewestUnlikeBits 18 = .ok (.iload_n 1, 1) := by decide +kernel
theorem dX2_fewestUnlikeBits_19 : decode cX2_fewestUnlikeBits 19 = .ok (.aload_n 0, 1) := by decide +kernel
theorem dX2_fewestUnlikeBits_20 : decode cX2_fewestUnlikeBits 20 = .ok (.getfield 9, 3) := by decide +kernel
theorem dX2_fewestUnlikeBits_23 : decode cX2_fewestUnlikeBits 23 = .ok (.iload_n 2, 1) := by decide +kernel
theorem dX2_fewestUnlikeBits_24 : decode cX2_fewestUnlikeBits 24 = .ok (.iaload, 1) := by decide +kernel
theorem dX2_fewestUnlikeBits_25 : decode cX2_fewestUnlikeBits 25 = .ok (.aload_n 0, 1) := by decide +kernel
theorem dX2_fewestUnlikeBits_26 : decode cX2_fewestUnlikeBits 26 = .ok (.getfield 9, 3) := by decide +kernel
theorem dX2_fewestUnlikeBits_29 : decode cX2_fewestUnlikeBits 29 = .ok (.iload_n 3, 1) := by decide +kernel
theorem dX2_fewestUnlikeBits_30 : decode cX2_fewestUnlikeBits 30 = .ok (.iaload, 1) := by decide +kernel
theorem dX2_fewestUnlikeBits_31 : decode cX2_fewestUnlikeBits 31 = .ok (.ixor, 1) := by decide +kernel
theorem dX2_fewestUnlikeBits_32 : decode cX2_fewestUnlikeBits 32 = .ok (.invokestatic 62, 3) := by decide +kernel
theorem dX2_fewestUnlikeBits_35 : decode cX2_fewestUnlikeBits 35 = .ok (.invokestatic 74, 3) := by decide +kernel
theorem dX2_fewestUnlikeBits_38 : decode cX2_fewestUnlikeBits 38 = .ok (.istore_n 1, 1) := by decide +kernel
theorem dX2_fewestUnlikeBits_39 : decode cX2_fewestUnlikeBits 39 = .ok (.iinc 3 1, 3) := by decide +kernel
theorem dX2_fewestUnlikeBits_42 : decode cX2_fewestUnlikeBits 42 = .ok (.goto (-29), 3) := by decide +kernel
theorem dX2_fewestUnlikeBits_45 : decode cX2_fewestUnlikeBits 45 = .ok (.iinc 2 1, 3) := by decide +kernel
theorem dX2_fewestUnlikeBits_48 : decode cX2_fewestUnlikeBits 48 = .ok (.goto (-43), 3) := by decide +kernel
theorem dX2_fewestUnlikeBits_51 : decode cX2_fewestUnlikeBits 51 = .ok (.iload_n 1, 1) := by decide +kernel
theorem dX2_fewestUnlikeBits_52 : decode cX2_fewestUnlikeBits 52 = .ok (.ireturn, 1) := by decide +kernel
theorem dX3_init_0 : decode cX3_init 0 = .ok (.aload_n 0, 1) := by decide +kernel
theorem dX3_init_1 : decode cX3_init 1 = .ok (.invokespecial 3, 3) := by decide +kernel
theorem dX3_init_4 : decode cX3_init 4 = .ok (.aload_n 0, 1) := by decide +kernel
theorem dX3_init_5 : decode cX3_init 5 = .ok (.bipush 60, 2) := by decide +kernel
theorem dX3_init_7 : decode cX3_init 7 = .ok (.newarray .int, 2) := by decide +kernel
theorem dX3_init_9 : decode cX3_init 9 = .ok (.putfield 11, 3) := by decide +kernel
theorem dX3_init_12 : decode cX3_init 12 = .ok (.aload_n 0, 1) := by decide +kernel
theorem dX3_init_13 : decode cX3_init 13 = .ok (.bipush 16, 2) := by decide +kernel
theorem dX3_init_15 : decode cX3_init 15 = .ok (.newarray .int, 2) := by decide +kernel
theorem dX3_init_17 : decode cX3_init 17 = .ok (.putfield 15, 3) := by decide +kernel
theorem dX3_init_20 : decode cX3_init 20 = .ok (.return_, 1) := by decide +kernel
set_option maxRecDepth 20000 in
theorem ggX4_init_X2_init : GoodIn wsX4_init wsX2_init := goodIn_r _ [24, 25, 2, 3, 20, 26, 27, 28, 29, 30, 31, 32, 33, 34, 35, 36, 37, 38, 39, 40, 41, 42, 43, 44, 45, 46, 47, 48, 61, 62, 63, 64, 65, 66, 67, 68, 84, 85, 86, 87, 88, 89, 90] (by decide +kernel) (by decide +kernel)
set_option maxRecDepth 20000 in
theorem gX4_init_X2_init : GoodIn wsX4_init (wsX2_init) := ggX4_init_X2_init
set_option maxRecDepth 20000 in
theorem ggX4_init_X1_init : GoodIn wsX4_init wsX1_init := goodIn_r _ [51, 52, 2, 3, 53, 54, 5, 6, 55, 23, 24, 25, 20, 26, 27, 28, 29, 30, 31, 32, 33, 34, 35, 36, 37, 38, 39, 40, 41, 42, 43, 44, 45, 46, 47, 48, 76, 77, 78, 61, 62, 63, 64, 65, 66, 67, 68, 84, 85, 86, 87, 88, 89, 90] (by decide +kernel) (by decide +kernel)
set_option maxRecDepth 20000 in
theorem gX4_init_X1_init : GoodIn wsX4_init (wsX1_init) := ggX4_init_X1_init
set_option maxRecDepth 20000 in
theorem ggX4_init_X3_init : GoodIn wsX4_init wsX3_init := goodIn_r _ [57, 58, 2, 3, 20, 59, 60, 79, 80, 81, 82, 83] (by decide +kernel) (by decide +kernel)
set_option maxRecDepth 20000 in
theorem gX4_init_X3_init_n36 : GoodIn wsX4_init (wsX3_init) := ggX4_init_X3_init
theorem dX4_init_0 : decode cX4_init 0 = .ok (.aload_n 0, 1) := by decide +kernel
theorem dX4_init_1 : decode cX4_init 1 = .ok (.invokespecial 1, 3) := by decide +kernel
theorem dX4_init_4 : decode cX4_init 4 = .ok (.aload_n 0, 1) := by decide +kernel
theorem dX4_init_5 : decode cX4_init 5 = .ok (.new 7, 3) := by decide +kernel
theorem dX4_init_8 : decode cX4_init 8 = .ok (.dup, 1) := by decide +kernel
theorem dX4_init_9 : decode cX4_init 9 = .ok (.invokespecial 9, 3) := by decide +kernel
theorem dX4_init_12 : decode cX4_init 12 = .ok (.putfield 10, 3) := by decide +kernel
theorem dX4_init_15 : decode cX4_init 15 = .ok (.aload_n 0, 1) := by decide +kernel
theorem dX4_init_16 : decode cX4_init 16 = .ok (.new 7, 3) := by decide +kernel
theorem dX4_init_19 : decode cX4_init 19 = .ok (.dup, 1) := by decide +kernel
theorem dX4_init_20 : decode cX4_init 20 = .ok (.invokespecial 9, 3) := by decide +kernel
theorem dX4_init_23 : decode cX4_init 23 = .ok (.putfield 16, 3) := by decide +kernel
theorem dX4_init_26 : decode cX4_init 26 = .ok (.aload_n 0, 1) := by decide +kernel
theorem dX4_init_27 : decode cX4_init 27 = .ok (.new 19, 3) := by decide +kernel
theorem dX4_init_30 : decode cX4_init 30 = .ok (.dup, 1) := by decide +kernel
theorem dX4_init_31 : decode cX4_init 31 = .ok (.invokespecial 21, 3) := by decide +kernel
theorem dX4_init_34 : decode cX4_init 34 = .ok (.putfield 22, 3) := by decide +kernel
theorem dX4_init_37 : decode cX4_init 37 = .ok (.aload_n 0, 1) := by decide +kernel
theorem dX4_init_38 : decode cX4_init 38 = .ok (.iconst 2, 1) := by decide +kernel
theorem dX4_init_39 : decode cX4_init 39 = .ok (.anewarray 7, 3) := by decide +kernel
theorem dX4_init_42 : decode cX4_init 42 = .ok (.putfield 26, 3) := by decide +kernel
theorem dX4_init_45 : decode cX4_init 45 = .ok (.aload_n 0, 1) := by decide +kernel
theorem dX4_init_46 : decode cX4_init 46 = .ok (.iconst 2, 1) := by decide +kernel
theorem dX4_init_47 : decode cX4_init 47 = .ok (.newarray .boolean, 2) := by decide +kernel
