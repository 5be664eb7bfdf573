theorem dX2_answering_86 : decode cX2_answering 86 = .ok (.aload_n 0, 1) := by decide +kernel
theorem dX2_answering_87 : decode cX2_answering 87 = .ok (.iload_n 1, 1) := by decide +kernel
theorem dX2_answering_88 : decode cX2_answering 88 = .ok (.iload 4, 2) := by decide +kernel
theorem dX2_answering_90 : decode cX2_answering 90 = .ok (.invokevirtual 96, 3) := by decide +kernel
theorem dX2_answering_93 : decode cX2_answering 93 = .ok (.istore 4, 2) := by decide +kernel
theorem dX2_answering_95 : decode cX2_answering 95 = .ok (.iinc 5 1, 3) := by decide +kernel
theorem dX2_answering_98 : decode cX2_answering 98 = .ok (.goto (-83), 3) := by decide +kernel
theorem dX2_answering_101 : decode cX2_answering 101 = .ok (.iload_n 2, 1) := by decide +kernel
theorem dX2_answering_102 : decode cX2_answering 102 = .ok (.ireturn, 1) := by decide +kernel
set_option maxRecDepth 20000 in
theorem ggX2_readingsUntilChange_X4_bit : GoodIn wsX2_readingsUntilChange wsX4_bit := goodIn_r _ [6] (by decide +kernel) (by decide +kernel)
set_option maxRecDepth 20000 in
theorem gX2_readingsUntilChange_X4_bit_n70 : GoodIn wsX2_readingsUntilChange (wsX4_bit) := ggX2_readingsUntilChange_X4_bit
theorem dX2_readingsUntilChange_0 : decode cX2_readingsUntilChange 0 = .ok (.bipush 10, 2) := by decide +kernel
theorem dX2_readingsUntilChange_2 : decode cX2_readingsUntilChange 2 = .ok (.bipush 8, 2) := by decide +kernel
theorem dX2_readingsUntilChange_4 : decode cX2_readingsUntilChange 4 = .ok (.aload_n 0, 1) := by decide +kernel
theorem dX2_readingsUntilChange_5 : decode cX2_readingsUntilChange 5 = .ok (.getfield 21, 3) := by decide +kernel
theorem dX2_readingsUntilChange_8 : decode cX2_readingsUntilChange 8 = .ok (.iconst 0, 1) := by decide +kernel
theorem dX2_readingsUntilChange_9 : decode cX2_readingsUntilChange 9 = .ok (.iaload, 1) := by decide +kernel
theorem dX2_readingsUntilChange_10 : decode cX2_readingsUntilChange 10 = .ok (.isub, 1) := by decide +kernel
theorem dX2_readingsUntilChange_11 : decode cX2_readingsUntilChange 11 = .ok (.iconst 1, 1) := by decide +kernel
theorem dX2_readingsUntilChange_12 : decode cX2_readingsUntilChange 12 = .ok (.iadd, 1) := by decide +kernel
theorem dX2_readingsUntilChange_13 : decode cX2_readingsUntilChange 13 = .ok (.imul, 1) := by decide +kernel
theorem dX2_readingsUntilChange_14 : decode cX2_readingsUntilChange 14 = .ok (.istore_n 2, 1) := by decide +kernel
theorem dX2_readingsUntilChange_15 : decode cX2_readingsUntilChange 15 = .ok (.iconst (-1), 1) := by decide +kernel
theorem dX2_readingsUntilChange_16 : decode cX2_readingsUntilChange 16 = .ok (.istore_n 3, 1) := by decide +kernel
theorem dX2_readingsUntilChange_17 : decode cX2_readingsUntilChange 17 = .ok (.iconst 0, 1) := by decide +kernel
theorem dX2_readingsUntilChange_18 : decode cX2_readingsUntilChange 18 = .ok (.istore 4, 2) := by decide +kernel
theorem dX2_readingsUntilChange_20 : decode cX2_readingsUntilChange 20 = .ok (.iload 4, 2) := by decide +kernel
theorem dX2_readingsUntilChange_22 : decode cX2_readingsUntilChange 22 = .ok (.bipush 8, 2) := by decide +kernel
theorem dX2_readingsUntilChange_24 : decode cX2_readingsUntilChange 24 = .ok (.if_icmp .ge 54, 3) := by decide +kernel
theorem dX2_readingsUntilChange_27 : decode cX2_readingsUntilChange 27 = .ok (.iload_n 2, 1) := by decide +kernel
theorem dX2_readingsUntilChange_28 : decode cX2_readingsUntilChange 28 = .ok (.aload_n 0, 1) := by decide +kernel
theorem dX2_readingsUntilChange_29 : decode cX2_readingsUntilChange 29 = .ok (.getfield 18, 3) := by decide +kernel
theorem dX2_readingsUntilChange_32 : decode cX2_readingsUntilChange 32 = .ok (.iload 4, 2) := by decide +kernel
theorem dX2_readingsUntilChange_34 : decode cX2_readingsUntilChange 34 = .ok (.iaload, 1) := by decide +kernel
theorem dX2_readingsUntilChange_35 : decode cX2_readingsUntilChange 35 = .ok (.isub, 1) := by decide +kernel
theorem dX2_readingsUntilChange_36 : decode cX2_readingsUntilChange 36 = .ok (.istore 5, 2) := by decide +kernel
theorem dX2_readingsUntilChange_38 : decode cX2_readingsUntilChange 38 = .ok (.aload_n 0, 1) := by decide +kernel
theorem dX2_readingsUntilChange_39 : decode cX2_readingsUntilChange 39 = .ok (.getfield 9, 3) := by decide +kernel
theorem dX2_readingsUntilChange_42 : decode cX2_readingsUntilChange 42 = .ok (.iload_n 1, 1) := by decide +kernel
theorem dX2_readingsUntilChange_43 : decode cX2_readingsUntilChange 43 = .ok (.iaload, 1) := by decide +kernel
theorem dX2_readingsUntilChange_44 : decode cX2_readingsUntilChange 44 = .ok (.iload 4, 2) := by decide +kernel
theorem dX2_readingsUntilChange_46 : decode cX2_readingsUntilChange 46 = .ok (.invokestatic 70, 3) := by decide +kernel
theorem dX2_readingsUntilChange_49 : decode cX2_readingsUntilChange 49 = .ok (.iconst 1, 1) := by decide +kernel
theorem dX2_readingsUntilChange_50 : decode cX2_readingsUntilChange 50 = .ok (.if_icmp .ne 22, 3) := by decide +kernel
theorem dX2_readingsUntilChange_53 : decode cX2_readingsUntilChange 53 = .ok (.iload 5, 2) := by decide +kernel
theorem dX2_readingsUntilChange_55 : decode cX2_readingsUntilChange 55 = .ok (.ifCond .le 17, 3) := by decide +kernel
theorem dX2_readingsUntilChange_58 : decode cX2_readingsUntilChange 58 = .ok (.iload_n 3, 1) := by decide +kernel
theorem dX2_readingsUntilChange_59 : decode cX2_readingsUntilChange 59 = .ok (.iconst (-1), 1) := by decide +kernel
theorem dX2_readingsUntilChange_60 : decode cX2_readingsUntilChange 60 = .ok (.if_icmp .eq 9, 3) := by decide +kernel
theorem dX2_readingsUntilChange_63 : decode cX2_readingsUntilChange 63 = .ok (.iload 5, 2) := by decide +kernel
theorem dX2_readingsUntilChange_65 : decode cX2_readingsUntilChange 65 = .ok (.iload_n 3, 1) := by decide +kernel
theorem dX2_readingsUntilChange_66 : decode cX2_readingsUntilChange 66 = .ok (.if_icmp .ge 6, 3) := by decide +kernel
theorem dX2_readingsUntilChange_69 : decode cX2_readingsUntilChange 69 = .ok (.iload 5, 2) := by decide +kernel
theorem dX2_readingsUntilChange_71 : decode cX2_readingsUntilChange 71 = .ok (.istore_n 3, 1) := by decide +kernel
theorem dX2_readingsUntilChange_72 : decode cX2_readingsUntilChange 72 = .ok (.iinc 4 1, 3) := by decide +kernel
theorem dX2_readingsUntilChange_75 : decode cX2_readingsUntilChange 75 = .ok (.goto (-55), 3) := by decide +kernel
theorem dX2_readingsUntilChange_78 : decode cX2_readingsUntilChange 78 = .ok (.iload_n 3, 1) := by decide +kernel
theorem dX2_readingsUntilChange_79 : decode cX2_readingsUntilChange 79 = .ok (.ireturn, 1) := by decide +kernel
set_option maxRecDepth 20000 in
theorem ggX2_threadsThrough_X4_bit : GoodIn wsX2_threadsThrough wsX4_bit := goodIn_r _ [4] (by decide +kernel) (by decide +kernel)
set_option maxRecDepth 20000 in
theorem gX2_threadsThrough_X4_bit_n70 : GoodIn wsX2_threadsThrough (wsX4_bit) := ggX2_threadsThrough_X4_bit
theorem dX2_threadsThrough_0 : decode cX2_threadsThrough 0 = .ok (.iconst 0, 1) := by decide +kernel
theorem dX2_threadsThrough_1 : decode cX2_threadsThrough 1 = .ok (.istore_n 2, 1) := by decide +kernel
theorem dX2_threadsThrough_2 : decode cX2_threadsThrough 2 = .ok (.iconst 0, 1) := by decide +kernel
theorem dX2_threadsThrough_3 : decode cX2_threadsThrough 3 = .ok (.istore_n 3, 1) := by decide +kernel
theorem dX2_threadsThrough_4 : decode cX2_threadsThrough 4 = .ok (.iload_n 3, 1) := by decide +kernel
theorem dX2_threadsThrough_5 : decode cX2_threadsThrough 5 = .ok (.bipush 16, 2) := by decide +kernel
theorem dX2_threadsThrough_7 : decode cX2_threadsThrough 7 = .ok (.if_icmp .ge 24, 3) := by decide +kernel
theorem dX2_threadsThrough_10 : decode cX2_threadsThrough 10 = .ok (.iload_n 2, 1) := by decide +kernel
theorem dX2_threadsThrough_11 : decode cX2_threadsThrough 11 = .ok (.aload_n 0, 1) := by decide +kernel
theorem dX2_threadsThrough_12 : decode cX2_threadsThrough 12 = .ok (.getfield 9, 3) := by decide +kernel
theorem dX2_threadsThrough_15 : decode cX2_threadsThrough 15 = .ok (.iload_n 3, 1) := by decide +kernel
theorem dX2_threadsThrough_16 : decode cX2_threadsThrough 16 = .ok (.iaload, 1) := by decide +kernel
theorem dX2_threadsThrough_17 : decode cX2_threadsThrough 17 = .ok (.iload_n 1, 1) := by decide +kernel
theorem dX2_threadsThrough_18 : decode cX2_threadsThrough 18 = .ok (.invokestatic 70, 3) := by decide +kernel
theorem dX2_threadsThrough_21 : decode cX2_threadsThrough 21 = .ok (.iload_n 3, 1) := by decide +kernel
theorem dX2_threadsThrough_22 : decode cX2_threadsThrough 22 = .ok (.ishl, 1) := by decide +kernel
theorem dX2_threadsThrough_23 : decode cX2_threadsThrough 23 = .ok (.ior, 1) := by decide +kernel
theorem dX2_threadsThrough_24 : decode cX2_threadsThrough 24 = .ok (.istore_n 2, 1) := by decide +kernel
theorem dX2_threadsThrough_25 : decode cX2_threadsThrough 25 = .ok (.iinc 3 1, 3) := by decide +kernel
theorem dX2_threadsThrough_28 : decode cX2_threadsThrough 28 = .ok (.goto (-24), 3) := by decide +kernel
theorem dX2_threadsThrough_31 : decode cX2_threadsThrough 31 = .ok (.iload_n 2, 1) := by decide +kernel
theorem dX2_threadsThrough_32 : decode cX2_threadsThrough 32 = .ok (.ireturn, 1) := by decide +kernel
set_option maxRecDepth 20000 in
theorem ggX2_threadsAnswered_X2_answering : GoodIn wsX2_threadsAnswered wsX2_answering := goodIn_r _ [5, 6, 7, 8, 9, 10, 11, 12, 13, 4, 14, 15, 16, 17, 18, 19, 20, 21, 22, 23, 24, 25, 26, 27, 28, 29, 30, 31, 32] (by decide +kernel) (by decide +kernel)
set_option maxRecDepth 20000 in
theorem gX2_threadsAnswered_X2_answering : GoodIn wsX2_threadsAnswered (wsV RX2 55 RX2 yX2_answering wsX2_answering) := goodIn_app (goodIn_of _ (by decide +kernel)) ggX2_threadsAnswered_X2_answering
set_option maxRecDepth 20000 in
theorem ggX2_threadsAnswered_X4_bit : GoodIn wsX2_threadsAnswered wsX4_bit := goodIn_r _ [10] (by decide +kernel) (by decide +kernel)
set_option maxRecDepth 20000 in
theorem gX2_threadsAnswered_X4_bit_n70 : GoodIn wsX2_threadsAnswered (wsX4_bit) := ggX2_threadsAnswered_X4_bit
theorem dX2_threadsAnswered_0 : decode cX2_threadsAnswered 0 = .ok (.iconst 0, 1) := by decide +kernel
theorem dX2_threadsAnswered_1 : decode cX2_threadsAnswered 1 = .ok (.istore_n 2, 1) := by decide +kernel
theorem dX2_threadsAnswered_2 : decode cX2_threadsAnswered 2 = .ok (.iconst 0, 1) := by decide +kernel
theorem dX2_threadsAnswered_3 : decode cX2_threadsAnswered 3 = .ok (.istore_n 3, 1) := by decide +kernel
theorem dX2_threadsAnswered_4 : decode cX2_threadsAnswered 4 = .ok (.iload_n 3, 1) := by decide +kernel
theorem dX2_threadsAnswered_5 : decode cX2_threadsAnswered 5 = .ok (.bipush 16, 2) := by decide +kernel
theorem dX2_threadsAnswered_7 : decode cX2_threadsAnswered 7 = .ok (.if_icmp .ge 21, 3) := by decide +kernel
theorem dX2_threadsAnswered_10 : decode cX2_threadsAnswered 10 = .ok (.iload_n 2, 1) := by decide +kernel
theorem dX2_threadsAnswered_11 : decode cX2_threadsAnswered 11 = .ok (.aload_n 0, 1) := by decide +kernel
theorem dX2_threadsAnswered_12 : decode cX2_threadsAnswered 12 = .ok (.iload_n 3, 1) := by decide +kernel
theorem dX2_threadsAnswered_13 : decode cX2_threadsAnswered 13 = .ok (.invokevirtual 55, 3) := by decide +kernel
theorem dX2_threadsAnswered_16 : decode cX2_threadsAnswered 16 = .ok (.iload_n 1, 1) := by decide +kernel
theorem dX2_threadsAnswered_17 : decode cX2_threadsAnswered 17 = .ok (.invokestatic 70, 3) := by decide +kernel
theorem dX2_threadsAnswered_20 : decode cX2_threadsAnswered 20 = .ok (.iadd, 1) := by decide +kernel
theorem dX2_threadsAnswered_21 : decode cX2_threadsAnswered 21 = .ok (.istore_n 2, 1) := by decide +kernel
theorem dX2_threadsAnswered_22 : decode cX2_threadsAnswered 22 = .ok (.iinc 3 1, 3) := by decide +kernel
theorem dX2_threadsAnswered_25 : decode cX2_threadsAnswered 25 = .ok (.goto (-21), 3) := by decide +kernel
theorem dX2_threadsAnswered_28 : decode cX2_threadsAnswered 28 = .ok (.iload_n 2, 1) := by decide +kernel
theorem dX2_threadsAnswered_29 : decode cX2_threadsAnswered 29 = .ok (.ireturn, 1) := by decide +kernel
set_option maxRecDepth 20000 in
theorem ggX2_isWornOut_X2_threadsThrough : GoodIn wsX2_isWornOut wsX2_threadsThrough := goodIn_r _ [6, 7, 8, 9, 10, 20, 21, 22, 23, 24, 25, 26, 27] (by decide +kernel) (by decide +kernel)
set_option maxRecDepth 20000 in
theorem gX2_isWornOut_X2_threadsThrough : GoodIn wsX2_isWornOut (wsV RX2 67 RX2 yX2_threadsThrough wsX2_threadsThrough) := goodIn_app (goodIn_of _ (by decide +kernel)) ggX2_isWornOut_X2_threadsThrough
set_option maxRecDepth 20000 in
theorem ggX2_isWornOut_X2_strengthAt : GoodIn wsX2_isWornOut wsX2_strengthAt := goodIn_r _ [14, 15, 16, 17, 18, 19, 20, 21, 22, 23, 24, 25, 26, 27] (by decide +kernel) (by decide +kernel)
set_option maxRecDepth 20000 in
theorem gX2_isWornOut_X2_strengthAt : GoodIn wsX2_isWornOut (wsV RX2 102 RX2 yX2_strengthAt wsX2_strengthAt) := goodIn_app (goodIn_of _ (by decide +kernel)) ggX2_isWornOut_X2_strengthAt
theorem dX2_isWornOut_0 : decode cX2_isWornOut 0 = .ok (.aload_n 0, 1) := by decide +kernel
theorem dX2_isWornOut_1 : decode cX2_isWornOut 1 = .ok (.iload_n 1, 1) := by decide +kernel
theorem dX2_isWornOut_2 : decode cX2_isWornOut 2 = .ok (.invokevirtual 67, 3) := by decide +kernel
theorem dX2_isWornOut_5 : decode cX2_isWornOut 5 = .ok (.ifCond .eq 22, 3) := by decide +kernel
theorem dX2_isWornOut_8 : decode cX2_isWornOut 8 = .ok (.aload_n 0, 1) := by decide +kernel
theorem dX2_isWornOut_9 : decode cX2_isWornOut 9 = .ok (.iload_n 1, 1) := by decide +kernel
theorem dX2_isWornOut_10 : decode cX2_isWornOut 10 = .ok (.iconst 0, 1) := by decide +kernel
theorem dX2_isWornOut_11 : decode cX2_isWornOut 11 = .ok (.invokevirtual 102, 3) := by decide +kernel
theorem dX2_isWornOut_14 : decode cX2_isWornOut 14 = .ok (.aload_n 0, 1) := by decide +kernel
theorem dX2_isWornOut_15 : decode cX2_isWornOut 15 = .ok (.getfield 21, 3) := by decide +kernel
theorem dX2_isWornOut_18 : decode cX2_isWornOut 18 = .ok (.iconst 0, 1) := by decide +kernel
theorem dX2_isWornOut_19 : decode cX2_isWornOut 19 = .ok (.iaload, 1) := by decide +kernel
theorem dX2_isWornOut_20 : decode cX2_isWornOut 20 = .ok (.if_icmp .ge 7, 3) := by decide +kernel
theorem dX2_isWornOut_23 : decode cX2_isWornOut 23 = .ok (.iconst 1, 1) := by decide +kernel
theorem dX2_isWornOut_24 : decode cX2_isWornOut 24 = .ok (.goto 4, 3) := by decide +kernel
theorem dX2_isWornOut_27 : decode cX2_isWornOut 27 = .ok (.iconst 0, 1) := by decide +kernel
theorem dX2_isWornOut_28 : decode cX2_isWornOut 28 = .ok (.ireturn, 1) := by decide +kernel
set_option maxRecDepth 20000 in
theorem ggX2_threadsRight_X2_answering : GoodIn wsX2_threadsRight wsX2_answering := goodIn_r _ [6, 1, 7, 8, 9, 10, 11, 12, 13, 5, 14, 15, 16, 17, 18, 19, 20, 21, 22, 23, 24, 25, 26, 27, 28, 29, 30, 31, 32] (by decide +kernel) (by decide +kernel)
set_option maxRecDepth 20000 in
theorem gX2_threadsRight_X2_answering : GoodIn wsX2_threadsRight (wsV RX2 55 RX2 yX2_answering wsX2_answering) := goodIn_app (goodIn_of _ (by decide +kernel)) ggX2_threadsRight_X2_answering
theorem dX2_threadsRight_0 : decode cX2_threadsRight 0 = .ok (.iconst 0, 1) := by decide +kernel
theorem dX2_threadsRight_1 : decode cX2_threadsRight 1 = .ok (.istore_n 1, 1) := by decide +kernel
theorem dX2_threadsRight_2 : decode cX2_threadsRight 2 = .ok (.iconst 0, 1) := by decide +kernel
theorem dX2_threadsRight_3 : decode cX2_threadsRight 3 = .ok (.istore_n 2, 1) := by decide +kernel
theorem dX2_threadsRight_4 : decode cX2_threadsRight 4 = .ok (.iload_n 2, 1) := by decide +kernel
theorem dX2_threadsRight_5 : decode cX2_threadsRight 5 = .ok (.bipush 16, 2) := by decide +kernel
theorem dX2_threadsRight_7 : decode cX2_threadsRight 7 = .ok (.if_icmp .ge 26, 3) := by decide +kernel
theorem dX2_threadsRight_10 : decode cX2_threadsRight 10 = .ok (.aload_n 0, 1) := by decide +kernel
theorem dX2_threadsRight_11 : decode cX2_threadsRight 11 = .ok (.iload_n 2, 1) := by decide +kernel
theorem dX2_threadsRight_12 : decode cX2_threadsRight 12 = .ok (.invokevirtual 55, 3) := by decide +kernel
theorem dX2_threadsRight_15 : decode cX2_threadsRight 15 = .ok (.aload_n 0, 1) := by decide +kernel
theorem dX2_threadsRight_16 : decode cX2_threadsRight 16 = .ok (.getfield 9, 3) := by decide +kernel
theorem dX2_threadsRight_19 : decode cX2_threadsRight 19 = .ok (.iload_n 2, 1) := by decide +kernel
theorem dX2_threadsRight_20 : decode cX2_threadsRight 20 = .ok (.iaload, 1) := by decide +kernel
theorem dX2_threadsRight_21 : decode cX2_threadsRight 21 = .ok (.if_icmp .ne 6, 3) := by decide +kernel
theorem dX2_threadsRight_24 : decode cX2_threadsRight 24 = .ok (.iinc 1 1, 3) := by decide +kernel
theorem dX2_threadsRight_27 : decode cX2_threadsRight 27 = .ok (.iinc 2 1, 3) := by decide +kernel
theorem dX2_threadsRight_30 : decode cX2_threadsRight 30 = .ok (.goto (-26), 3) := by decide +kernel
theorem dX2_threadsRight_33 : decode cX2_threadsRight 33 = .ok (.iload_n 1, 1) := by decide +kernel
theorem dX2_threadsRight_34 : decode cX2_threadsRight 34 = .ok (.ireturn, 1) := by decide +kernel
set_option maxRecDepth 20000 in
theorem ggX2_crossingsByThreads_J6_bitCount_0f7a4 : GoodIn wsX2_crossingsByThreads wsJ6_bitCount_0f7a4 := goodIn_r _ [5, 6, 7, 8] (by decide +kernel) (by decide +kernel)
set_option maxRecDepth 20000 in
theorem gX2_crossingsByThreads_J6_bitCount_0f7a4 : GoodIn wsX2_crossingsByThreads (va_wsS RX2 62 yJ6_bitCount_0f7a4 wsJ6_bitCount_0f7a4) := goodIn_app (goodIn_of _ (by decide +kernel)) ggX2_crossingsByThreads_J6_bitCount_0f7a4
theorem dX2_crossingsByThreads_0 : decode cX2_crossingsByThreads 0 = .ok (.iconst 0, 1) := by decide +kernel
theorem dX2_crossingsByThreads_1 : decode cX2_crossingsByThreads 1 = .ok (.istore_n 1, 1) := by decide +kernel
theorem dX2_crossingsByThreads_2 : decode cX2_crossingsByThreads 2 = .ok (.iconst 0, 1) := by decide +kernel
theorem dX2_crossingsByThreads_3 : decode cX2_crossingsByThreads 3 = .ok (.istore_n 2, 1) := by decide +kernel
theorem dX2_crossingsByThreads_4 : decode cX2_crossingsByThreads 4 = .ok (.iload_n 2, 1) := by decide +kernel
theorem dX2_crossingsByThreads_5 : decode cX2_crossingsByThreads 5 = .ok (.bipush 16, 2) := by decide +kernel
theorem dX2_crossingsByThreads_7 : decode cX2_crossingsByThreads 7 = .ok (.if_icmp .ge 21, 3) := by decide +kernel
theorem dX2_crossingsByThreads_10 : decode cX2_crossingsByThreads 10 = .ok (.iload_n 1, 1) := by decide +kernel
theorem dX2_crossingsByThreads_11 : decode cX2_crossingsByThreads 11 = .ok (.aload_n 0, 1) := by decide +kernel
theorem dX2_crossingsByThreads_12 : decode cX2_crossingsByThreads 12 = .ok (.getfield 9, 3) := by decide +kernel
theorem dX2_crossingsByThreads_15 : decode cX2_crossingsByThreads 15 = .ok (.iload_n 2, 1) := by decide +kernel
theorem dX2_crossingsByThreads_16 : decode cX2_crossingsByThreads 16 = .ok (.iaload, 1) := by decide +kernel
theorem dX2_crossingsByThreads_17 : decode cX2_crossingsByThreads 17 = .ok (.invokestatic 62, 3) := by decide +kernel
theorem dX2_crossingsByThreads_20 : decode cX2_crossingsByThreads 20 = .ok (.iadd, 1) := by decide +kernel
theorem dX2_crossingsByThreads_21 : decode cX2_crossingsByThreads 21 = .ok (.istore_n 1, 1) := by decide +kernel
theorem dX2_crossingsByThreads_22 : decode cX2_crossingsByThreads 22 = .ok (.iinc 2 1, 3) := by decide +kernel
theorem dX2_crossingsByThreads_25 : decode cX2_crossingsByThreads 25 = .ok (.goto (-21), 3) := by decide +kernel
theorem dX2_crossingsByThreads_28 : decode cX2_crossingsByThreads 28 = .ok (.iload_n 1, 1) := by decide +kernel
theorem dX2_crossingsByThreads_29 : decode cX2_crossingsByThreads 29 = .ok (.ireturn, 1) := by decide +kernel
set_option maxRecDepth 20000 in
theorem ggX2_crossingsByRings_X2_threadsThrough : GoodIn wsX2_crossingsByRings wsX2_threadsThrough := goodIn_r _ [5, 6, 7, 8, 9, 17, 18, 19, 20, 21, 22, 23, 24] (by decide +kernel) (by decide +kernel)
set_option maxRecDepth 20000 in
theorem gX2_crossingsByRings_X2_threadsThrough : GoodIn wsX2_crossingsByRings (wsV RX2 67 RX2 yX2_threadsThrough wsX2_threadsThrough) := goodIn_app (goodIn_of _ (by decide +kernel)) ggX2_crossingsByRings_X2_threadsThrough
set_option maxRecDepth 20000 in
theorem ggX2_crossingsByRings_J6_bitCount_0f7a4 : GoodIn wsX2_crossingsByRings wsJ6_bitCount_0f7a4 := goodIn_r _ [13, 14, 15, 16] (by decide +kernel) (by decide +kernel)
set_option maxRecDepth 20000 in
theorem gX2_crossingsByRings_J6_bitCount_0f7a4 : GoodIn wsX2_crossingsByRings (va_wsS RX2 62 yJ6_bitCount_0f7a4 wsJ6_bitCount_0f7a4) := goodIn_app (goodIn_of _ (by decide +kernel)) ggX2_crossingsByRings_J6_bitCount_0f7a4
theorem dX2_crossingsByRings_0 : decode cX2_crossingsByRings 0 = .ok (.iconst 0, 1) := by decide +kernel
theorem dX2_crossingsByRings_1 : decode cX2_crossingsByRings 1 = .ok (.istore_n 1, 1) := by decide +kernel
theorem dX2_crossingsByRings_2 : decode cX2_crossingsByRings 2 = .ok (.iconst 0, 1) := by decide +kernel
theorem dX2_crossingsByRings_3 : decode cX2_crossingsByRings 3 = .ok (.istore_n 2, 1) := by decide +kernel
theorem dX2_crossingsByRings_4 : decode cX2_crossingsByRings 4 = .ok (.iload_n 2, 1) := by decide +kernel
theorem dX2_crossingsByRings_5 : decode cX2_crossingsByRings 5 = .ok (.bipush 8, 2) := by decide +kernel
theorem dX2_crossingsByRings_7 : decode cX2_crossingsByRings 7 = .ok (.if_icmp .ge 20, 3) := by decide +kernel
theorem dX2_crossingsByRings_10 : decode cX2_crossingsByRings 10 = .ok (.iload_n 1, 1) := by decide +kernel
theorem dX2_crossingsByRings_11 : decode cX2_crossingsByRings 11 = .ok (.aload_n 0, 1) := by decide +kernel
theorem dX2_crossingsByRings_12 : decode cX2_crossingsByRings 12 = .ok (.iload_n 2, 1) := by decide +kernel
theorem dX2_crossingsByRings_13 : decode cX2_crossingsByRings 13 = .ok (.invokevirtual 67, 3) := by decide +kernel
theorem dX2_crossingsByRings_16 : decode cX2_crossingsByRings 16 = .ok (.invokestatic 62, 3) := by decide +kernel
theorem dX2_crossingsByRings_19 : decode cX2_crossingsByRings 19 = .ok (.iadd, 1) := by decide +kernel
theorem dX2_crossingsByRings_20 : decode cX2_crossingsByRings 20 = .ok (.istore_n 1, 1) := by decide +kernel
theorem dX2_crossingsByRings_21 : decode cX2_crossingsByRings 21 = .ok (.iinc 2 1, 3) := by decide +kernel
theorem dX2_crossingsByRings_24 : decode cX2_crossingsByRings 24 = .ok (.goto (-20), 3) := by decide +kernel
theorem dX2_crossingsByRings_27 : decode cX2_crossingsByRings 27 = .ok (.iload_n 1, 1) := by decide +kernel
theorem dX2_crossingsByRings_28 : decode cX2_crossingsByRings 28 = .ok (.ireturn, 1) := by decide +kernel
theorem dX2_greatestWear_0 : decode cX2_greatestWear 0 = .ok (.iconst 0, 1) := by decide +kernel
theorem dX2_greatestWear_1 : decode cX2_greatestWear 1 = .ok (.istore_n 1, 1) := by decide +kernel
theorem dX2_greatestWear_2 : decode cX2_greatestWear 2 = .ok (.iconst 0, 1) := by decide +kernel
theorem dX2_greatestWear_3 : decode cX2_greatestWear 3 = .ok (.istore_n 2, 1) := by decide +kernel
theorem dX2_greatestWear_4 : decode cX2_greatestWear 4 = .ok (.iload_n 2, 1) := by decide +kernel
theorem dX2_greatestWear_5 : decode cX2_greatestWear 5 = .ok (.bipush 8, 2) := by decide +kernel
theorem dX2_greatestWear_7 : decode cX2_greatestWear 7 = .ok (.if_icmp .ge 20, 3) := by decide +kernel
theorem dX2_greatestWear_10 : decode cX2_greatestWear 10 = .ok (.iload_n 1, 1) := by decide +kernel
theorem dX2_greatestWear_11 : decode cX2_greatestWear 11 = .ok (.aload_n 0, 1) := by decide +kernel
theorem dX2_greatestWear_12 : decode cX2_greatestWear 12 = .ok (.getfield 18, 3) := by decide +kernel
theorem dX2_greatestWear_15 : decode cX2_greatestWear 15 = .ok (.iload_n 2, 1) := by decide +kernel
theorem dX2_greatestWear_16 : decode cX2_greatestWear 16 = .ok (.iaload, 1) := by decide +kernel
theorem dX2_greatestWear_17 : decode cX2_greatestWear 17 = .ok (.invokestatic 99, 3) := by decide +kernel
theorem dX2_greatestWear_20 : decode cX2_greatestWear 20 = .ok (.istore_n 1, 1) := by decide +kernel
theorem dX2_greatestWear_21 : decode cX2_greatestWear 21 = .ok (.iinc 2 1, 3) := by decide +kernel
theorem dX2_greatestWear_24 : decode cX2_greatestWear 24 = .ok (.goto (-20), 3) := by decide +kernel
theorem dX2_greatestWear_27 : decode cX2_greatestWear 27 = .ok (.iload_n 1, 1) := by decide +kernel
theorem dX2_greatestWear_28 : decode cX2_greatestWear 28 = .ok (.ireturn, 1) := by decide +kernel
theorem dX2_wearOfAll_0 : decode cX2_wearOfAll 0 = .ok (.iconst 0, 1) := by decide +kernel
theorem dX2_wearOfAll_1 : decode cX2_wearOfAll 1 = .ok (.istore_n 1, 1) := by decide +kernel
theorem dX2_wearOfAll_2 : decode cX2_wearOfAll 2 = .ok (.iconst 0, 1) := by decide +kernel
theorem dX2_wearOfAll_3 : decode cX2_wearOfAll 3 = .ok (.istore_n 2, 1) := by decide +kernel
theorem dX2_wearOfAll_4 : decode cX2_wearOfAll 4 = .ok (.iload_n 2, 1) := by decide +kernel
theorem dX2_wearOfAll_5 : decode cX2_wearOfAll 5 = .ok (.bipush 8, 2) := by decide +kernel
theorem dX2_wearOfAll_7 : decode cX2_wearOfAll 7 = .ok (.if_icmp .ge 18, 3) := by decide +kernel
theorem dX2_wearOfAll_10 : decode cX2_wearOfAll 10 = .ok (.iload_n 1, 1) := by decide +kernel
theorem dX2_wearOfAll_11 : decode cX2_wearOfAll 11 = .ok (.aload_n 0, 1) := by decide +kernel
theorem dX2_wearOfAll_12 : decode cX2_wearOfAll 12 = .ok (.getfield 18, 3) := by decide +kernel
theorem dX2_wearOfAll_15 : decode cX2_wearOfAll 15 = .ok (.iload_n 2, 1) := by decide +kernel
theorem dX2_wearOfAll_16 : decode cX2_wearOfAll 16 = .ok (.iaload, 1) := by decide +kernel
theorem dX2_wearOfAll_17 : decode cX2_wearOfAll 17 = .ok (.iadd, 1) := by decide +kernel
theorem dX2_wearOfAll_18 : decode cX2_wearOfAll 18 = .ok (.istore_n 1, 1) := by decide +kernel
theorem dX2_wearOfAll_19 : decode cX2_wearOfAll 19 = .ok (.iinc 2 1, 3) := by decide +kernel
theorem dX2_wearOfAll_22 : decode cX2_wearOfAll 22 = .ok (.goto (-18), 3) := by decide +kernel
theorem dX2_wearOfAll_25 : decode cX2_wearOfAll 25 = .ok (.iload_n 1, 1) := by decide +kernel
theorem dX2_wearOfAll_26 : decode cX2_wearOfAll 26 = .ok (.ireturn, 1) := by decide +kernel
set_option maxRecDepth 20000 in
theorem ggX2_fewestUnlikeBits_J6_bitCount_0f7a4 : GoodIn wsX2_fewestUnlikeBits wsJ6_bitCount_0f7a4 := goodIn_r _ [9, 10, 11, 12] (by decide +kernel) (by decide +kernel)
set_option maxRecDepth 20000 in
theorem gX2_fewestUnlikeBits_J6_bitCount_0f7a4 : GoodIn wsX2_fewestUnlikeBits (va_wsS RX2 62 yJ6_bitCount_0f7a4 wsJ6_bitCount_0f7a4) := goodIn_app (goodIn_of _ (by decide +kernel)) ggX2_fewestUnlikeBits_J6_bitCount_0f7a4
theorem dX2_fewestUnlikeBits_0 : decode cX2_fewestUnlikeBits 0 = .ok (.bipush 8, 2) := by decide +kernel
theorem dX2_fewestUnlikeBits_2 : decode cX2_fewestUnlikeBits 2 = .ok (.istore_n 1, 1) := by decide +kernel
theorem dX2_fewestUnlikeBits_3 : decode cX2_fewestUnlikeBits 3 = .ok (.iconst 0, 1) := by decide +kernel
theorem dX2_fewestUnlikeBits_4 : decode cX2_fewestUnlikeBits 4 = .ok (.istore_n 2, 1) := by decide +kernel
theorem dX2_fewestUnlikeBits_5 : decode cX2_fewestUnlikeBits 5 = .ok (.iload_n 2, 1) := by decide +kernel
theorem dX2_fewestUnlikeBits_6 : decode cX2_fewestUnlikeBits 6 = .ok (.bipush 16, 2) := by decide +kernel
theorem dX2_fewestUnlikeBits_8 : decode cX2_fewestUnlikeBits 8 = .ok (.if_icmp .ge 43, 3) := by decide +kernel
theorem dX2_fewestUnlikeBits_11 : decode cX2_fewestUnlikeBits 11 = .ok (.iconst 0, 1) := by decide +kernel
theorem dX2_fewestUnlikeBits_12 : decode cX2_fewestUnlikeBits 12 = .ok (.istore_n 3, 1) := by decide +kernel
theorem dX2_fewestUnlikeBits_13 : decode cX2_fewestUnlikeBits 13 = .ok (.iload_n 3, 1) := by decide +kernel
theorem dX2_fewestUnlikeBits_14 : decode cX2_fewestUnlikeBits 14 = .ok (.iload_n 2, 1) := by decide +kernel
theorem dX2_fewestUnlikeBits_15 : decode cX2_fewestUnlikeBits 15 = .ok (.if_icmp .ge 30, 3) := by decide +kernel
theorem dX2_fewestUnlikeBits_18 : decode cX2_fewestUnlikeBits 18 = .ok (.iload_n 1, 1) := by decide +kernel
theorem dX2_fewestUnlikeBits_19 : decode cX2_fewestUnlikeBits 19 = .ok (.aload_n 0, 1) := by decide +kernel
theorem dX2_fewestUnlikeBits_20 : decode cX2_fewestUnlikeBits 20 = .ok (.getfield 9, 3) := by decide +kernel
theorem dX2_fewestUnlikeBits_23 : decode cX2_fewestUnlikeBits 23 = .ok (.iload_n 2, 1) := by decide +kernel
theorem dX2_fewestUnlikeBits_24 : decode cX2_fewestUnlikeBits 24 = .ok (.iaload, 1) := by decide +kernel
theorem dX2_fewestUnlikeBits_25 : decode cX2_fewestUnlikeBits 25 = .ok (.aload_n 0, 1) := by decide +kernel
theorem dX2_fewestUnlikeBits_26 : decode cX2_fewestUnlikeBits 26 = .ok (.getfield 9, 3) := by decide +kernel
theorem dX2_fewestUnlikeBits_29 : decode cX2_fewestUnlikeBits 29 = .ok (.iload_n 3, 1) := by decide +kernel
theorem dX2_fewestUnlikeBits_30 : decode cX2_fewestUnlikeBits 30 = .ok (.iaload, 1) := by decide +kernel
theorem dX2_fewestUnlikeBits_31 : decode cX2_fewestUnlikeBits 31 = .ok (.ixor, 1) := by decide +kernel
theorem dX2_fewestUnlikeBits_32 : decode cX2_fewestUnlikeBits 32 = .ok (.invokestatic 62, 3) := by decide +kernel
theorem dX2_fewestUnlikeBits_35 : decode cX2_fewestUnlikeBits 35 = .ok (.invokestatic 74, 3) := by decide +kernel
theorem dX2_fewestUnlikeBits_38 : decode cX2_fewestUnlikeBits 38 = .ok (.istore_n 1, 1) := by decide +kernel
theorem dX2_fewestUnlikeBits_39 : decode cX2_fewestUnlikeBits 39 = .ok (.iinc 3 1, 3) := by decide +kernel
theorem dX2_fewestUnlikeBits_42 : decode cX2_fewestUnlikeBits 42 = .ok (.goto (-29), 3) := by decide +kernel
theorem dX2_fewestUnlikeBits_45 : decode cX2_fewestUnlikeBits 45 = .ok (.iinc 2 1, 3) := by decide +kernel
theorem dX2_fewestUnlikeBits_48 : decode cX2_fewestUnlikeBits 48 = .ok (.goto (-43), 3) := by decide +kernel
theorem dX2_fewestUnlikeBits_51 : decode cX2_fewestUnlikeBits 51 = .ok (.iload_n 1, 1) := by decide +kernel
theorem dX2_fewestUnlikeBits_52 : decode cX2_fewestUnlikeBits 52 = .ok (.ireturn, 1) := by decide +kernel
theorem dX3_init_0 : decode cX3_init 0 = .ok (.aload_n 0, 1) := by decide +kernel
theorem dX3_init_1 : decode cX3_init 1 = .ok (.invokespecial 3, 3) := by decide +kernel
theorem dX3_init_4 : decode cX3_init 4 = .ok (.aload_n 0, 1) := by decide +kernel
theorem dX3_init_5 : decode cX3_init 5 = .ok (.bipush 60, 2) := by decide +kernel
theorem dX3_init_7 : decode cX3_init 7 = .ok (.newarray .int, 2) := by decide +kernel
theorem dX3_init_9 : decode cX3_init 9 = .ok (.putfield 11, 3) := by decide +kernel
theorem dX3_init_12 : decode cX3_init 12 = .ok (.aload_n 0, 1) := by decide +kernel
theorem dX3_init_13 : decode cX3_init 13 = .ok (.bipush 16, 2) := by decide +kernel
theorem dX3_init_15 : decode cX3_init 15 = .ok (.newarray .int, 2) := by decide +kernel
theorem dX3_init_17 : decode cX3_init 17 = .ok (.putfield 15, 3) := by decide +kernel
theorem dX3_init_20 : decode cX3_init 20 = .ok (.return_, 1) := by decide +kernel
theorem dX3_put_0 : decode cX3_put 0 = .ok (.aload_n 0, 1) := by decide +kernel
theorem dX3_put_1 : decode cX3_put 1 = .ok (.getfield 18, 3) := by decide +kernel
theorem dX3_put_4 : decode cX3_put 4 = .ok (.bipush 60, 2) := by decide +kernel
theorem dX3_put_6 : decode cX3_put 6 = .ok (.if_icmp .ge 23, 3) := by decide +kernel
theorem dX3_put_9 : decode cX3_put 9 = .ok (.aload_n 0, 1) := by decide +kernel
theorem dX3_put_10 : decode cX3_put 10 = .ok (.getfield 11, 3) := by decide +kernel
theorem dX3_put_13 : decode cX3_put 13 = .ok (.aload_n 0, 1) := by decide +kernel
theorem dX3_put_14 : decode cX3_put 14 = .ok (.getfield 18, 3) := by decide +kernel
theorem dX3_put_17 : decode cX3_put 17 = .ok (.iload_n 1, 1) := by decide +kernel
theorem dX3_put_18 : decode cX3_put 18 = .ok (.iastore, 1) := by decide +kernel
theorem dX3_put_19 : decode cX3_put 19 = .ok (.aload_n 0, 1) := by decide +kernel
theorem dX3_put_20 : decode cX3_put 20 = .ok (.dup, 1) := by decide +kernel
theorem dX3_put_21 : decode cX3_put 21 = .ok (.getfield 18, 3) := by decide +kernel
theorem dX3_put_24 : decode cX3_put 24 = .ok (.iconst 1, 1) := by decide +kernel
theorem dX3_put_25 : decode cX3_put 25 = .ok (.iadd, 1) := by decide +kernel
theorem dX3_put_26 : decode cX3_put 26 = .ok (.putfield 18, 3) := by decide +kernel
theorem dX3_put_29 : decode cX3_put 29 = .ok (.return_, 1) := by decide +kernel
set_option maxRecDepth 20000 in
theorem ggX3_putWord_X3_signOf : GoodIn wsX3_putWord wsX3_signOf := goodIn_r _ [4] (by decide +kernel) (by decide +kernel)
set_option maxRecDepth 20000 in
theorem gX3_putWord_X3_signOf : GoodIn wsX3_putWord (va_wsS RX3 22 yX3_signOf wsX3_signOf) := goodIn_app (goodIn_of _ (by decide +kernel)) ggX3_putWord_X3_signOf
set_option maxRecDepth 20000 in
theorem ggX3_putWord_X3_put : GoodIn wsX3_putWord wsX3_put := goodIn_r _ [8, 9, 10, 11, 12, 13, 14, 15] (by decide +kernel) (by decide +kernel)
set_option maxRecDepth 20000 in
theorem gX3_putWord_X3_put : GoodIn wsX3_putWord (wsV RX3 26 RX3 yX3_put wsX3_put) := goodIn_app (goodIn_of _ (by decide +kernel)) ggX3_putWord_X3_put
theorem dX3_putWord_0 : decode cX3_putWord 0 = .ok (.aload_n 0, 1) := by decide +kernel
theorem dX3_putWord_1 : decode cX3_putWord 1 = .ok (.iload_n 1, 1) := by decide +kernel
theorem dX3_putWord_2 : decode cX3_putWord 2 = .ok (.bipush 16, 2) := by decide +kernel
theorem dX3_putWord_4 : decode cX3_putWord 4 = .ok (.idiv, 1) := by decide +kernel
theorem dX3_putWord_5 : decode cX3_putWord 5 = .ok (.invokestatic 22, 3) := by decide +kernel
theorem dX3_putWord_8 : decode cX3_putWord 8 = .ok (.invokevirtual 26, 3) := by decide +kernel
theorem dX3_putWord_11 : decode cX3_putWord 11 = .ok (.aload_n 0, 1) := by decide +kernel
theorem dX3_putWord_12 : decode cX3_putWord 12 = .ok (.iload_n 1, 1) := by decide +kernel
theorem dX3_putWord_13 : decode cX3_putWord 13 = .ok (.bipush 16, 2) := by decide +kernel
theorem dX3_putWord_15 : decode cX3_putWord 15 = .ok (.irem, 1) := by decide +kernel
theorem dX3_putWord_16 : decode cX3_putWord 16 = .ok (.invokestatic 22, 3) := by decide +kernel
theorem dX3_putWord_19 : decode cX3_putWord 19 = .ok (.invokevirtual 26, 3) := by decide +kernel
theorem dX3_putWord_22 : decode cX3_putWord 22 = .ok (.return_, 1) := by decide +kernel
set_option maxRecDepth 20000 in
theorem ggX3_tellsProgram_X3_parse : GoodIn wsX3_tellsProgram wsX3_parse := goodIn_r _ [7, 2, 8, 1, 9, 10, 11, 12, 6, 13, 14, 15, 16, 17, 18, 19, 20, 21, 22] (by decide +kernel) (by decide +kernel)
set_option maxRecDepth 20000 in
theorem gX3_tellsProgram_X3_parse : GoodIn wsX3_tellsProgram (wsV RX3 30 RX3 yX3_parse wsX3_parse) := goodIn_app (goodIn_of _ (by decide +kernel)) ggX3_tellsProgram_X3_parse
theorem dX3_tellsProgram_0 : decode cX3_tellsProgram 0 = .ok (.aload_n 0, 1) := by decide +kernel
theorem dX3_tellsProgram_1 : decode cX3_tellsProgram 1 = .ok (.invokevirtual 30, 3) := by decide +kernel
theorem dX3_tellsProgram_4 : decode cX3_tellsProgram 4 = .ok (.aload_n 0, 1) := by decide +kernel
theorem dX3_tellsProgram_5 : decode cX3_tellsProgram 5 = .ok (.getfield 18, 3) := by decide +kernel
theorem dX3_tellsProgram_8 : decode cX3_tellsProgram 8 = .ok (.if_icmp .ne 15, 3) := by decide +kernel
theorem dX3_tellsProgram_11 : decode cX3_tellsProgram 11 = .ok (.aload_n 0, 1) := by decide +kernel
theorem dX3_tellsProgram_12 : decode cX3_tellsProgram 12 = .ok (.getfield 34, 3) := by decide +kernel
theorem dX3_tellsProgram_15 : decode cX3_tellsProgram 15 = .ok (.iconst 2, 1) := by decide +kernel
theorem dX3_tellsProgram_16 : decode cX3_tellsProgram 16 = .ok (.if_icmp .ne 7, 3) := by decide +kernel
theorem dX3_tellsProgram_19 : decode cX3_tellsProgram 19 = .ok (.iconst 1, 1) := by decide +kernel
theorem dX3_tellsProgram_20 : decode cX3_tellsProgram 20 = .ok (.goto 4, 3) := by decide +kernel
theorem dX3_tellsProgram_23 : decode cX3_tellsProgram 23 = .ok (.iconst 0, 1) := by decide +kernel
theorem dX3_tellsProgram_24 : decode cX3_tellsProgram 24 = .ok (.ireturn, 1) := by decide +kernel
set_option maxRecDepth 20000 in
theorem ggX3_parse_X3_takeCode : GoodIn wsX3_parse wsX3_takeCode := goodIn_r _ [9, 2, 1, 10, 11, 12, 8, 13, 14, 15, 16, 17, 18] (by decide +kernel) (by decide +kernel)
set_option maxRecDepth 20000 in
theorem gX3_parse_X3_takeCode : GoodIn wsX3_parse (wsV RX3 40 RX3 yX3_takeCode wsX3_takeCode) := goodIn_app (goodIn_of _ (by decide +kernel)) ggX3_parse_X3_takeCode
theorem dX3_parse_0 : decode cX3_parse 0 = .ok (.aload_n 0, 1) := by decide +kernel
theorem dX3_parse_1 : decode cX3_parse 1 = .ok (.iconst 0, 1) := by decide +kernel
theorem dX3_parse_2 : decode cX3_parse 2 = .ok (.putfield 34, 3) := by decide +kernel
theorem dX3_parse_5 : decode cX3_parse 5 = .ok (.aload_n 0, 1) := by decide +kernel
theorem dX3_parse_6 : decode cX3_parse 6 = .ok (.iconst 0, 1) := by decide +kernel
theorem dX3_parse_7 : decode cX3_parse 7 = .ok (.putfield 37, 3) := by decide +kernel
theorem dX3_parse_10 : decode cX3_parse 10 = .ok (.iconst 0, 1) := by decide +kernel
theorem dX3_parse_11 : decode cX3_parse 11 = .ok (.istore_n 1, 1) := by decide +kernel
theorem dX3_parse_12 : decode cX3_parse 12 = .ok (.iload_n 1, 1) := by decide +kernel
theorem dX3_parse_13 : decode cX3_parse 13 = .ok (.aload_n 0, 1) := by decide +kernel
theorem dX3_parse_14 : decode cX3_parse 14 = .ok (.getfield 18, 3) := by decide +kernel
theorem dX3_parse_17 : decode cX3_parse 17 = .ok (.if_icmp .ge 29, 3) := by decide +kernel
theorem dX3_parse_20 : decode cX3_parse 20 = .ok (.aload_n 0, 1) := by decide +kernel
theorem dX3_parse_21 : decode cX3_parse 21 = .ok (.aload_n 0, 1) := by decide +kernel
theorem dX3_parse_22 : decode cX3_parse 22 = .ok (.getfield 11, 3) := by decide +kernel
theorem dX3_parse_25 : decode cX3_parse 25 = .ok (.iload_n 1, 1) := by decide +kernel
theorem dX3_parse_26 : decode cX3_parse 26 = .ok (.iaload, 1) := by decide +kernel
theorem dX3_parse_27 : decode cX3_parse 27 = .ok (.invokevirtual 40, 3) := by decide +kernel
theorem dX3_parse_30 : decode cX3_parse 30 = .ok (.aload_n 0, 1) := by decide +kernel
theorem dX3_parse_31 : decode cX3_parse 31 = .ok (.getfield 34, 3) := by decide +kernel
theorem dX3_parse_34 : decode cX3_parse 34 = .ok (.iconst 3, 1) := by decide +kernel
theorem dX3_parse_35 : decode cX3_parse 35 = .ok (.if_icmp .ne 5, 3) := by decide +kernel
theorem dX3_parse_38 : decode cX3_parse 38 = .ok (.iload_n 1, 1) := by decide +kernel
theorem dX3_parse_39 : decode cX3_parse 39 = .ok (.ireturn, 1) := by decide +kernel
theorem dX3_parse_40 : decode cX3_parse 40 = .ok (.iinc 1 1, 3) := by decide +kernel
theorem dX3_parse_43 : decode cX3_parse 43 = .ok (.goto (-31), 3) := by decide +kernel
theorem dX3_parse_46 : decode cX3_parse 46 = .ok (.aload_n 0, 1) := by decide +kernel
theorem dX3_parse_47 : decode cX3_parse 47 = .ok (.getfield 18, 3) := by decide +kernel
theorem dX3_parse_50 : decode cX3_parse 50 = .ok (.ireturn, 1) := by decide +kernel
set_option maxRecDepth 20000 in
theorem ggX3_takeCode_X3_digitOf : GoodIn wsX3_takeCode wsX3_digitOf := goodIn_r _ [7] (by decide +kernel) (by decide +kernel)
set_option maxRecDepth 20000 in
theorem gX3_takeCode_X3_digitOf : GoodIn wsX3_takeCode (va_wsS RX3 43 yX3_digitOf wsX3_digitOf) := goodIn_app (goodIn_of _ (by decide +kernel)) ggX3_takeCode_X3_digitOf
theorem dX3_takeCode_0 : decode cX3_takeCode 0 = .ok (.iload_n 1, 1) := by decide +kernel
theorem dX3_takeCode_1 : decode cX3_takeCode 1 = .ok (.invokestatic 43, 3) := by decide +kernel
theorem dX3_takeCode_4 : decode cX3_takeCode 4 = .ok (.istore_n 2, 1) := by decide +kernel
theorem dX3_takeCode_5 : decode cX3_takeCode 5 = .ok (.aload_n 0, 1) := by decide +kernel
theorem dX3_takeCode_6 : decode cX3_takeCode 6 = .ok (.getfield 37, 3) := by decide +kernel
theorem dX3_takeCode_9 : decode cX3_takeCode 9 = .ok (.bipush 16, 2) := by decide +kernel
theorem dX3_takeCode_11 : decode cX3_takeCode 11 = .ok (.if_icmp .ge 7, 3) := by decide +kernel
theorem dX3_takeCode_14 : decode cX3_takeCode 14 = .ok (.iconst 1, 1) := by decide +kernel
theorem dX3_takeCode_15 : decode cX3_takeCode 15 = .ok (.goto 4, 3) := by decide +kernel
theorem dX3_takeCode_18 : decode cX3_takeCode 18 = .ok (.iconst 0, 1) := by decide +kernel
theorem dX3_takeCode_19 : decode cX3_takeCode 19 = .ok (.istore_n 3, 1) := by decide +kernel
theorem dX3_takeCode_20 : decode cX3_takeCode 20 = .ok (.iload_n 2, 1) := by decide +kernel
theorem dX3_takeCode_21 : decode cX3_takeCode 21 = .ok (.iconst (-1), 1) := by decide +kernel
theorem dX3_takeCode_22 : decode cX3_takeCode 22 = .ok (.if_icmp .eq 46, 3) := by decide +kernel
theorem dX3_takeCode_25 : decode cX3_takeCode 25 = .ok (.iload_n 3, 1) := by decide +kernel
theorem dX3_takeCode_26 : decode cX3_takeCode 26 = .ok (.ifCond .eq 42, 3) := by decide +kernel
theorem dX3_takeCode_29 : decode cX3_takeCode 29 = .ok (.aload_n 0, 1) := by decide +kernel
theorem dX3_takeCode_30 : decode cX3_takeCode 30 = .ok (.getfield 34, 3) := by decide +kernel
theorem dX3_takeCode_33 : decode cX3_takeCode 33 = .ok (.iconst 1, 1) := by decide +kernel
theorem dX3_takeCode_34 : decode cX3_takeCode 34 = .ok (.if_icmp .ne 34, 3) := by decide +kernel
theorem dX3_takeCode_37 : decode cX3_takeCode 37 = .ok (.aload_n 0, 1) := by decide +kernel
theorem dX3_takeCode_38 : decode cX3_takeCode 38 = .ok (.getfield 15, 3) := by decide +kernel
theorem dX3_takeCode_41 : decode cX3_takeCode 41 = .ok (.aload_n 0, 1) := by decide +kernel
theorem dX3_takeCode_42 : decode cX3_takeCode 42 = .ok (.getfield 37, 3) := by decide +kernel
theorem dX3_takeCode_45 : decode cX3_takeCode 45 = .ok (.dup2, 1) := by decide +kernel
theorem dX3_takeCode_46 : decode cX3_takeCode 46 = .ok (.iaload, 1) := by decide +kernel
theorem dX3_takeCode_47 : decode cX3_takeCode 47 = .ok (.iload_n 2, 1) := by decide +kernel
theorem dX3_takeCode_48 : decode cX3_takeCode 48 = .ok (.iadd, 1) := by decide +kernel
theorem dX3_takeCode_49 : decode cX3_takeCode 49 = .ok (.iastore, 1) := by decide +kernel
theorem dX3_takeCode_50 : decode cX3_takeCode 50 = .ok (.aload_n 0, 1) := by decide +kernel
theorem dX3_takeCode_51 : decode cX3_takeCode 51 = .ok (.dup, 1) := by decide +kernel
theorem dX3_takeCode_52 : decode cX3_takeCode 52 = .ok (.getfield 37, 3) := by decide +kernel
theorem dX3_takeCode_55 : decode cX3_takeCode 55 = .ok (.iconst 1, 1) := by decide +kernel
theorem dX3_takeCode_56 : decode cX3_takeCode 56 = .ok (.iadd, 1) := by decide +kernel
theorem dX3_takeCode_57 : decode cX3_takeCode 57 = .ok (.putfield 37, 3) := by decide +kernel
theorem dX3_takeCode_60 : decode cX3_takeCode 60 = .ok (.aload_n 0, 1) := by decide +kernel
theorem dX3_takeCode_61 : decode cX3_takeCode 61 = .ok (.iconst 2, 1) := by decide +kernel
theorem dX3_takeCode_62 : decode cX3_takeCode 62 = .ok (.putfield 34, 3) := by decide +kernel
theorem dX3_takeCode_65 : decode cX3_takeCode 65 = .ok (.goto 64, 3) := by decide +kernel
theorem dX3_takeCode_68 : decode cX3_takeCode 68 = .ok (.iload_n 2, 1) := by decide +kernel
theorem dX3_takeCode_69 : decode cX3_takeCode 69 = .ok (.iconst (-1), 1) := by decide +kernel
theorem dX3_takeCode_70 : decode cX3_takeCode 70 = .ok (.if_icmp .eq 28, 3) := by decide +kernel
theorem dX3_takeCode_73 : decode cX3_takeCode 73 = .ok (.iload_n 3, 1) := by decide +kernel
theorem dX3_takeCode_74 : decode cX3_takeCode 74 = .ok (.ifCond .eq 24, 3) := by decide +kernel
theorem dX3_takeCode_77 : decode cX3_takeCode 77 = .ok (.aload_n 0, 1) := by decide +kernel
theorem dX3_takeCode_78 : decode cX3_takeCode 78 = .ok (.getfield 15, 3) := by decide +kernel
theorem dX3_takeCode_81 : decode cX3_takeCode 81 = .ok (.aload_n 0, 1) := by decide +kernel
theorem dX3_takeCode_82 : decode cX3_takeCode 82 = .ok (.getfield 37, 3) := by decide +kernel
theorem dX3_takeCode_85 : decode cX3_takeCode 85 = .ok (.bipush 16, 2) := by decide +kernel
theorem dX3_takeCode_87 : decode cX3_takeCode 87 = .ok (.iload_n 2, 1) := by decide +kernel
theorem dX3_takeCode_88 : decode cX3_takeCode 88 = .ok (.imul, 1) := by decide +kernel
theorem dX3_takeCode_89 : decode cX3_takeCode 89 = .ok (.iastore, 1) := by decide +kernel
theorem dX3_takeCode_90 : decode cX3_takeCode 90 = .ok (.aload_n 0, 1) := by decide +kernel
theorem dX3_takeCode_91 : decode cX3_takeCode 91 = .ok (.iconst 1, 1) := by decide +kernel
theorem dX3_takeCode_92 : decode cX3_takeCode 92 = .ok (.putfield 34, 3) := by decide +kernel
theorem dX3_takeCode_95 : decode cX3_takeCode 95 = .ok (.goto 34, 3) := by decide +kernel
theorem dX3_takeCode_98 : decode cX3_takeCode 98 = .ok (.iload_n 1, 1) := by decide +kernel
theorem dX3_takeCode_99 : decode cX3_takeCode 99 = .ok (.bipush 46, 2) := by decide +kernel
theorem dX3_takeCode_101 : decode cX3_takeCode 101 = .ok (.if_icmp .ne 23, 3) := by decide +kernel
theorem dX3_takeCode_104 : decode cX3_takeCode 104 = .ok (.iload_n 3, 1) := by decide +kernel
theorem dX3_takeCode_105 : decode cX3_takeCode 105 = .ok (.ifCond .eq 19, 3) := by decide +kernel
theorem dX3_takeCode_108 : decode cX3_takeCode 108 = .ok (.aload_n 0, 1) := by decide +kernel
theorem dX3_takeCode_109 : decode cX3_takeCode 109 = .ok (.getfield 34, 3) := by decide +kernel
theorem dX3_takeCode_112 : decode cX3_takeCode 112 = .ok (.iconst 2, 1) := by decide +kernel
theorem dX3_takeCode_113 : decode cX3_takeCode 113 = .ok (.if_icmp .ne 11, 3) := by decide +kernel
theorem dX3_takeCode_116 : decode cX3_takeCode 116 = .ok (.aload_n 0, 1) := by decide +kernel
theorem dX3_takeCode_117 : decode cX3_takeCode 117 = .ok (.iconst 0, 1) := by decide +kernel
theorem dX3_takeCode_118 : decode cX3_takeCode 118 = .ok (.putfield 34, 3) := by decide +kernel
theorem dX3_takeCode_121 : decode cX3_takeCode 121 = .ok (.goto 8, 3) := by decide +kernel
theorem dX3_takeCode_124 : decode cX3_takeCode 124 = .ok (.aload_n 0, 1) := by decide +kernel
theorem dX3_takeCode_125 : decode cX3_takeCode 125 = .ok (.iconst 3, 1) := by decide +kernel
theorem dX3_takeCode_126 : decode cX3_takeCode 126 = .ok (.putfield 34, 3) := by decide +kernel
theorem dX3_takeCode_129 : decode cX3_takeCode 129 = .ok (.return_, 1) := by decide +kernel
theorem dX3_signOf_0 : decode cX3_signOf 0 = .ok (.iload_n 0, 1) := by decide +kernel
theorem dX3_signOf_1 : decode cX3_signOf 1 = .ok (.bipush 10, 2) := by decide +kernel
theorem dX3_signOf_3 : decode cX3_signOf 3 = .ok (.if_icmp .ge 10, 3) := by decide +kernel
theorem dX3_signOf_6 : decode cX3_signOf 6 = .ok (.bipush 48, 2) := by decide +kernel
theorem dX3_signOf_8 : decode cX3_signOf 8 = .ok (.iload_n 0, 1) := by decide +kernel
theorem dX3_signOf_9 : decode cX3_signOf 9 = .ok (.iadd, 1) := by decide +kernel
theorem dX3_signOf_10 : decode cX3_signOf 10 = .ok (.goto 10, 3) := by decide +kernel
theorem dX3_signOf_13 : decode cX3_signOf 13 = .ok (.bipush 97, 2) := by decide +kernel
theorem dX3_signOf_15 : decode cX3_signOf 15 = .ok (.iload_n 0, 1) := by decide +kernel
theorem dX3_signOf_16 : decode cX3_signOf 16 = .ok (.iadd, 1) := by decide +kernel
theorem dX3_signOf_17 : decode cX3_signOf 17 = .ok (.bipush 10, 2) := by decide +kernel
theorem dX3_signOf_19 : decode cX3_signOf 19 = .ok (.isub, 1) := by decide +kernel
theorem dX3_signOf_20 : decode cX3_signOf 20 = .ok (.ireturn, 1) := by decide +kernel
theorem dX3_digitOf_0 : decode cX3_digitOf 0 = .ok (.iload_n 0, 1) := by decide +kernel
theorem dX3_digitOf_1 : decode cX3_digitOf 1 = .ok (.bipush 48, 2) := by decide +kernel
theorem dX3_digitOf_3 : decode cX3_digitOf 3 = .ok (.if_icmp .lt 14, 3) := by decide +kernel
theorem dX3_digitOf_6 : decode cX3_digitOf 6 = .ok (.iload_n 0, 1) := by decide +kernel
theorem dX3_digitOf_7 : decode cX3_digitOf 7 = .ok (.bipush 57, 2) := by decide +kernel
theorem dX3_digitOf_9 : decode cX3_digitOf 9 = .ok (.if_icmp .gt 8, 3) := by decide +kernel
theorem dX3_digitOf_12 : decode cX3_digitOf 12 = .ok (.iload_n 0, 1) := by decide +kernel
theorem dX3_digitOf_13 : decode cX3_digitOf 13 = .ok (.bipush 48, 2) := by decide +kernel
theorem dX3_digitOf_15 : decode cX3_digitOf 15 = .ok (.isub, 1) := by decide +kernel
theorem dX3_digitOf_16 : decode cX3_digitOf 16 = .ok (.ireturn, 1) := by decide +kernel
theorem dX3_digitOf_17 : decode cX3_digitOf 17 = .ok (.iload_n 0, 1) := by decide +kernel
theorem dX3_digitOf_18 : decode cX3_digitOf 18 = .ok (.bipush 97, 2) := by decide +kernel
theorem dX3_digitOf_20 : decode cX3_digitOf 20 = .ok (.if_icmp .lt 17, 3) := by decide +kernel
theorem dX3_digitOf_23 : decode cX3_digitOf 23 = .ok (.iload_n 0, 1) := by decide +kernel
theorem dX3_digitOf_24 : decode cX3_digitOf 24 = .ok (.bipush 102, 2) := by decide +kernel
theorem dX3_digitOf_26 : decode cX3_digitOf 26 = .ok (.if_icmp .gt 11, 3) := by decide +kernel
theorem dX3_digitOf_29 : decode cX3_digitOf 29 = .ok (.iload_n 0, 1) := by decide +kernel
theorem dX3_digitOf_30 : decode cX3_digitOf 30 = .ok (.bipush 97, 2) := by decide +kernel
theorem dX3_digitOf_32 : decode cX3_digitOf 32 = .ok (.isub, 1) := by decide +kernel
theorem dX3_digitOf_33 : decode cX3_digitOf 33 = .ok (.bipush 10, 2) := by decide +kernel
theorem dX3_digitOf_35 : decode cX3_digitOf 35 = .ok (.iadd, 1) := by decide +kernel
theorem dX3_digitOf_36 : decode cX3_digitOf 36 = .ok (.ireturn, 1) := by decide +kernel
theorem dX3_digitOf_37 : decode cX3_digitOf 37 = .ok (.iconst (-1), 1) := by decide +kernel
theorem dX3_digitOf_38 : decode cX3_digitOf 38 = .ok (.ireturn, 1) := by decide +kernel
set_option maxRecDepth 20000 in
theorem ggX4_init_X2_init : GoodIn wsX4_init wsX2_init := goodIn_r _ [24, 25, 2, 3, 20, 26, 27, 28, 29, 30, 31, 32, 33, 34, 35, 36, 37, 38, 39, 40, 41, 42, 43, 44, 45, 46, 47, 48, 61, 62, 63, 64, 65, 66, 67, 68, 84, 85, 86, 87, 88, 89, 90] (by decide +kernel) (by decide +kernel)
set_option maxRecDepth 20000 in
theorem gX4_init_X2_init : GoodIn wsX4_init (wsX2_init) := ggX4_init_X2_init
set_option maxRecDepth 20000 in
theorem ggX4_init_X1_init : GoodIn wsX4_init wsX1_init := goodIn_r _ [51, 52, 2, 3, 53, 54, 5, 6, 55, 23, 24, 25, 20, 26, 27, 28, 29, 30, 31, 32, 33, 34, 35, 36, 37, 38, 39, 40, 41, 42, 43, 44, 45, 46, 47, 48, 76, 77, 78, 61, 62, 63, 64, 65, 66, 67, 68, 84, 85, 86, 87, 88, 89, 90] (by decide +kernel) (by decide +kernel)
set_option maxRecDepth 20000 in
theorem gX4_init_X1_init : GoodIn wsX4_init (wsX1_init) := ggX4_init_X1_init
set_option maxRecDepth 20000 in
theorem ggX4_init_X3_init : GoodIn wsX4_init wsX3_init := goodIn_r _ [57, 58, 2, 3, 20, 59, 60, 79, 80, 81, 82, 83] (by decide +kernel) (by decide +kernel)
set_option maxRecDepth 20000 in
theorem gX4_init_X3_init_n36 : GoodIn wsX4_init (wsX3_init) := ggX4_init_X3_init
theorem dX4_init_0 : decode cX4_init 0 = .ok (.aload_n 0, 1) := by decide +kernel
theorem dX4_init_1 : decode cX4_init 1 = .ok (.invokespecial 1, 3) := by decide +kernel
theorem dX4_init_4 : decode cX4_init 4 = .ok (.aload_n 0, 1) := by decide +kernel
theorem dX4_init_5 : decode cX4_init 5 = .ok (.new 7, 3) := by decide +kernel
theorem dX4_init_8 : decode cX4_init 8 = .ok (.dup, 1) := by decide +kernel
theorem dX4_init_9 : decode cX4_init 9 = .ok (.invokespecial 9, 3) := by decide +kernel
theorem dX4_init_12 : decode cX4_init 12 = .ok (.putfield 10, 3) := by decide +kernel
theorem dX4_init_15 : decode cX4_init 15 = .ok (.aload_n 0, 1) := by decide +kernel
theorem dX4_init_16 : decode cX4_init 16 = .ok (.new 7, 3) := by decide +kernel
theorem dX4_init_19 : decode cX4_init 19 = .ok (.dup, 1) := by decide +kernel
theorem dX4_init_20 : decode cX4_init 20 = .ok (.invokespecial 9, 3) := by decide +kernel
theorem dX4_init_23 : decode cX4_init 23 = .ok (.putfield 16, 3) := by decide +kernel
theorem dX4_init_26 : decode cX4_init 26 = .ok (.aload_n 0, 1) := by decide +kernel
theorem dX4_init_27 : decode cX4_init 27 = .ok (.new 19, 3) := by decide +kernel
theorem dX4_init_30 : decode cX4_init 30 = .ok (.dup, 1) := by decide +kernel
theorem dX4_init_31 : decode cX4_init 31 = .ok (.invokespecial 21, 3) := by decide +kernel
theorem dX4_init_34 : decode cX4_init 34 = .ok (.putfield 22, 3) := by decide +kernel
theorem dX4_init_37 : decode cX4_init 37 = .ok (.aload_n 0, 1) := by decide +kernel
theorem dX4_init_38 : decode cX4_init 38 = .ok (.iconst 2, 1) := by decide +kernel
theorem dX4_init_39 : decode cX4_init 39 = .ok (.anewarray 7, 3) := by decide +kernel
theorem dX4_init_42 : decode cX4_init 42 = .ok (.putfield 26, 3) := by decide +kernel
theorem dX4_init_45 : decode cX4_init 45 = .ok (.aload_n 0, 1) := by decide +kernel
theorem dX4_init_46 : decode cX4_init 46 = .ok (.iconst 2, 1) := by decide +kernel
theorem dX4_init_47 : decode cX4_init 47 = .ok (.newarray .boolean, 2) := by decide +kernel
theorem dX4_init_49 : decode cX4_init 49 = .ok (.putfield 30, 3) := by decide +kernel
theorem dX4_init_52 : decode cX4_init 52 = .ok (.aload_n 0, 1) := by decide +kernel
theorem dX4_init_53 : decode cX4_init 53 = .ok (.new 34, 3) := by decide +kernel
theorem dX4_init_56 : decode cX4_init 56 = .ok (.dup, 1) := by decide +kernel
theorem dX4_init_57 : decode cX4_init 57 = .ok (.invokespecial 36, 3) := by decide +kernel
theorem dX4_init_60 : decode cX4_init 60 = .ok (.putfield 37, 3) := by decide +kernel
theorem dX4_init_63 : decode cX4_init 63 = .ok (.aload_n 0, 1) := by decide +kernel
theorem dX4_init_64 : decode cX4_init 64 = .ok (.bipush 16, 2) := by decide +kernel
theorem dX4_init_66 : decode cX4_init 66 = .ok (.newarray .int, 2) := by decide +kernel
theorem dX4_init_68 : decode cX4_init 68 = .ok (.putfield 41, 3) := by decide +kernel
theorem dX4_init_71 : decode cX4_init 71 = .ok (.iconst 0, 1) := by decide +kernel
theorem dX4_init_72 : decode cX4_init 72 = .ok (.istore_n 1, 1) := by decide +kernel
theorem dX4_init_73 : decode cX4_init 73 = .ok (.iload_n 1, 1) := by decide +kernel
theorem dX4_init_74 : decode cX4_init 74 = .ok (.iconst 2, 1) := by decide +kernel
theorem dX4_init_75 : decode cX4_init 75 = .ok (.if_icmp .ge 22, 3) := by decide +kernel
theorem dX4_init_78 : decode cX4_init 78 = .ok (.aload_n 0, 1) := by decide +kernel
theorem dX4_init_79 : decode cX4_init 79 = .ok (.getfield 26, 3) := by decide +kernel
theorem dX4_init_82 : decode cX4_init 82 = .ok (.iload_n 1, 1) := by decide +kernel
theorem dX4_init_83 : decode cX4_init 83 = .ok (.new 7, 3) := by decide +kernel
theorem dX4_init_86 : decode cX4_init 86 = .ok (.dup, 1) := by decide +kernel
theorem dX4_init_87 : decode cX4_init 87 = .ok (.invokespecial 9, 3) := by decide +kernel
theorem dX4_init_90 : decode cX4_init 90 = .ok (.aastore, 1) := by decide +kernel
theorem dX4_init_91 : decode cX4_init 91 = .ok (.iinc 1 1, 3) := by decide +kernel
theorem dX4_init_94 : decode cX4_init 94 = .ok (.goto (-21), 3) := by decide +kernel
theorem dX4_init_97 : decode cX4_init 97 = .ok (.return_, 1) := by decide +kernel
set_option maxRecDepth 20000 in
theorem ggX4_cross_X4_isThread : GoodIn wsX4_cross wsX4_isThread := goodIn_r _ [9, 10, 11, 8, 12] (by decide +kernel) (by decide +kernel)
set_option maxRecDepth 20000 in
theorem gX4_cross_X4_isThread : GoodIn wsX4_cross (va_wsS RX4 45 yX4_isThread wsX4_isThread) := goodIn_app (goodIn_of _ (by decide +kernel)) ggX4_cross_X4_isThread
set_option maxRecDepth 20000 in
theorem ggX4_cross_X4_isRing : GoodIn wsX4_cross wsX4_isRing := goodIn_r _ [15, 10, 11, 8, 12] (by decide +kernel) (by decide +kernel)
set_option maxRecDepth 20000 in
theorem gX4_cross_X4_isRing : GoodIn wsX4_cross (va_wsS RX4 49 yX4_isRing wsX4_isRing) := goodIn_app (goodIn_of _ (by decide +kernel)) ggX4_cross_X4_isRing
set_option maxRecDepth 20000 in
theorem ggX4_cross_X1_push : GoodIn wsX4_cross wsX1_push := goodIn_r _ [20, 21, 22, 23, 24, 25, 26, 27, 28, 29, 30, 31, 32, 33, 34, 35, 36, 37, 38, 39, 40, 41, 42, 43, 44, 45, 46, 47, 48, 49, 50, 51, 52, 53, 91, 92, 93, 83, 84, 85, 86, 87, 88, 89, 90, 94, 95, 96, 97, 98, 99, 100] (by decide +kernel) (by decide +kernel)
set_option maxRecDepth 20000 in
theorem gX4_cross_X1_push : GoodIn wsX4_cross (wsV RX4 59 RX1 yX1_push wsX1_push) := goodIn_app (goodIn_of _ (by decide +kernel)) ggX4_cross_X1_push
set_option maxRecDepth 20000 in
theorem ggX4_cross_X2_layThrough : GoodIn wsX4_cross wsX2_layThrough := goodIn_r _ [57, 29, 39, 58, 59, 60, 27, 61, 35, 62, 63, 64, 65, 66, 8, 67, 68, 69, 70, 71, 72, 73, 74, 83, 84, 85, 86, 87, 88, 89, 90] (by decide +kernel) (by decide +kernel)
set_option maxRecDepth 20000 in
theorem gX4_cross_X2_layThrough : GoodIn wsX4_cross (wsV RX4 66 RX2 yX2_layThrough wsX2_layThrough) := goodIn_app (goodIn_of _ (by decide +kernel)) ggX4_cross_X2_layThrough
set_option maxRecDepth 20000 in
theorem ggX4_cross_X4_bit : GoodIn wsX4_cross wsX4_bit := goodIn_r _ [67] (by decide +kernel) (by decide +kernel)
set_option maxRecDepth 20000 in
theorem gX4_cross_X4_bit : GoodIn wsX4_cross (va_wsS RX4 70 yX4_bit wsX4_bit) := goodIn_app (goodIn_of _ (by decide +kernel)) ggX4_cross_X4_bit
theorem dX4_cross_0 : decode cX4_cross 0 = .ok (.iload_n 1, 1) := by decide +kernel
theorem dX4_cross_1 : decode cX4_cross 1 = .ok (.invokestatic 45, 3) := by decide +kernel
theorem dX4_cross_4 : decode cX4_cross 4 = .ok (.ifCond .eq 10, 3) := by decide +kernel
theorem dX4_cross_7 : decode cX4_cross 7 = .ok (.iload_n 2, 1) := by decide +kernel
theorem dX4_cross_8 : decode cX4_cross 8 = .ok (.invokestatic 49, 3) := by decide +kernel
theorem dX4_cross_11 : decode cX4_cross 11 = .ok (.ifCond .ne 13, 3) := by decide +kernel
theorem dX4_cross_14 : decode cX4_cross 14 = .ok (.new 52, 3) := by decide +kernel
theorem dX4_cross_17 : decode cX4_cross 17 = .ok (.dup, 1) := by decide +kernel
theorem dX4_cross_18 : decode cX4_cross 18 = .ok (.ldc 54, 2) := by decide +kernel
theorem dX4_cross_20 : decode cX4_cross 20 = .ok (.invokespecial 56, 3) := by decide +kernel
theorem dX4_cross_23 : decode cX4_cross 23 = .ok (.athrow, 1) := by decide +kernel
theorem dX4_cross_24 : decode cX4_cross 24 = .ok (.aload_n 0, 1) := by decide +kernel
theorem dX4_cross_25 : decode cX4_cross 25 = .ok (.getfield 22, 3) := by decide +kernel
theorem dX4_cross_28 : decode cX4_cross 28 = .ok (.aload_n 0, 1) := by decide +kernel
theorem dX4_cross_29 : decode cX4_cross 29 = .ok (.getfield 10, 3) := by decide +kernel
theorem dX4_cross_32 : decode cX4_cross 32 = .ok (.invokevirtual 59, 3) := by decide +kernel
theorem dX4_cross_35 : decode cX4_cross 35 = .ok (.aload_n 0, 1) := by decide +kernel
theorem dX4_cross_36 : decode cX4_cross 36 = .ok (.getfield 10, 3) := by decide +kernel
theorem dX4_cross_39 : decode cX4_cross 39 = .ok (.iload_n 1, 1) := by decide +kernel
theorem dX4_cross_40 : decode cX4_cross 40 = .ok (.aload_n 0, 1) := by decide +kernel
theorem dX4_cross_41 : decode cX4_cross 41 = .ok (.getfield 10, 3) := by decide +kernel
theorem dX4_cross_44 : decode cX4_cross 44 = .ok (.getfield 63, 3) := by decide +kernel
theorem dX4_cross_47 : decode cX4_cross 47 = .ok (.iload_n 1, 1) := by decide +kernel
theorem dX4_cross_48 : decode cX4_cross 48 = .ok (.iaload, 1) := by decide +kernel
theorem dX4_cross_49 : decode cX4_cross 49 = .ok (.iconst 1, 1) := by decide +kernel
theorem dX4_cross_50 : decode cX4_cross 50 = .ok (.iload_n 2, 1) := by decide +kernel
theorem dX4_cross_51 : decode cX4_cross 51 = .ok (.ishl, 1) := by decide +kernel
theorem dX4_cross_52 : decode cX4_cross 52 = .ok (.ixor, 1) := by decide +kernel
theorem dX4_cross_53 : decode cX4_cross 53 = .ok (.invokevirtual 66, 3) := by decide +kernel
theorem dX4_cross_56 : decode cX4_cross 56 = .ok (.pop, 1) := by decide +kernel
theorem dX4_cross_57 : decode cX4_cross 57 = .ok (.aload_n 0, 1) := by decide +kernel
theorem dX4_cross_58 : decode cX4_cross 58 = .ok (.getfield 10, 3) := by decide +kernel
theorem dX4_cross_61 : decode cX4_cross 61 = .ok (.getfield 63, 3) := by decide +kernel
theorem dX4_cross_64 : decode cX4_cross 64 = .ok (.iload_n 1, 1) := by decide +kernel
theorem dX4_cross_65 : decode cX4_cross 65 = .ok (.iaload, 1) := by decide +kernel
theorem dX4_cross_66 : decode cX4_cross 66 = .ok (.iload_n 2, 1) := by decide +kernel
theorem dX4_cross_67 : decode cX4_cross 67 = .ok (.invokestatic 70, 3) := by decide +kernel
theorem dX4_cross_70 : decode cX4_cross 70 = .ok (.ireturn, 1) := by decide +kernel
set_option maxRecDepth 20000 in
theorem ggX4_lay_X4_isThread : GoodIn wsX4_lay wsX4_isThread := goodIn_r _ [10, 11, 12, 9, 13] (by decide +kernel) (by decide +kernel)
set_option maxRecDepth 20000 in
theorem gX4_lay_X4_isThread : GoodIn wsX4_lay (va_wsS RX4 45 yX4_isThread wsX4_isThread) := goodIn_app (goodIn_of _ (by decide +kernel)) ggX4_lay_X4_isThread
set_option maxRecDepth 20000 in
theorem ggX4_lay_X4_isWithin : GoodIn wsX4_lay wsX4_isWithin := goodIn_r _ [13] (by decide +kernel) (by decide +kernel)
set_option maxRecDepth 20000 in
theorem gX4_lay_X4_isWithin : GoodIn wsX4_lay (va_wsS RX4 75 yX4_isWithin wsX4_isWithin) := goodIn_app (goodIn_of _ (by decide +kernel)) ggX4_lay_X4_isWithin
set_option maxRecDepth 20000 in
theorem ggX4_lay_X1_push : GoodIn wsX4_lay wsX1_push := goodIn_r _ [18, 19, 20, 21, 22, 23, 24, 25, 26, 27, 28, 29, 30, 31, 32, 33, 34, 35, 36, 37, 38, 39, 40, 41, 42, 43, 44, 45, 46, 47, 48, 49, 50, 51, 84, 85, 86, 87, 88, 89, 90, 91, 92, 93, 94, 95, 96, 97, 98, 99, 100, 101] (by decide +kernel) (by decide +kernel)
set_option maxRecDepth 20000 in
theorem gX4_lay_X1_push : GoodIn wsX4_lay (wsV RX4 59 RX1 yX1_push wsX1_push) := goodIn_app (goodIn_of _ (by decide +kernel)) ggX4_lay_X1_push
set_option maxRecDepth 20000 in
theorem ggX4_lay_X2_asWord : GoodIn wsX4_lay wsX2_asWord := goodIn_r _ [55, 34, 87, 88, 89, 90, 91, 92, 93, 94] (by decide +kernel) (by decide +kernel)
set_option maxRecDepth 20000 in
theorem gX4_lay_X2_asWord : GoodIn wsX4_lay (wsV RX4 84 RX2 yX2_asWord wsX2_asWord) := goodIn_app (goodIn_of _ (by decide +kernel)) ggX4_lay_X2_asWord
set_option maxRecDepth 20000 in
theorem ggX4_lay_X2_layThrough : GoodIn wsX4_lay wsX2_layThrough := goodIn_r _ [59, 27, 37, 60, 61, 62, 25, 63, 33, 64, 65, 66, 67, 68, 9, 69, 70, 71, 72, 73, 74, 75, 76, 87, 88, 89, 90, 91, 92, 93, 94] (by decide +kernel) (by decide +kernel)
set_option maxRecDepth 20000 in
theorem gX4_lay_X2_layThrough : GoodIn wsX4_lay (wsV RX4 66 RX2 yX2_layThrough wsX2_layThrough) := goodIn_app (goodIn_of _ (by decide +kernel)) ggX4_lay_X2_layThrough
theorem dX4_lay_0 : decode cX4_lay 0 = .ok (.iload_n 1, 1) := by decide +kernel
theorem dX4_lay_1 : decode cX4_lay 1 = .ok (.invokestatic 45, 3) := by decide +kernel
theorem dX4_lay_4 : decode cX4_lay 4 = .ok (.ifCond .ne 13, 3) := by decide +kernel
theorem dX4_lay_7 : decode cX4_lay 7 = .ok (.new 52, 3) := by decide +kernel
theorem dX4_lay_10 : decode cX4_lay 10 = .ok (.dup, 1) := by decide +kernel
theorem dX4_lay_11 : decode cX4_lay 11 = .ok (.ldc 73, 2) := by decide +kernel
theorem dX4_lay_13 : decode cX4_lay 13 = .ok (.invokespecial 56, 3) := by decide +kernel
theorem dX4_lay_16 : decode cX4_lay 16 = .ok (.athrow, 1) := by decide +kernel
theorem dX4_lay_17 : decode cX4_lay 17 = .ok (.iload_n 2, 1) := by decide +kernel
theorem dX4_lay_18 : decode cX4_lay 18 = .ok (.iconst 0, 1) := by decide +kernel
theorem dX4_lay_19 : decode cX4_lay 19 = .ok (.sipush 255, 3) := by decide +kernel
theorem dX4_lay_22 : decode cX4_lay 22 = .ok (.invokestatic 75, 3) := by decide +kernel
theorem dX4_lay_25 : decode cX4_lay 25 = .ok (.ifCond .ne 13, 3) := by decide +kernel
theorem dX4_lay_28 : decode cX4_lay 28 = .ok (.new 79, 3) := by decide +kernel
theorem dX4_lay_31 : decode cX4_lay 31 = .ok (.dup, 1) := by decide +kernel
theorem dX4_lay_32 : decode cX4_lay 32 = .ok (.ldc 81, 2) := by decide +kernel
theorem dX4_lay_34 : decode cX4_lay 34 = .ok (.invokespecial 83, 3) := by decide +kernel
theorem dX4_lay_37 : decode cX4_lay 37 = .ok (.athrow, 1) := by decide +kernel
theorem dX4_lay_38 : decode cX4_lay 38 = .ok (.aload_n 0, 1) := by decide +kernel
theorem dX4_lay_39 : decode cX4_lay 39 = .ok (.getfield 22, 3) := by decide +kernel
theorem dX4_lay_42 : decode cX4_lay 42 = .ok (.aload_n 0, 1) := by decide +kernel
theorem dX4_lay_43 : decode cX4_lay 43 = .ok (.getfield 10, 3) := by decide +kernel
theorem dX4_lay_46 : decode cX4_lay 46 = .ok (.invokevirtual 59, 3) := by decide +kernel
theorem dX4_lay_49 : decode cX4_lay 49 = .ok (.aload_n 0, 1) := by decide +kernel
theorem dX4_lay_50 : decode cX4_lay 50 = .ok (.getfield 10, 3) := by decide +kernel
theorem dX4_lay_53 : decode cX4_lay 53 = .ok (.iload_n 1, 1) := by decide +kernel
theorem dX4_lay_54 : decode cX4_lay 54 = .ok (.aload_n 0, 1) := by decide +kernel
theorem dX4_lay_55 : decode cX4_lay 55 = .ok (.getfield 10, 3) := by decide +kernel
theorem dX4_lay_58 : decode cX4_lay 58 = .ok (.iload_n 2, 1) := by decide +kernel
theorem dX4_lay_59 : decode cX4_lay 59 = .ok (.invokevirtual 84, 3) := by decide +kernel
theorem dX4_lay_62 : decode cX4_lay 62 = .ok (.invokevirtual 66, 3) := by decide +kernel
theorem dX4_lay_65 : decode cX4_lay 65 = .ok (.ireturn, 1) := by decide +kernel
set_option maxRecDepth 20000 in
theorem ggX4_guard_X4_isThread : GoodIn wsX4_guard wsX4_isThread := goodIn_r _ [9, 10, 11, 8, 12] (by decide +kernel) (by decide +kernel)
set_option maxRecDepth 20000 in
theorem gX4_guard_X4_isThread : GoodIn wsX4_guard (va_wsS RX4 45 yX4_isThread wsX4_isThread) := goodIn_app (goodIn_of _ (by decide +kernel)) ggX4_guard_X4_isThread
set_option maxRecDepth 20000 in
theorem ggX4_guard_X1_push : GoodIn wsX4_guard wsX1_push := goodIn_r _ [17, 18, 19, 20, 21, 22, 23, 24, 25, 26, 27, 28, 29, 30, 31, 32, 33, 34, 35, 36, 37, 38, 39, 40, 41, 42, 43, 44, 45, 46, 47, 48, 49, 50, 69, 70, 71, 61, 62, 63, 64, 65, 66, 67, 68, 72, 73, 74, 75, 76, 77, 78] (by decide +kernel) (by decide +kernel)
set_option maxRecDepth 20000 in
theorem gX4_guard_X1_push : GoodIn wsX4_guard (wsV RX4 59 RX1 yX1_push wsX1_push) := goodIn_app (goodIn_of _ (by decide +kernel)) ggX4_guard_X1_push
set_option maxRecDepth 20000 in
theorem ggX4_guard_X4_bit : GoodIn wsX4_guard wsX4_bit := goodIn_r _ [53] (by decide +kernel) (by decide +kernel)
set_option maxRecDepth 20000 in
theorem gX4_guard_X4_bit : GoodIn wsX4_guard (va_wsS RX4 70 yX4_bit wsX4_bit) := goodIn_app (goodIn_of _ (by decide +kernel)) ggX4_guard_X4_bit
theorem dX4_guard_0 : decode cX4_guard 0 = .ok (.iload_n 1, 1) := by decide +kernel
theorem dX4_guard_1 : decode cX4_guard 1 = .ok (.invokestatic 45, 3) := by decide +kernel
theorem dX4_guard_4 : decode cX4_guard 4 = .ok (.ifCond .ne 13, 3) := by decide +kernel
theorem dX4_guard_7 : decode cX4_guard 7 = .ok (.new 52, 3) := by decide +kernel
theorem dX4_guard_10 : decode cX4_guard 10 = .ok (.dup, 1) := by decide +kernel
theorem dX4_guard_11 : decode cX4_guard 11 = .ok (.ldc 73, 2) := by decide +kernel
theorem dX4_guard_13 : decode cX4_guard 13 = .ok (.invokespecial 56, 3) := by decide +kernel
theorem dX4_guard_16 : decode cX4_guard 16 = .ok (.athrow, 1) := by decide +kernel
theorem dX4_guard_17 : decode cX4_guard 17 = .ok (.aload_n 0, 1) := by decide +kernel
theorem dX4_guard_18 : decode cX4_guard 18 = .ok (.getfield 22, 3) := by decide +kernel
theorem dX4_guard_21 : decode cX4_guard 21 = .ok (.aload_n 0, 1) := by decide +kernel
theorem dX4_guard_22 : decode cX4_guard 22 = .ok (.getfield 10, 3) := by decide +kernel
theorem dX4_guard_25 : decode cX4_guard 25 = .ok (.invokevirtual 59, 3) := by decide +kernel
theorem dX4_guard_28 : decode cX4_guard 28 = .ok (.aload_n 0, 1) := by decide +kernel
theorem dX4_guard_29 : decode cX4_guard 29 = .ok (.getfield 10, 3) := by decide +kernel
theorem dX4_guard_32 : decode cX4_guard 32 = .ok (.aload_n 0, 1) := by decide +kernel
theorem dX4_guard_33 : decode cX4_guard 33 = .ok (.getfield 10, 3) := by decide +kernel
theorem dX4_guard_36 : decode cX4_guard 36 = .ok (.getfield 88, 3) := by decide +kernel
theorem dX4_guard_39 : decode cX4_guard 39 = .ok (.iconst 1, 1) := by decide +kernel
theorem dX4_guard_40 : decode cX4_guard 40 = .ok (.iload_n 1, 1) := by decide +kernel
theorem dX4_guard_41 : decode cX4_guard 41 = .ok (.ishl, 1) := by decide +kernel
theorem dX4_guard_42 : decode cX4_guard 42 = .ok (.ixor, 1) := by decide +kernel
theorem dX4_guard_43 : decode cX4_guard 43 = .ok (.putfield 88, 3) := by decide +kernel
theorem dX4_guard_46 : decode cX4_guard 46 = .ok (.aload_n 0, 1) := by decide +kernel
theorem dX4_guard_47 : decode cX4_guard 47 = .ok (.getfield 10, 3) := by decide +kernel
theorem dX4_guard_50 : decode cX4_guard 50 = .ok (.getfield 88, 3) := by decide +kernel
theorem dX4_guard_53 : decode cX4_guard 53 = .ok (.iload_n 1, 1) := by decide +kernel
theorem dX4_guard_54 : decode cX4_guard 54 = .ok (.invokestatic 70, 3) := by decide +kernel
theorem dX4_guard_57 : decode cX4_guard 57 = .ok (.ireturn, 1) := by decide +kernel
set_option maxRecDepth 20000 in
theorem ggX4_change_X4_isRing : GoodIn wsX4_change wsX4_isRing := goodIn_r _ [8, 9, 10, 7, 11] (by decide +kernel) (by decide +kernel)
set_option maxRecDepth 20000 in
theorem gX4_change_X4_isRing : GoodIn wsX4_change (va_wsS RX4 49 yX4_isRing wsX4_isRing) := goodIn_app (goodIn_of _ (by decide +kernel)) ggX4_change_X4_isRing
set_option maxRecDepth 20000 in
theorem ggX4_change_X1_push : GoodIn wsX4_change wsX1_push := goodIn_r _ [16, 17, 18, 19, 20, 21, 22, 23, 24, 25, 26, 27, 28, 29, 30, 31, 32, 33, 34, 35, 36, 37, 38, 39, 40, 41, 42, 43, 44, 45, 46, 47, 48, 49, 74, 75, 76, 77, 78, 79, 80, 81, 82, 83, 84, 85, 86, 87, 88, 89, 90, 91] (by decide +kernel) (by decide +kernel)
set_option maxRecDepth 20000 in
theorem gX4_change_X1_push : GoodIn wsX4_change (wsV RX4 59 RX1 yX1_push wsX1_push) := goodIn_app (goodIn_of _ (by decide +kernel)) ggX4_change_X1_push
set_option maxRecDepth 20000 in
theorem ggX4_change_X2_renewRing : GoodIn wsX4_change wsX2_renewRing := goodIn_r _ [53, 25, 31, 54, 55, 56, 23, 57, 58, 7, 59, 60, 61, 62, 63, 64, 65, 66, 77, 78, 79, 80, 81, 82, 83, 84] (by decide +kernel) (by decide +kernel)
set_option maxRecDepth 20000 in
theorem gX4_change_X2_renewRing : GoodIn wsX4_change (wsV RX4 94 RX2 yX2_renewRing wsX2_renewRing) := goodIn_app (goodIn_of _ (by decide +kernel)) ggX4_change_X2_renewRing
theorem dX4_change_0 : decode cX4_change 0 = .ok (.iload_n 1, 1) := by decide +kernel
theorem dX4_change_1 : decode cX4_change 1 = .ok (.invokestatic 49, 3) := by decide +kernel
theorem dX4_change_4 : decode cX4_change 4 = .ok (.ifCond .ne 13, 3) := by decide +kernel
theorem dX4_change_7 : decode cX4_change 7 = .ok (.new 52, 3) := by decide +kernel
theorem dX4_change_10 : decode cX4_change 10 = .ok (.dup, 1) := by decide +kernel
theorem dX4_change_11 : decode cX4_change 11 = .ok (.ldc 92, 2) := by decide +kernel
theorem dX4_change_13 : decode cX4_change 13 = .ok (.invokespecial 56, 3) := by decide +kernel
theorem dX4_change_16 : decode cX4_change 16 = .ok (.athrow, 1) := by decide +kernel
theorem dX4_change_17 : decode cX4_change 17 = .ok (.aload_n 0, 1) := by decide +kernel
theorem dX4_change_18 : decode cX4_change 18 = .ok (.getfield 22, 3) := by decide +kernel
theorem dX4_change_21 : decode cX4_change 21 = .ok (.aload_n 0, 1) := by decide +kernel
theorem dX4_change_22 : decode cX4_change 22 = .ok (.getfield 10, 3) := by decide +kernel
theorem dX4_change_25 : decode cX4_change 25 = .ok (.invokevirtual 59, 3) := by decide +kernel
theorem dX4_change_28 : decode cX4_change 28 = .ok (.aload_n 0, 1) := by decide +kernel
theorem dX4_change_29 : decode cX4_change 29 = .ok (.getfield 10, 3) := by decide +kernel
theorem dX4_change_32 : decode cX4_change 32 = .ok (.iload_n 1, 1) := by decide +kernel
theorem dX4_change_33 : decode cX4_change 33 = .ok (.invokevirtual 94, 3) := by decide +kernel
theorem dX4_change_36 : decode cX4_change 36 = .ok (.ireturn, 1) := by decide +kernel
set_option maxRecDepth 20000 in
theorem ggX4_set_X4_isSetting : GoodIn wsX4_set wsX4_isSetting := goodIn_r _ [11, 12, 13, 10, 14] (by decide +kernel) (by decide +kernel)
set_option maxRecDepth 20000 in
theorem gX4_set_X4_isSetting : GoodIn wsX4_set (va_wsS RX4 97 yX4_isSetting wsX4_isSetting) := goodIn_app (goodIn_of _ (by decide +kernel)) ggX4_set_X4_isSetting
set_option maxRecDepth 20000 in
theorem ggX4_set_X4_isWithin : GoodIn wsX4_set wsX4_isWithin := goodIn_r _ [14] (by decide +kernel) (by decide +kernel)
set_option maxRecDepth 20000 in
theorem gX4_set_X4_isWithin : GoodIn wsX4_set (va_wsS RX4 75 yX4_isWithin wsX4_isWithin) := goodIn_app (goodIn_of _ (by decide +kernel)) ggX4_set_X4_isWithin
set_option maxRecDepth 20000 in
theorem ggX4_set_X1_push : GoodIn wsX4_set wsX1_push := goodIn_r _ [19, 20, 21, 22, 23, 24, 25, 26, 27, 28, 29, 30, 31, 32, 33, 34, 35, 36, 37, 38, 39, 40, 41, 42, 43, 44, 45, 46, 47, 48, 49, 50, 51, 52, 68, 69, 70, 60, 61, 62, 63, 64, 65, 66, 67, 71, 72, 73, 74, 75, 76, 77] (by decide +kernel) (by decide +kernel)
set_option maxRecDepth 20000 in
theorem gX4_set_X1_push : GoodIn wsX4_set (wsV RX4 59 RX1 yX1_push wsX1_push) := goodIn_app (goodIn_of _ (by decide +kernel)) ggX4_set_X1_push
theorem dX4_set_0 : decode cX4_set 0 = .ok (.iload_n 1, 1) := by decide +kernel
theorem dX4_set_1 : decode cX4_set 1 = .ok (.invokestatic 97, 3) := by decide +kernel
theorem dX4_set_4 : decode cX4_set 4 = .ok (.ifCond .ne 13, 3) := by decide +kernel
theorem dX4_set_7 : decode cX4_set 7 = .ok (.new 52, 3) := by decide +kernel
theorem dX4_set_10 : decode cX4_set 10 = .ok (.dup, 1) := by decide +kernel
theorem dX4_set_11 : decode cX4_set 11 = .ok (.ldc 100, 2) := by decide +kernel
theorem dX4_set_13 : decode cX4_set 13 = .ok (.invokespecial 56, 3) := by decide +kernel
theorem dX4_set_16 : decode cX4_set 16 = .ok (.athrow, 1) := by decide +kernel
theorem dX4_set_17 : decode cX4_set 17 = .ok (.iload_n 2, 1) := by decide +kernel
theorem dX4_set_18 : decode cX4_set 18 = .ok (.iload_n 1, 1) := by decide +kernel
theorem dX4_set_19 : decode cX4_set 19 = .ok (.ifCond .ne 7, 3) := by decide +kernel
theorem dX4_set_22 : decode cX4_set 22 = .ok (.iconst 1, 1) := by decide +kernel
theorem dX4_set_23 : decode cX4_set 23 = .ok (.goto 4, 3) := by decide +kernel
theorem dX4_set_26 : decode cX4_set 26 = .ok (.iconst 0, 1) := by decide +kernel
theorem dX4_set_27 : decode cX4_set 27 = .ok (.iload_n 1, 1) := by decide +kernel
theorem dX4_set_28 : decode cX4_set 28 = .ok (.ifCond .ne 8, 3) := by decide +kernel
theorem dX4_set_31 : decode cX4_set 31 = .ok (.bipush 8, 2) := by decide +kernel
theorem dX4_set_33 : decode cX4_set 33 = .ok (.goto 4, 3) := by decide +kernel
theorem dX4_set_36 : decode cX4_set 36 = .ok (.iconst 1, 1) := by decide +kernel
theorem dX4_set_37 : decode cX4_set 37 = .ok (.invokestatic 75, 3) := by decide +kernel
theorem dX4_set_40 : decode cX4_set 40 = .ok (.ifCond .ne 13, 3) := by decide +kernel
theorem dX4_set_43 : decode cX4_set 43 = .ok (.new 79, 3) := by decide +kernel
theorem dX4_set_46 : decode cX4_set 46 = .ok (.dup, 1) := by decide +kernel
theorem dX4_set_47 : decode cX4_set 47 = .ok (.ldc 102, 2) := by decide +kernel
theorem dX4_set_49 : decode cX4_set 49 = .ok (.invokespecial 83, 3) := by decide +kernel
theorem dX4_set_52 : decode cX4_set 52 = .ok (.athrow, 1) := by decide +kernel
theorem dX4_set_53 : decode cX4_set 53 = .ok (.aload_n 0, 1) := by decide +kernel
theorem dX4_set_54 : decode cX4_set 54 = .ok (.getfield 22, 3) := by decide +kernel
theorem dX4_set_57 : decode cX4_set 57 = .ok (.aload_n 0, 1) := by decide +kernel
theorem dX4_set_58 : decode cX4_set 58 = .ok (.getfield 10, 3) := by decide +kernel
theorem dX4_set_61 : decode cX4_set 61 = .ok (.invokevirtual 59, 3) := by decide +kernel
theorem dX4_set_64 : decode cX4_set 64 = .ok (.aload_n 0, 1) := by decide +kernel
theorem dX4_set_65 : decode cX4_set 65 = .ok (.getfield 10, 3) := by decide +kernel
theorem dX4_set_68 : decode cX4_set 68 = .ok (.getfield 104, 3) := by decide +kernel
