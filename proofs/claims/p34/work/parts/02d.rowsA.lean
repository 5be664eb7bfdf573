theorem dX4_ringOf_13 : decode cX4_ringOf 13 = .ok (.invokespecial 56, 3) := by decide +kernel
theorem dX4_ringOf_16 : decode cX4_ringOf 16 = .ok (.athrow, 1) := by decide +kernel
theorem dX4_ringOf_17 : decode cX4_ringOf 17 = .ok (.iload_n 2, 1) := by decide +kernel
theorem dX4_ringOf_18 : decode cX4_ringOf 18 = .ok (.tableswitch 91 0 4 #[34, 44, 53, 65, 74], 34) := by decide +kernel
theorem dX4_ringOf_52 : decode cX4_ringOf 52 = .ok (.aload_n 0, 1) := by decide +kernel
theorem dX4_ringOf_53 : decode cX4_ringOf 53 = .ok (.getfield 10, 3) := by decide +kernel
theorem dX4_ringOf_56 : decode cX4_ringOf 56 = .ok (.getfield 202, 3) := by decide +kernel
theorem dX4_ringOf_59 : decode cX4_ringOf 59 = .ok (.iload_n 1, 1) := by decide +kernel
theorem dX4_ringOf_60 : decode cX4_ringOf 60 = .ok (.iaload, 1) := by decide +kernel
theorem dX4_ringOf_61 : decode cX4_ringOf 61 = .ok (.ireturn, 1) := by decide +kernel
theorem dX4_ringOf_62 : decode cX4_ringOf 62 = .ok (.aload_n 0, 1) := by decide +kernel
theorem dX4_ringOf_63 : decode cX4_ringOf 63 = .ok (.getfield 10, 3) := by decide +kernel
theorem dX4_ringOf_66 : decode cX4_ringOf 66 = .ok (.iload_n 1, 1) := by decide +kernel
theorem dX4_ringOf_67 : decode cX4_ringOf 67 = .ok (.invokevirtual 205, 3) := by decide +kernel
theorem dX4_ringOf_70 : decode cX4_ringOf 70 = .ok (.ireturn, 1) := by decide +kernel
theorem dX4_ringOf_71 : decode cX4_ringOf 71 = .ok (.aload_n 0, 1) := by decide +kernel
theorem dX4_ringOf_72 : decode cX4_ringOf 72 = .ok (.getfield 10, 3) := by decide +kernel
theorem dX4_ringOf_75 : decode cX4_ringOf 75 = .ok (.iload_n 1, 1) := by decide +kernel
theorem dX4_ringOf_76 : decode cX4_ringOf 76 = .ok (.invokevirtual 205, 3) := by decide +kernel
theorem dX4_ringOf_79 : decode cX4_ringOf 79 = .ok (.invokestatic 189, 3) := by decide +kernel
theorem dX4_ringOf_82 : decode cX4_ringOf 82 = .ok (.ireturn, 1) := by decide +kernel
theorem dX4_ringOf_83 : decode cX4_ringOf 83 = .ok (.aload_n 0, 1) := by decide +kernel
theorem dX4_ringOf_84 : decode cX4_ringOf 84 = .ok (.getfield 10, 3) := by decide +kernel
theorem dX4_ringOf_87 : decode cX4_ringOf 87 = .ok (.iload_n 1, 1) := by decide +kernel
theorem dX4_ringOf_88 : decode cX4_ringOf 88 = .ok (.invokevirtual 208, 3) := by decide +kernel
theorem dX4_ringOf_91 : decode cX4_ringOf 91 = .ok (.ireturn, 1) := by decide +kernel
theorem dX4_ringOf_92 : decode cX4_ringOf 92 = .ok (.aload_n 0, 1) := by decide +kernel
theorem dX4_ringOf_93 : decode cX4_ringOf 93 = .ok (.getfield 10, 3) := by decide +kernel
theorem dX4_ringOf_96 : decode cX4_ringOf 96 = .ok (.iload_n 1, 1) := by decide +kernel
theorem dX4_ringOf_97 : decode cX4_ringOf 97 = .ok (.invokevirtual 211, 3) := by decide +kernel
theorem dX4_ringOf_100 : decode cX4_ringOf 100 = .ok (.ifCond .eq 7, 3) := by decide +kernel
theorem dX4_ringOf_103 : decode cX4_ringOf 103 = .ok (.iconst 1, 1) := by decide +kernel
theorem dX4_ringOf_104 : decode cX4_ringOf 104 = .ok (.goto 4, 3) := by decide +kernel
theorem dX4_ringOf_107 : decode cX4_ringOf 107 = .ok (.iconst 0, 1) := by decide +kernel
theorem dX4_ringOf_108 : decode cX4_ringOf 108 = .ok (.ireturn, 1) := by decide +kernel
theorem dX4_ringOf_109 : decode cX4_ringOf 109 = .ok (.new 79, 3) := by decide +kernel
theorem dX4_ringOf_112 : decode cX4_ringOf 112 = .ok (.dup, 1) := by decide +kernel
theorem dX4_ringOf_113 : decode cX4_ringOf 113 = .ok (.ldc 214, 2) := by decide +kernel
theorem dX4_ringOf_115 : decode cX4_ringOf 115 = .ok (.invokespecial 83, 3) := by decide +kernel
theorem dX4_ringOf_118 : decode cX4_ringOf 118 = .ok (.athrow, 1) := by decide +kernel
set_option maxRecDepth 20000 in
theorem ggX4_strength_X4_isThread : GoodIn wsX4_strength wsX4_isThread := goodIn_r _ [9, 10, 11, 8, 12] (by decide +kernel) (by decide +kernel)
set_option maxRecDepth 20000 in
theorem gX4_strength_X4_isThread : GoodIn wsX4_strength (va_wsS RX4 45 yX4_isThread wsX4_isThread) := goodIn_app (goodIn_of _ (by decide +kernel)) ggX4_strength_X4_isThread
set_option maxRecDepth 20000 in
theorem ggX4_strength_X4_isRing : GoodIn wsX4_strength wsX4_isRing := goodIn_r _ [15, 10, 11, 8, 12] (by decide +kernel) (by decide +kernel)
set_option maxRecDepth 20000 in
theorem gX4_strength_X4_isRing : GoodIn wsX4_strength (va_wsS RX4 49 yX4_isRing wsX4_isRing) := goodIn_app (goodIn_of _ (by decide +kernel)) ggX4_strength_X4_isRing
set_option maxRecDepth 20000 in
theorem ggX4_strength_X2_hops : GoodIn wsX4_strength wsX2_hops := goodIn_r _ [20, 21, 22, 8, 23, 24, 25, 26, 19, 27, 28, 45, 46, 47, 48, 49, 50, 51, 52] (by decide +kernel) (by decide +kernel)
set_option maxRecDepth 20000 in
theorem gX4_strength_X2_hops : GoodIn wsX4_strength (wsV RX4 216 RX2 yX2_hops wsX2_hops) := goodIn_app (goodIn_of _ (by decide +kernel)) ggX4_strength_X2_hops
set_option maxRecDepth 20000 in
theorem ggX4_strength_X2_strengthAt : GoodIn wsX4_strength wsX2_strengthAt := goodIn_r _ [32, 33, 34, 35, 36, 37, 45, 46, 47, 48, 49, 50, 51, 52] (by decide +kernel) (by decide +kernel)
set_option maxRecDepth 20000 in
theorem gX4_strength_X2_strengthAt : GoodIn wsX4_strength (wsV RX4 219 RX2 yX2_strengthAt wsX2_strengthAt) := goodIn_app (goodIn_of _ (by decide +kernel)) ggX4_strength_X2_strengthAt
theorem dX4_strength_0 : decode cX4_strength 0 = .ok (.iload_n 1, 1) := by decide +kernel
theorem dX4_strength_1 : decode cX4_strength 1 = .ok (.invokestatic 45, 3) := by decide +kernel
theorem dX4_strength_4 : decode cX4_strength 4 = .ok (.ifCond .eq 10, 3) := by decide +kernel
theorem dX4_strength_7 : decode cX4_strength 7 = .ok (.iload_n 2, 1) := by decide +kernel
theorem dX4_strength_8 : decode cX4_strength 8 = .ok (.invokestatic 49, 3) := by decide +kernel
theorem dX4_strength_11 : decode cX4_strength 11 = .ok (.ifCond .ne 13, 3) := by decide +kernel
theorem dX4_strength_14 : decode cX4_strength 14 = .ok (.new 52, 3) := by decide +kernel
theorem dX4_strength_17 : decode cX4_strength 17 = .ok (.dup, 1) := by decide +kernel
theorem dX4_strength_18 : decode cX4_strength 18 = .ok (.ldc 54, 2) := by decide +kernel
theorem dX4_strength_20 : decode cX4_strength 20 = .ok (.invokespecial 56, 3) := by decide +kernel
theorem dX4_strength_23 : decode cX4_strength 23 = .ok (.athrow, 1) := by decide +kernel
theorem dX4_strength_24 : decode cX4_strength 24 = .ok (.iload_n 3, 1) := by decide +kernel
theorem dX4_strength_25 : decode cX4_strength 25 = .ok (.lookupswitch 55 #[(0, 27), (1, 45)], 27) := by decide +kernel
theorem dX4_strength_52 : decode cX4_strength 52 = .ok (.aload_n 0, 1) := by decide +kernel
theorem dX4_strength_53 : decode cX4_strength 53 = .ok (.getfield 10, 3) := by decide +kernel
theorem dX4_strength_56 : decode cX4_strength 56 = .ok (.iload_n 2, 1) := by decide +kernel
theorem dX4_strength_57 : decode cX4_strength 57 = .ok (.aload_n 0, 1) := by decide +kernel
theorem dX4_strength_58 : decode cX4_strength 58 = .ok (.getfield 10, 3) := by decide +kernel
theorem dX4_strength_61 : decode cX4_strength 61 = .ok (.iload_n 1, 1) := by decide +kernel
theorem dX4_strength_62 : decode cX4_strength 62 = .ok (.iload_n 2, 1) := by decide +kernel
theorem dX4_strength_63 : decode cX4_strength 63 = .ok (.invokevirtual 216, 3) := by decide +kernel
theorem dX4_strength_66 : decode cX4_strength 66 = .ok (.invokevirtual 219, 3) := by decide +kernel
theorem dX4_strength_69 : decode cX4_strength 69 = .ok (.ireturn, 1) := by decide +kernel
theorem dX4_strength_70 : decode cX4_strength 70 = .ok (.aload_n 0, 1) := by decide +kernel
theorem dX4_strength_71 : decode cX4_strength 71 = .ok (.getfield 10, 3) := by decide +kernel
theorem dX4_strength_74 : decode cX4_strength 74 = .ok (.iload_n 1, 1) := by decide +kernel
theorem dX4_strength_75 : decode cX4_strength 75 = .ok (.iload_n 2, 1) := by decide +kernel
theorem dX4_strength_76 : decode cX4_strength 76 = .ok (.invokevirtual 216, 3) := by decide +kernel
theorem dX4_strength_79 : decode cX4_strength 79 = .ok (.ireturn, 1) := by decide +kernel
theorem dX4_strength_80 : decode cX4_strength 80 = .ok (.new 79, 3) := by decide +kernel
theorem dX4_strength_83 : decode cX4_strength 83 = .ok (.dup, 1) := by decide +kernel
theorem dX4_strength_84 : decode cX4_strength 84 = .ok (.ldc 222, 2) := by decide +kernel
theorem dX4_strength_86 : decode cX4_strength 86 = .ok (.invokespecial 83, 3) := by decide +kernel
theorem dX4_strength_89 : decode cX4_strength 89 = .ok (.athrow, 1) := by decide +kernel
theorem dX4_machine_0 : decode cX4_machine 0 = .ok (.iload_n 1, 1) := by decide +kernel
theorem dX4_machine_1 : decode cX4_machine 1 = .ok (.tableswitch 129 0 8 #[51, 62, 73, 73, 73, 73, 88, 107, 118], 51) := by decide +kernel
theorem dX4_machine_52 : decode cX4_machine 52 = .ok (.aload_n 0, 1) := by decide +kernel
theorem dX4_machine_53 : decode cX4_machine 53 = .ok (.getfield 10, 3) := by decide +kernel
theorem dX4_machine_56 : decode cX4_machine 56 = .ok (.getfield 110, 3) := by decide +kernel
theorem dX4_machine_59 : decode cX4_machine 59 = .ok (.getfield 224, 3) := by decide +kernel
theorem dX4_machine_62 : decode cX4_machine 62 = .ok (.ireturn, 1) := by decide +kernel
theorem dX4_machine_63 : decode cX4_machine 63 = .ok (.aload_n 0, 1) := by decide +kernel
theorem dX4_machine_64 : decode cX4_machine 64 = .ok (.getfield 10, 3) := by decide +kernel
theorem dX4_machine_67 : decode cX4_machine 67 = .ok (.getfield 110, 3) := by decide +kernel
theorem dX4_machine_70 : decode cX4_machine 70 = .ok (.getfield 227, 3) := by decide +kernel
theorem dX4_machine_73 : decode cX4_machine 73 = .ok (.ireturn, 1) := by decide +kernel
theorem dX4_machine_74 : decode cX4_machine 74 = .ok (.aload_n 0, 1) := by decide +kernel
theorem dX4_machine_75 : decode cX4_machine 75 = .ok (.getfield 10, 3) := by decide +kernel
theorem dX4_machine_78 : decode cX4_machine 78 = .ok (.getfield 110, 3) := by decide +kernel
theorem dX4_machine_81 : decode cX4_machine 81 = .ok (.getfield 230, 3) := by decide +kernel
theorem dX4_machine_84 : decode cX4_machine 84 = .ok (.iload_n 1, 1) := by decide +kernel
theorem dX4_machine_85 : decode cX4_machine 85 = .ok (.iconst 2, 1) := by decide +kernel
theorem dX4_machine_86 : decode cX4_machine 86 = .ok (.isub, 1) := by decide +kernel
theorem dX4_machine_87 : decode cX4_machine 87 = .ok (.iaload, 1) := by decide +kernel
theorem dX4_machine_88 : decode cX4_machine 88 = .ok (.ireturn, 1) := by decide +kernel
theorem dX4_machine_89 : decode cX4_machine 89 = .ok (.aload_n 0, 1) := by decide +kernel
theorem dX4_machine_90 : decode cX4_machine 90 = .ok (.getfield 10, 3) := by decide +kernel
theorem dX4_machine_93 : decode cX4_machine 93 = .ok (.getfield 110, 3) := by decide +kernel
theorem dX4_machine_96 : decode cX4_machine 96 = .ok (.getfield 233, 3) := by decide +kernel
theorem dX4_machine_99 : decode cX4_machine 99 = .ok (.ifCond .eq 7, 3) := by decide +kernel
theorem dX4_machine_102 : decode cX4_machine 102 = .ok (.iconst 1, 1) := by decide +kernel
theorem dX4_machine_103 : decode cX4_machine 103 = .ok (.goto 4, 3) := by decide +kernel
theorem dX4_machine_106 : decode cX4_machine 106 = .ok (.iconst 0, 1) := by decide +kernel
theorem dX4_machine_107 : decode cX4_machine 107 = .ok (.ireturn, 1) := by decide +kernel
theorem dX4_machine_108 : decode cX4_machine 108 = .ok (.aload_n 0, 1) := by decide +kernel
theorem dX4_machine_109 : decode cX4_machine 109 = .ok (.getfield 10, 3) := by decide +kernel
theorem dX4_machine_112 : decode cX4_machine 112 = .ok (.getfield 110, 3) := by decide +kernel
theorem dX4_machine_115 : decode cX4_machine 115 = .ok (.getfield 114, 3) := by decide +kernel
theorem dX4_machine_118 : decode cX4_machine 118 = .ok (.ireturn, 1) := by decide +kernel
theorem dX4_machine_119 : decode cX4_machine 119 = .ok (.aload_n 0, 1) := by decide +kernel
theorem dX4_machine_120 : decode cX4_machine 120 = .ok (.getfield 10, 3) := by decide +kernel
theorem dX4_machine_123 : decode cX4_machine 123 = .ok (.getfield 110, 3) := by decide +kernel
theorem dX4_machine_126 : decode cX4_machine 126 = .ok (.getfield 237, 3) := by decide +kernel
theorem dX4_machine_129 : decode cX4_machine 129 = .ok (.ireturn, 1) := by decide +kernel
theorem dX4_machine_130 : decode cX4_machine 130 = .ok (.new 79, 3) := by decide +kernel
theorem dX4_machine_133 : decode cX4_machine 133 = .ok (.dup, 1) := by decide +kernel
theorem dX4_machine_134 : decode cX4_machine 134 = .ok (.ldc 240, 2) := by decide +kernel
theorem dX4_machine_136 : decode cX4_machine 136 = .ok (.invokespecial 83, 3) := by decide +kernel
theorem dX4_machine_139 : decode cX4_machine 139 = .ok (.athrow, 1) := by decide +kernel
set_option maxRecDepth 20000 in
theorem ggX4_told_X4_isWithin : GoodIn wsX4_told wsX4_isWithin := goodIn_r _ [9] (by decide +kernel) (by decide +kernel)
set_option maxRecDepth 20000 in
theorem gX4_told_X4_isWithin : GoodIn wsX4_told (va_wsS RX4 75 yX4_isWithin wsX4_isWithin) := goodIn_app (goodIn_of _ (by decide +kernel)) ggX4_told_X4_isWithin
theorem dX4_told_0 : decode cX4_told 0 = .ok (.iload_n 1, 1) := by decide +kernel
theorem dX4_told_1 : decode cX4_told 1 = .ok (.iconst 0, 1) := by decide +kernel
theorem dX4_told_2 : decode cX4_told 2 = .ok (.bipush 7, 2) := by decide +kernel
theorem dX4_told_4 : decode cX4_told 4 = .ok (.invokestatic 75, 3) := by decide +kernel
theorem dX4_told_7 : decode cX4_told 7 = .ok (.ifCond .ne 13, 3) := by decide +kernel
theorem dX4_told_10 : decode cX4_told 10 = .ok (.new 79, 3) := by decide +kernel
theorem dX4_told_13 : decode cX4_told 13 = .ok (.dup, 1) := by decide +kernel
theorem dX4_told_14 : decode cX4_told 14 = .ok (.ldc 242, 2) := by decide +kernel
theorem dX4_told_16 : decode cX4_told 16 = .ok (.invokespecial 83, 3) := by decide +kernel
theorem dX4_told_19 : decode cX4_told 19 = .ok (.athrow, 1) := by decide +kernel
theorem dX4_told_20 : decode cX4_told 20 = .ok (.aload_n 0, 1) := by decide +kernel
theorem dX4_told_21 : decode cX4_told 21 = .ok (.getfield 10, 3) := by decide +kernel
theorem dX4_told_24 : decode cX4_told 24 = .ok (.getfield 110, 3) := by decide +kernel
theorem dX4_told_27 : decode cX4_told 27 = .ok (.getfield 244, 3) := by decide +kernel
theorem dX4_told_30 : decode cX4_told 30 = .ok (.iload_n 1, 1) := by decide +kernel
theorem dX4_told_31 : decode cX4_told 31 = .ok (.iaload, 1) := by decide +kernel
theorem dX4_told_32 : decode cX4_told 32 = .ok (.ireturn, 1) := by decide +kernel
set_option maxRecDepth 20000 in
theorem ggX4_count_X2_crossingsByThreads : GoodIn wsX4_count wsX2_crossingsByThreads := goodIn_r _ [13, 14, 15, 16, 17, 18, 19, 20, 21, 88, 89, 90, 91, 92, 93, 94, 95] (by decide +kernel) (by decide +kernel)
set_option maxRecDepth 20000 in
theorem gX4_count_X2_crossingsByThreads : GoodIn wsX4_count (wsV RX4 173 RX2 yX2_crossingsByThreads wsX2_crossingsByThreads) := goodIn_app (goodIn_of _ (by decide +kernel)) ggX4_count_X2_crossingsByThreads
set_option maxRecDepth 20000 in
theorem ggX4_count_X2_crossingsByRings : GoodIn wsX4_count wsX2_crossingsByRings := goodIn_r _ [25, 26, 27, 28, 12, 29, 14, 30, 31, 32, 15, 16, 17, 18, 19, 20, 21, 88, 89, 90, 91, 92, 93, 94, 95] (by decide +kernel) (by decide +kernel)
set_option maxRecDepth 20000 in
theorem gX4_count_X2_crossingsByRings : GoodIn wsX4_count (wsV RX4 247 RX2 yX2_crossingsByRings wsX2_crossingsByRings) := goodIn_app (goodIn_of _ (by decide +kernel)) ggX4_count_X2_crossingsByRings
set_option maxRecDepth 20000 in
theorem ggX4_count_X2_threadsRight : GoodIn wsX4_count wsX2_threadsRight := goodIn_r _ [36, 14, 37, 38, 39, 12, 40, 41, 30, 31, 32, 42, 43, 44, 45, 46, 47, 48, 49, 50, 51, 52, 53, 54, 55, 88, 89, 90, 91, 92, 93, 94, 95] (by decide +kernel) (by decide +kernel)
set_option maxRecDepth 20000 in
theorem gX4_count_X2_threadsRight : GoodIn wsX4_count (wsV RX4 256 RX2 yX2_threadsRight wsX2_threadsRight) := goodIn_app (goodIn_of _ (by decide +kernel)) ggX4_count_X2_threadsRight
set_option maxRecDepth 20000 in
theorem ggX4_count_J6_bitCount_0f7a4 : GoodIn wsX4_count wsJ6_bitCount_0f7a4 := goodIn_r _ [18, 19, 20, 21] (by decide +kernel) (by decide +kernel)
set_option maxRecDepth 20000 in
theorem gX4_count_J6_bitCount_0f7a4 : GoodIn wsX4_count (va_wsS RX4 189 yJ6_bitCount_0f7a4 wsJ6_bitCount_0f7a4) := goodIn_app (goodIn_of _ (by decide +kernel)) ggX4_count_J6_bitCount_0f7a4
set_option maxRecDepth 20000 in
theorem ggX4_count_X2_greatestWear : GoodIn wsX4_count wsX2_greatestWear := goodIn_r _ [60, 50, 46, 47, 48, 49, 88, 89, 90, 91, 92, 93, 94, 95] (by decide +kernel) (by decide +kernel)
set_option maxRecDepth 20000 in
theorem gX4_count_X2_greatestWear : GoodIn wsX4_count (wsV RX4 259 RX2 yX2_greatestWear wsX2_greatestWear) := goodIn_app (goodIn_of _ (by decide +kernel)) ggX4_count_X2_greatestWear
set_option maxRecDepth 20000 in
theorem ggX4_count_X4_pairsTellingTheSame : GoodIn wsX4_count wsX4_pairsTellingTheSame := goodIn_r _ [64, 65, 3, 66, 67, 68, 12, 69, 37, 38, 39, 40, 14, 41, 30, 31, 32, 42, 43, 44, 45, 46, 47, 48, 49, 50, 51, 52, 53, 54, 55, 70, 71, 72, 73, 81, 82, 83, 84, 85, 86, 87, 88, 89, 90, 91, 92, 93, 94, 95] (by decide +kernel) (by decide +kernel)
set_option maxRecDepth 20000 in
theorem gX4_count_X4_pairsTellingTheSame : GoodIn wsX4_count (wsV RX4 262 RX4 yX4_pairsTellingTheSame wsX4_pairsTellingTheSame) := goodIn_app (goodIn_of _ (by decide +kernel)) ggX4_count_X4_pairsTellingTheSame
set_option maxRecDepth 20000 in
theorem ggX4_count_X2_fewestUnlikeBits : GoodIn wsX4_count wsX2_fewestUnlikeBits := goodIn_r _ [77, 14, 78, 79, 48, 80, 15, 16, 17, 18, 19, 20, 21, 88, 89, 90, 91, 92, 93, 94, 95] (by decide +kernel) (by decide +kernel)
set_option maxRecDepth 20000 in
theorem gX4_count_X2_fewestUnlikeBits : GoodIn wsX4_count (wsV RX4 265 RX2 yX2_fewestUnlikeBits wsX2_fewestUnlikeBits) := goodIn_app (goodIn_of _ (by decide +kernel)) ggX4_count_X2_fewestUnlikeBits
theorem dX4_count_0 : decode cX4_count 0 = .ok (.iload_n 1, 1) := by decide +kernel
theorem dX4_count_1 : decode cX4_count 1 = .ok (.tableswitch 135 0 9 #[55, 63, 71, 79, 87, 95, 106, 114, 119, 127], 55) := by decide +kernel
theorem dX4_count_56 : decode cX4_count 56 = .ok (.aload_n 0, 1) := by decide +kernel
theorem dX4_count_57 : decode cX4_count 57 = .ok (.getfield 10, 3) := by decide +kernel
theorem dX4_count_60 : decode cX4_count 60 = .ok (.invokevirtual 173, 3) := by decide +kernel
theorem dX4_count_63 : decode cX4_count 63 = .ok (.ireturn, 1) := by decide +kernel
theorem dX4_count_64 : decode cX4_count 64 = .ok (.aload_n 0, 1) := by decide +kernel
theorem dX4_count_65 : decode cX4_count 65 = .ok (.getfield 10, 3) := by decide +kernel
theorem dX4_count_68 : decode cX4_count 68 = .ok (.invokevirtual 247, 3) := by decide +kernel
theorem dX4_count_71 : decode cX4_count 71 = .ok (.ireturn, 1) := by decide +kernel
theorem dX4_count_72 : decode cX4_count 72 = .ok (.aload_n 0, 1) := by decide +kernel
theorem dX4_count_73 : decode cX4_count 73 = .ok (.getfield 10, 3) := by decide +kernel
theorem dX4_count_76 : decode cX4_count 76 = .ok (.getfield 250, 3) := by decide +kernel
theorem dX4_count_79 : decode cX4_count 79 = .ok (.ireturn, 1) := by decide +kernel
theorem dX4_count_80 : decode cX4_count 80 = .ok (.aload_n 0, 1) := by decide +kernel
theorem dX4_count_81 : decode cX4_count 81 = .ok (.getfield 10, 3) := by decide +kernel
theorem dX4_count_84 : decode cX4_count 84 = .ok (.getfield 253, 3) := by decide +kernel
theorem dX4_count_87 : decode cX4_count 87 = .ok (.ireturn, 1) := by decide +kernel
theorem dX4_count_88 : decode cX4_count 88 = .ok (.aload_n 0, 1) := by decide +kernel
theorem dX4_count_89 : decode cX4_count 89 = .ok (.getfield 10, 3) := by decide +kernel
theorem dX4_count_92 : decode cX4_count 92 = .ok (.invokevirtual 256, 3) := by decide +kernel
theorem dX4_count_95 : decode cX4_count 95 = .ok (.ireturn, 1) := by decide +kernel
theorem dX4_count_96 : decode cX4_count 96 = .ok (.aload_n 0, 1) := by decide +kernel
theorem dX4_count_97 : decode cX4_count 97 = .ok (.getfield 10, 3) := by decide +kernel
theorem dX4_count_100 : decode cX4_count 100 = .ok (.getfield 88, 3) := by decide +kernel
theorem dX4_count_103 : decode cX4_count 103 = .ok (.invokestatic 189, 3) := by decide +kernel
theorem dX4_count_106 : decode cX4_count 106 = .ok (.ireturn, 1) := by decide +kernel
theorem dX4_count_107 : decode cX4_count 107 = .ok (.aload_n 0, 1) := by decide +kernel
theorem dX4_count_108 : decode cX4_count 108 = .ok (.getfield 10, 3) := by decide +kernel
theorem dX4_count_111 : decode cX4_count 111 = .ok (.invokevirtual 259, 3) := by decide +kernel
theorem dX4_count_114 : decode cX4_count 114 = .ok (.ireturn, 1) := by decide +kernel
theorem dX4_count_115 : decode cX4_count 115 = .ok (.aload_n 0, 1) := by decide +kernel
theorem dX4_count_116 : decode cX4_count 116 = .ok (.invokevirtual 262, 3) := by decide +kernel
theorem dX4_count_119 : decode cX4_count 119 = .ok (.ireturn, 1) := by decide +kernel
theorem dX4_count_120 : decode cX4_count 120 = .ok (.aload_n 0, 1) := by decide +kernel
theorem dX4_count_121 : decode cX4_count 121 = .ok (.getfield 10, 3) := by decide +kernel
theorem dX4_count_124 : decode cX4_count 124 = .ok (.invokevirtual 265, 3) := by decide +kernel
theorem dX4_count_127 : decode cX4_count 127 = .ok (.ireturn, 1) := by decide +kernel
theorem dX4_count_128 : decode cX4_count 128 = .ok (.aload_n 0, 1) := by decide +kernel
theorem dX4_count_129 : decode cX4_count 129 = .ok (.getfield 22, 3) := by decide +kernel
theorem dX4_count_132 : decode cX4_count 132 = .ok (.getfield 178, 3) := by decide +kernel
theorem dX4_count_135 : decode cX4_count 135 = .ok (.ireturn, 1) := by decide +kernel
theorem dX4_count_136 : decode cX4_count 136 = .ok (.new 79, 3) := by decide +kernel
theorem dX4_count_139 : decode cX4_count 139 = .ok (.dup, 1) := by decide +kernel
theorem dX4_count_140 : decode cX4_count 140 = .ok (.ldc_w 268, 3) := by decide +kernel
theorem dX4_count_143 : decode cX4_count 143 = .ok (.invokespecial 83, 3) := by decide +kernel
theorem dX4_count_146 : decode cX4_count 146 = .ok (.athrow, 1) := by decide +kernel
set_option maxRecDepth 20000 in
theorem ggX4_setting_X4_isSetting : GoodIn wsX4_setting wsX4_isSetting := goodIn_r _ [8, 9, 10, 7, 11] (by decide +kernel) (by decide +kernel)
set_option maxRecDepth 20000 in
theorem gX4_setting_X4_isSetting : GoodIn wsX4_setting (va_wsS RX4 97 yX4_isSetting wsX4_isSetting) := goodIn_app (goodIn_of _ (by decide +kernel)) ggX4_setting_X4_isSetting
theorem dX4_setting_0 : decode cX4_setting 0 = .ok (.iload_n 1, 1) := by decide +kernel
theorem dX4_setting_1 : decode cX4_setting 1 = .ok (.invokestatic 97, 3) := by decide +kernel
theorem dX4_setting_4 : decode cX4_setting 4 = .ok (.ifCond .ne 13, 3) := by decide +kernel
theorem dX4_setting_7 : decode cX4_setting 7 = .ok (.new 52, 3) := by decide +kernel
theorem dX4_setting_10 : decode cX4_setting 10 = .ok (.dup, 1) := by decide +kernel
theorem dX4_setting_11 : decode cX4_setting 11 = .ok (.ldc 100, 2) := by decide +kernel
theorem dX4_setting_13 : decode cX4_setting 13 = .ok (.invokespecial 56, 3) := by decide +kernel
theorem dX4_setting_16 : decode cX4_setting 16 = .ok (.athrow, 1) := by decide +kernel
theorem dX4_setting_17 : decode cX4_setting 17 = .ok (.aload_n 0, 1) := by decide +kernel
theorem dX4_setting_18 : decode cX4_setting 18 = .ok (.getfield 10, 3) := by decide +kernel
theorem dX4_setting_21 : decode cX4_setting 21 = .ok (.getfield 104, 3) := by decide +kernel
theorem dX4_setting_24 : decode cX4_setting 24 = .ok (.iload_n 1, 1) := by decide +kernel
theorem dX4_setting_25 : decode cX4_setting 25 = .ok (.iaload, 1) := by decide +kernel
theorem dX4_setting_26 : decode cX4_setting 26 = .ok (.ireturn, 1) := by decide +kernel
set_option maxRecDepth 20000 in
theorem ggX4_bestGuard_X2_become : GoodIn wsX4_bestGuard wsX2_become := goodIn_r _ [8, 9, 10, 11, 12, 13, 14, 15, 16, 17, 18, 19, 20, 21, 22, 23, 24, 25, 26, 27, 28, 29, 30, 31, 32, 33, 65, 66, 67, 68, 69, 70, 71, 72, 73, 74, 75, 76, 77, 78, 79] (by decide +kernel) (by decide +kernel)
set_option maxRecDepth 20000 in
theorem gX4_bestGuard_X2_become : GoodIn wsX4_bestGuard (wsV RX4 170 RX2 yX2_become wsX2_become) := goodIn_app (goodIn_of _ (by decide +kernel)) ggX4_bestGuard_X2_become
set_option maxRecDepth 20000 in
theorem ggX4_bestGuard_X4_bit : GoodIn wsX4_bestGuard wsX4_bit := goodIn_r _ [37] (by decide +kernel) (by decide +kernel)
set_option maxRecDepth 20000 in
theorem gX4_bestGuard_X4_bit : GoodIn wsX4_bestGuard (va_wsS RX4 70 yX4_bit wsX4_bit) := goodIn_app (goodIn_of _ (by decide +kernel)) ggX4_bestGuard_X4_bit
set_option maxRecDepth 20000 in
theorem ggX4_bestGuard_X2_threadsRight : GoodIn wsX4_bestGuard wsX2_threadsRight := goodIn_r _ [41, 9, 42, 43, 44, 7, 45, 16, 35, 36, 37, 46, 47, 48, 49, 50, 51, 52, 53, 15, 54, 55, 56, 57, 18, 65, 66, 67, 68, 69, 70, 71, 72] (by decide +kernel) (by decide +kernel)
set_option maxRecDepth 20000 in
theorem gX4_bestGuard_X2_threadsRight : GoodIn wsX4_bestGuard (wsV RX4 256 RX2 yX2_threadsRight wsX2_threadsRight) := goodIn_app (goodIn_of _ (by decide +kernel)) ggX4_bestGuard_X2_threadsRight
theorem dX4_bestGuard_0 : decode cX4_bestGuard 0 = .ok (.iconst (-1), 1) := by decide +kernel
theorem dX4_bestGuard_1 : decode cX4_bestGuard 1 = .ok (.istore_n 1, 1) := by decide +kernel
theorem dX4_bestGuard_2 : decode cX4_bestGuard 2 = .ok (.iconst (-1), 1) := by decide +kernel
theorem dX4_bestGuard_3 : decode cX4_bestGuard 3 = .ok (.istore_n 2, 1) := by decide +kernel
theorem dX4_bestGuard_4 : decode cX4_bestGuard 4 = .ok (.aload_n 0, 1) := by decide +kernel
theorem dX4_bestGuard_5 : decode cX4_bestGuard 5 = .ok (.getfield 16, 3) := by decide +kernel
theorem dX4_bestGuard_8 : decode cX4_bestGuard 8 = .ok (.aload_n 0, 1) := by decide +kernel
theorem dX4_bestGuard_9 : decode cX4_bestGuard 9 = .ok (.getfield 10, 3) := by decide +kernel
theorem dX4_bestGuard_12 : decode cX4_bestGuard 12 = .ok (.invokevirtual 170, 3) := by decide +kernel
theorem dX4_bestGuard_15 : decode cX4_bestGuard 15 = .ok (.iconst 0, 1) := by decide +kernel
theorem dX4_bestGuard_16 : decode cX4_bestGuard 16 = .ok (.istore_n 3, 1) := by decide +kernel
theorem dX4_bestGuard_17 : decode cX4_bestGuard 17 = .ok (.iload_n 3, 1) := by decide +kernel
theorem dX4_bestGuard_18 : decode cX4_bestGuard 18 = .ok (.bipush 16, 2) := by decide +kernel
theorem dX4_bestGuard_20 : decode cX4_bestGuard 20 = .ok (.if_icmp .ge 61, 3) := by decide +kernel
theorem dX4_bestGuard_23 : decode cX4_bestGuard 23 = .ok (.aload_n 0, 1) := by decide +kernel
theorem dX4_bestGuard_24 : decode cX4_bestGuard 24 = .ok (.getfield 10, 3) := by decide +kernel
theorem dX4_bestGuard_27 : decode cX4_bestGuard 27 = .ok (.getfield 88, 3) := by decide +kernel
theorem dX4_bestGuard_30 : decode cX4_bestGuard 30 = .ok (.iload_n 3, 1) := by decide +kernel
theorem dX4_bestGuard_31 : decode cX4_bestGuard 31 = .ok (.invokestatic 70, 3) := by decide +kernel
theorem dX4_bestGuard_34 : decode cX4_bestGuard 34 = .ok (.ifCond .ne 41, 3) := by decide +kernel
theorem dX4_bestGuard_37 : decode cX4_bestGuard 37 = .ok (.aload_n 0, 1) := by decide +kernel
theorem dX4_bestGuard_38 : decode cX4_bestGuard 38 = .ok (.getfield 16, 3) := by decide +kernel
theorem dX4_bestGuard_41 : decode cX4_bestGuard 41 = .ok (.aload_n 0, 1) := by decide +kernel
theorem dX4_bestGuard_42 : decode cX4_bestGuard 42 = .ok (.getfield 10, 3) := by decide +kernel
theorem dX4_bestGuard_45 : decode cX4_bestGuard 45 = .ok (.getfield 88, 3) := by decide +kernel
theorem dX4_bestGuard_48 : decode cX4_bestGuard 48 = .ok (.iconst 1, 1) := by decide +kernel
theorem dX4_bestGuard_49 : decode cX4_bestGuard 49 = .ok (.iload_n 3, 1) := by decide +kernel
theorem dX4_bestGuard_50 : decode cX4_bestGuard 50 = .ok (.ishl, 1) := by decide +kernel
theorem dX4_bestGuard_51 : decode cX4_bestGuard 51 = .ok (.ior, 1) := by decide +kernel
theorem dX4_bestGuard_52 : decode cX4_bestGuard 52 = .ok (.putfield 88, 3) := by decide +kernel
theorem dX4_bestGuard_55 : decode cX4_bestGuard 55 = .ok (.aload_n 0, 1) := by decide +kernel
theorem dX4_bestGuard_56 : decode cX4_bestGuard 56 = .ok (.getfield 16, 3) := by decide +kernel
theorem dX4_bestGuard_59 : decode cX4_bestGuard 59 = .ok (.invokevirtual 256, 3) := by decide +kernel
theorem dX4_bestGuard_62 : decode cX4_bestGuard 62 = .ok (.istore 4, 2) := by decide +kernel
theorem dX4_bestGuard_64 : decode cX4_bestGuard 64 = .ok (.iload 4, 2) := by decide +kernel
theorem dX4_bestGuard_66 : decode cX4_bestGuard 66 = .ok (.iload_n 2, 1) := by decide +kernel
theorem dX4_bestGuard_67 : decode cX4_bestGuard 67 = .ok (.if_icmp .le 8, 3) := by decide +kernel
theorem dX4_bestGuard_70 : decode cX4_bestGuard 70 = .ok (.iload_n 3, 1) := by decide +kernel
theorem dX4_bestGuard_71 : decode cX4_bestGuard 71 = .ok (.istore_n 1, 1) := by decide +kernel
theorem dX4_bestGuard_72 : decode cX4_bestGuard 72 = .ok (.iload 4, 2) := by decide +kernel
theorem dX4_bestGuard_74 : decode cX4_bestGuard 74 = .ok (.istore_n 2, 1) := by decide +kernel
theorem dX4_bestGuard_75 : decode cX4_bestGuard 75 = .ok (.iinc 3 1, 3) := by decide +kernel
theorem dX4_bestGuard_78 : decode cX4_bestGuard 78 = .ok (.goto (-61), 3) := by decide +kernel
theorem dX4_bestGuard_81 : decode cX4_bestGuard 81 = .ok (.iload_n 1, 1) := by decide +kernel
theorem dX4_bestGuard_82 : decode cX4_bestGuard 82 = .ok (.ireturn, 1) := by decide +kernel
set_option maxRecDepth 20000 in
theorem ggX4_lastsFor_X4_isThread : GoodIn wsX4_lastsFor wsX4_isThread := goodIn_r _ [7, 8, 9, 6, 10] (by decide +kernel) (by decide +kernel)
set_option maxRecDepth 20000 in
theorem gX4_lastsFor_X4_isThread : GoodIn wsX4_lastsFor (va_wsS RX4 45 yX4_isThread wsX4_isThread) := goodIn_app (goodIn_of _ (by decide +kernel)) ggX4_lastsFor_X4_isThread
set_option maxRecDepth 20000 in
theorem ggX4_lastsFor_X2_readingsUntilChange : GoodIn wsX4_lastsFor wsX2_readingsUntilChange := goodIn_r _ [15, 16, 17, 18, 19, 6, 20, 28, 29, 30, 31, 32, 33, 34, 35] (by decide +kernel) (by decide +kernel)
set_option maxRecDepth 20000 in
theorem gX4_lastsFor_X2_readingsUntilChange : GoodIn wsX4_lastsFor (wsV RX4 273 RX2 yX2_readingsUntilChange wsX2_readingsUntilChange) := goodIn_app (goodIn_of _ (by decide +kernel)) ggX4_lastsFor_X2_readingsUntilChange
theorem dX4_lastsFor_0 : decode cX4_lastsFor 0 = .ok (.iload_n 1, 1) := by decide +kernel
theorem dX4_lastsFor_1 : decode cX4_lastsFor 1 = .ok (.invokestatic 45, 3) := by decide +kernel
theorem dX4_lastsFor_4 : decode cX4_lastsFor 4 = .ok (.ifCond .ne 13, 3) := by decide +kernel
theorem dX4_lastsFor_7 : decode cX4_lastsFor 7 = .ok (.new 52, 3) := by decide +kernel
theorem dX4_lastsFor_10 : decode cX4_lastsFor 10 = .ok (.dup, 1) := by decide +kernel
theorem dX4_lastsFor_11 : decode cX4_lastsFor 11 = .ok (.ldc 73, 2) := by decide +kernel
theorem dX4_lastsFor_13 : decode cX4_lastsFor 13 = .ok (.invokespecial 56, 3) := by decide +kernel
theorem dX4_lastsFor_16 : decode cX4_lastsFor 16 = .ok (.athrow, 1) := by decide +kernel
theorem dX4_lastsFor_17 : decode cX4_lastsFor 17 = .ok (.aload_n 0, 1) := by decide +kernel
theorem dX4_lastsFor_18 : decode cX4_lastsFor 18 = .ok (.getfield 10, 3) := by decide +kernel
theorem dX4_lastsFor_21 : decode cX4_lastsFor 21 = .ok (.iload_n 1, 1) := by decide +kernel
theorem dX4_lastsFor_22 : decode cX4_lastsFor 22 = .ok (.invokevirtual 273, 3) := by decide +kernel
theorem dX4_lastsFor_25 : decode cX4_lastsFor 25 = .ok (.ireturn, 1) := by decide +kernel
set_option maxRecDepth 20000 in
theorem ggX4_ifGone_X4_isWithin : GoodIn wsX4_ifGone wsX4_isWithin := goodIn_r _ [12] (by decide +kernel) (by decide +kernel)
set_option maxRecDepth 20000 in
theorem gX4_ifGone_X4_isWithin : GoodIn wsX4_ifGone (va_wsS RX4 75 yX4_isWithin wsX4_isWithin) := goodIn_app (goodIn_of _ (by decide +kernel)) ggX4_ifGone_X4_isWithin
set_option maxRecDepth 20000 in
theorem ggX4_ifGone_X2_become : GoodIn wsX4_ifGone wsX2_become := goodIn_r _ [17, 18, 19, 20, 21, 22, 23, 24, 25, 26, 27, 28, 29, 30, 31, 32, 33, 34, 35, 36, 37, 38, 39, 40, 41, 42, 101, 102, 103, 104, 105, 106, 107, 108, 109, 110, 111, 112, 113, 114, 115] (by decide +kernel) (by decide +kernel)
set_option maxRecDepth 20000 in
theorem gX4_ifGone_X2_become : GoodIn wsX4_ifGone (wsV RX4 170 RX2 yX2_become wsX2_become) := goodIn_app (goodIn_of _ (by decide +kernel)) ggX4_ifGone_X2_become
set_option maxRecDepth 20000 in
theorem ggX4_ifGone_X2_run : GoodIn wsX4_ifGone wsX2_run := goodIn_r _ [46, 26, 47, 48, 49, 50, 51, 16, 52, 18, 23, 29, 53, 54, 55, 56, 57, 58, 59, 60, 25, 61, 11, 62, 63, 64, 65, 66, 67, 68, 69, 70, 24, 71, 72, 73, 74, 27, 75, 76, 77, 78, 79, 80, 81, 82, 83, 84, 85, 86, 87, 88, 33, 89, 41, 38, 40, 39, 35, 90, 91, 92, 93, 37, 42, 101, 102, 103, 104, 105, 106, 107, 108, 109, 110, 111, 112, 113, 114, 115] (by decide +kernel) (by decide +kernel)
set_option maxRecDepth 20000 in
theorem gX4_ifGone_X2_run : GoodIn wsX4_ifGone (wsV RX4 124 RX2 yX2_run wsX2_run) := goodIn_app (goodIn_of _ (by decide +kernel)) ggX4_ifGone_X2_run
theorem dX4_ifGone_0 : decode cX4_ifGone 0 = .ok (.iload_n 1, 1) := by decide +kernel
theorem dX4_ifGone_1 : decode cX4_ifGone 1 = .ok (.iconst 1, 1) := by decide +kernel
theorem dX4_ifGone_2 : decode cX4_ifGone 2 = .ok (.bipush 99, 2) := by decide +kernel
theorem dX4_ifGone_4 : decode cX4_ifGone 4 = .ok (.invokestatic 75, 3) := by decide +kernel
theorem dX4_ifGone_7 : decode cX4_ifGone 7 = .ok (.ifCond .eq 12, 3) := by decide +kernel
theorem dX4_ifGone_10 : decode cX4_ifGone 10 = .ok (.iload_n 2, 1) := by decide +kernel
theorem dX4_ifGone_11 : decode cX4_ifGone 11 = .ok (.iconst 0, 1) := by decide +kernel
theorem dX4_ifGone_12 : decode cX4_ifGone 12 = .ok (.iconst 3, 1) := by decide +kernel
theorem dX4_ifGone_13 : decode cX4_ifGone 13 = .ok (.invokestatic 75, 3) := by decide +kernel
theorem dX4_ifGone_16 : decode cX4_ifGone 16 = .ok (.ifCond .ne 14, 3) := by decide +kernel
theorem dX4_ifGone_19 : decode cX4_ifGone 19 = .ok (.new 79, 3) := by decide +kernel
theorem dX4_ifGone_22 : decode cX4_ifGone 22 = .ok (.dup, 1) := by decide +kernel
theorem dX4_ifGone_23 : decode cX4_ifGone 23 = .ok (.ldc_w 276, 3) := by decide +kernel
theorem dX4_ifGone_26 : decode cX4_ifGone 26 = .ok (.invokespecial 83, 3) := by decide +kernel
theorem dX4_ifGone_29 : decode cX4_ifGone 29 = .ok (.athrow, 1) := by decide +kernel
theorem dX4_ifGone_30 : decode cX4_ifGone 30 = .ok (.aload_n 0, 1) := by decide +kernel
theorem dX4_ifGone_31 : decode cX4_ifGone 31 = .ok (.getfield 16, 3) := by decide +kernel
theorem dX4_ifGone_34 : decode cX4_ifGone 34 = .ok (.aload_n 0, 1) := by decide +kernel
theorem dX4_ifGone_35 : decode cX4_ifGone 35 = .ok (.getfield 10, 3) := by decide +kernel
theorem dX4_ifGone_38 : decode cX4_ifGone 38 = .ok (.invokevirtual 170, 3) := by decide +kernel
theorem dX4_ifGone_41 : decode cX4_ifGone 41 = .ok (.aload_n 0, 1) := by decide +kernel
theorem dX4_ifGone_42 : decode cX4_ifGone 42 = .ok (.getfield 16, 3) := by decide +kernel
theorem dX4_ifGone_45 : decode cX4_ifGone 45 = .ok (.iload_n 1, 1) := by decide +kernel
theorem dX4_ifGone_46 : decode cX4_ifGone 46 = .ok (.invokevirtual 124, 3) := by decide +kernel
theorem dX4_ifGone_49 : decode cX4_ifGone 49 = .ok (.istore_n 3, 1) := by decide +kernel
theorem dX4_ifGone_50 : decode cX4_ifGone 50 = .ok (.iload_n 2, 1) := by decide +kernel
theorem dX4_ifGone_51 : decode cX4_ifGone 51 = .ok (.tableswitch 49 0 2 #[25, 27, 38], 25) := by decide +kernel
theorem dX4_ifGone_76 : decode cX4_ifGone 76 = .ok (.iload_n 3, 1) := by decide +kernel
theorem dX4_ifGone_77 : decode cX4_ifGone 77 = .ok (.ireturn, 1) := by decide +kernel
theorem dX4_ifGone_78 : decode cX4_ifGone 78 = .ok (.aload_n 0, 1) := by decide +kernel
theorem dX4_ifGone_79 : decode cX4_ifGone 79 = .ok (.getfield 16, 3) := by decide +kernel
theorem dX4_ifGone_82 : decode cX4_ifGone 82 = .ok (.getfield 110, 3) := by decide +kernel
theorem dX4_ifGone_85 : decode cX4_ifGone 85 = .ok (.getfield 227, 3) := by decide +kernel
theorem dX4_ifGone_88 : decode cX4_ifGone 88 = .ok (.ireturn, 1) := by decide +kernel
theorem dX4_ifGone_89 : decode cX4_ifGone 89 = .ok (.aload_n 0, 1) := by decide +kernel
theorem dX4_ifGone_90 : decode cX4_ifGone 90 = .ok (.getfield 16, 3) := by decide +kernel
theorem dX4_ifGone_93 : decode cX4_ifGone 93 = .ok (.getfield 110, 3) := by decide +kernel
theorem dX4_ifGone_96 : decode cX4_ifGone 96 = .ok (.getfield 224, 3) := by decide +kernel
theorem dX4_ifGone_99 : decode cX4_ifGone 99 = .ok (.ireturn, 1) := by decide +kernel
theorem dX4_ifGone_100 : decode cX4_ifGone 100 = .ok (.aload_n 0, 1) := by decide +kernel
theorem dX4_ifGone_101 : decode cX4_ifGone 101 = .ok (.getfield 16, 3) := by decide +kernel
theorem dX4_ifGone_104 : decode cX4_ifGone 104 = .ok (.getfield 110, 3) := by decide +kernel
theorem dX4_ifGone_107 : decode cX4_ifGone 107 = .ok (.getfield 237, 3) := by decide +kernel
theorem dX4_ifGone_110 : decode cX4_ifGone 110 = .ok (.aload_n 0, 1) := by decide +kernel
theorem dX4_ifGone_111 : decode cX4_ifGone 111 = .ok (.getfield 10, 3) := by decide +kernel
theorem dX4_ifGone_114 : decode cX4_ifGone 114 = .ok (.getfield 110, 3) := by decide +kernel
theorem dX4_ifGone_117 : decode cX4_ifGone 117 = .ok (.getfield 237, 3) := by decide +kernel
theorem dX4_ifGone_120 : decode cX4_ifGone 120 = .ok (.isub, 1) := by decide +kernel
theorem dX4_ifGone_121 : decode cX4_ifGone 121 = .ok (.ireturn, 1) := by decide +kernel
set_option maxRecDepth 20000 in
theorem ggX4_rightShare_X2_threadsRight : GoodIn wsX4_rightShare wsX2_threadsRight := goodIn_r _ [7, 8, 9, 10, 11, 6, 12, 13, 14, 15, 16, 17, 18, 19, 20, 21, 22, 23, 24, 25, 26, 27, 28, 29, 30, 38, 39, 40, 41, 42, 43, 44, 45] (by decide +kernel) (by decide +kernel)
set_option maxRecDepth 20000 in
theorem gX4_rightShare_X2_threadsRight : GoodIn wsX4_rightShare (wsV RX4 256 RX2 yX2_threadsRight wsX2_threadsRight) := goodIn_app (goodIn_of _ (by decide +kernel)) ggX4_rightShare_X2_threadsRight
theorem dX4_rightShare_0 : decode cX4_rightShare 0 = .ok (.aload_n 0, 1) := by decide +kernel
theorem dX4_rightShare_1 : decode cX4_rightShare 1 = .ok (.getfield 10, 3) := by decide +kernel
theorem dX4_rightShare_4 : decode cX4_rightShare 4 = .ok (.invokevirtual 256, 3) := by decide +kernel
theorem dX4_rightShare_7 : decode cX4_rightShare 7 = .ok (.i2d, 1) := by decide +kernel
theorem dX4_rightShare_8 : decode cX4_rightShare 8 = .ok (.ldc2_w 278, 3) := by decide +kernel
theorem dX4_rightShare_11 : decode cX4_rightShare 11 = .ok (.ddiv, 1) := by decide +kernel
theorem dX4_rightShare_12 : decode cX4_rightShare 12 = .ok (.dreturn, 1) := by decide +kernel
set_option maxRecDepth 20000 in
theorem ggX4_pairsTellingTheSame_X2_tells : GoodIn wsX4_pairsTellingTheSame wsX2_tells := goodIn_r _ [7, 8, 9, 10, 6, 11, 12, 13, 14, 15, 16, 17, 18, 19, 20, 21, 22, 23, 24, 25, 26, 27, 28, 29, 30, 31, 32, 33, 34, 42, 43, 44, 45, 46, 47, 48, 49] (by decide +kernel) (by decide +kernel)
set_option maxRecDepth 20000 in
theorem gX4_pairsTellingTheSame_X2_tells : GoodIn wsX4_pairsTellingTheSame (wsV RX4 159 RX2 yX2_tells wsX2_tells) := goodIn_app (goodIn_of _ (by decide +kernel)) ggX4_pairsTellingTheSame_X2_tells
theorem dX4_pairsTellingTheSame_0 : decode cX4_pairsTellingTheSame 0 = .ok (.iconst 0, 1) := by decide +kernel
theorem dX4_pairsTellingTheSame_1 : decode cX4_pairsTellingTheSame 1 = .ok (.istore_n 1, 1) := by decide +kernel
theorem dX4_pairsTellingTheSame_2 : decode cX4_pairsTellingTheSame 2 = .ok (.iconst 0, 1) := by decide +kernel
theorem dX4_pairsTellingTheSame_3 : decode cX4_pairsTellingTheSame 3 = .ok (.istore_n 2, 1) := by decide +kernel
theorem dX4_pairsTellingTheSame_4 : decode cX4_pairsTellingTheSame 4 = .ok (.iload_n 2, 1) := by decide +kernel
theorem dX4_pairsTellingTheSame_5 : decode cX4_pairsTellingTheSame 5 = .ok (.bipush 16, 2) := by decide +kernel
theorem dX4_pairsTellingTheSame_7 : decode cX4_pairsTellingTheSame 7 = .ok (.if_icmp .ge 54, 3) := by decide +kernel
theorem dX4_pairsTellingTheSame_10 : decode cX4_pairsTellingTheSame 10 = .ok (.aload_n 0, 1) := by decide +kernel
theorem dX4_pairsTellingTheSame_11 : decode cX4_pairsTellingTheSame 11 = .ok (.getfield 41, 3) := by decide +kernel
theorem dX4_pairsTellingTheSame_14 : decode cX4_pairsTellingTheSame 14 = .ok (.iload_n 2, 1) := by decide +kernel
theorem dX4_pairsTellingTheSame_15 : decode cX4_pairsTellingTheSame 15 = .ok (.aload_n 0, 1) := by decide +kernel
theorem dX4_pairsTellingTheSame_16 : decode cX4_pairsTellingTheSame 16 = .ok (.getfield 10, 3) := by decide +kernel
theorem dX4_pairsTellingTheSame_19 : decode cX4_pairsTellingTheSame 19 = .ok (.iload_n 2, 1) := by decide +kernel
theorem dX4_pairsTellingTheSame_20 : decode cX4_pairsTellingTheSame 20 = .ok (.invokevirtual 159, 3) := by decide +kernel
theorem dX4_pairsTellingTheSame_23 : decode cX4_pairsTellingTheSame 23 = .ok (.iastore, 1) := by decide +kernel
theorem dX4_pairsTellingTheSame_24 : decode cX4_pairsTellingTheSame 24 = .ok (.iconst 0, 1) := by decide +kernel
theorem dX4_pairsTellingTheSame_25 : decode cX4_pairsTellingTheSame 25 = .ok (.istore_n 3, 1) := by decide +kernel
theorem dX4_pairsTellingTheSame_26 : decode cX4_pairsTellingTheSame 26 = .ok (.iload_n 3, 1) := by decide +kernel
theorem dX4_pairsTellingTheSame_27 : decode cX4_pairsTellingTheSame 27 = .ok (.iload_n 2, 1) := by decide +kernel
theorem dX4_pairsTellingTheSame_28 : decode cX4_pairsTellingTheSame 28 = .ok (.if_icmp .ge 27, 3) := by decide +kernel
theorem dX4_pairsTellingTheSame_31 : decode cX4_pairsTellingTheSame 31 = .ok (.aload_n 0, 1) := by decide +kernel
theorem dX4_pairsTellingTheSame_32 : decode cX4_pairsTellingTheSame 32 = .ok (.getfield 41, 3) := by decide +kernel
theorem dX4_pairsTellingTheSame_35 : decode cX4_pairsTellingTheSame 35 = .ok (.iload_n 3, 1) := by decide +kernel
theorem dX4_pairsTellingTheSame_36 : decode cX4_pairsTellingTheSame 36 = .ok (.iaload, 1) := by decide +kernel
theorem dX4_pairsTellingTheSame_37 : decode cX4_pairsTellingTheSame 37 = .ok (.aload_n 0, 1) := by decide +kernel
theorem dX4_pairsTellingTheSame_38 : decode cX4_pairsTellingTheSame 38 = .ok (.getfield 41, 3) := by decide +kernel
theorem dX4_pairsTellingTheSame_41 : decode cX4_pairsTellingTheSame 41 = .ok (.iload_n 2, 1) := by decide +kernel
theorem dX4_pairsTellingTheSame_42 : decode cX4_pairsTellingTheSame 42 = .ok (.iaload, 1) := by decide +kernel
theorem dX4_pairsTellingTheSame_43 : decode cX4_pairsTellingTheSame 43 = .ok (.if_icmp .ne 6, 3) := by decide +kernel
theorem dX4_pairsTellingTheSame_46 : decode cX4_pairsTellingTheSame 46 = .ok (.iinc 1 1, 3) := by decide +kernel
theorem dX4_pairsTellingTheSame_49 : decode cX4_pairsTellingTheSame 49 = .ok (.iinc 3 1, 3) := by decide +kernel
theorem dX4_pairsTellingTheSame_52 : decode cX4_pairsTellingTheSame 52 = .ok (.goto (-26), 3) := by decide +kernel
theorem dX4_pairsTellingTheSame_55 : decode cX4_pairsTellingTheSame 55 = .ok (.iinc 2 1, 3) := by decide +kernel
theorem dX4_pairsTellingTheSame_58 : decode cX4_pairsTellingTheSame 58 = .ok (.goto (-54), 3) := by decide +kernel
theorem dX4_pairsTellingTheSame_61 : decode cX4_pairsTellingTheSame 61 = .ok (.iload_n 1, 1) := by decide +kernel
theorem dX4_pairsTellingTheSame_62 : decode cX4_pairsTellingTheSame 62 = .ok (.ireturn, 1) := by decide +kernel
theorem dX4_isWithin_0 : decode cX4_isWithin 0 = .ok (.iload_n 0, 1) := by decide +kernel
theorem dX4_isWithin_1 : decode cX4_isWithin 1 = .ok (.iload_n 1, 1) := by decide +kernel
theorem dX4_isWithin_2 : decode cX4_isWithin 2 = .ok (.if_icmp .lt 12, 3) := by decide +kernel
theorem dX4_isWithin_5 : decode cX4_isWithin 5 = .ok (.iload_n 0, 1) := by decide +kernel
theorem dX4_isWithin_6 : decode cX4_isWithin 6 = .ok (.iload_n 2, 1) := by decide +kernel
theorem dX4_isWithin_7 : decode cX4_isWithin 7 = .ok (.if_icmp .gt 7, 3) := by decide +kernel
theorem dX4_isWithin_10 : decode cX4_isWithin 10 = .ok (.iconst 1, 1) := by decide +kernel
theorem dX4_isWithin_11 : decode cX4_isWithin 11 = .ok (.goto 4, 3) := by decide +kernel
theorem dX4_isWithin_14 : decode cX4_isWithin 14 = .ok (.iconst 0, 1) := by decide +kernel
theorem dX4_isWithin_15 : decode cX4_isWithin 15 = .ok (.ireturn, 1) := by decide +kernel
set_option maxRecDepth 20000 in
theorem ggX4_isThread_X4_isWithin : GoodIn wsX4_isThread wsX4_isWithin := goodIn_r _ [4] (by decide +kernel) (by decide +kernel)
set_option maxRecDepth 20000 in
theorem gX4_isThread_X4_isWithin : GoodIn wsX4_isThread (va_wsS RX4 75 yX4_isWithin wsX4_isWithin) := goodIn_app (goodIn_of _ (by decide +kernel)) ggX4_isThread_X4_isWithin
theorem dX4_isThread_0 : decode cX4_isThread 0 = .ok (.iload_n 0, 1) := by decide +kernel
theorem dX4_isThread_1 : decode cX4_isThread 1 = .ok (.iconst 0, 1) := by decide +kernel
theorem dX4_isThread_2 : decode cX4_isThread 2 = .ok (.bipush 15, 2) := by decide +kernel
theorem dX4_isThread_4 : decode cX4_isThread 4 = .ok (.invokestatic 75, 3) := by decide +kernel
theorem dX4_isThread_7 : decode cX4_isThread 7 = .ok (.ireturn, 1) := by decide +kernel
set_option maxRecDepth 20000 in
theorem ggX4_isRing_X4_isWithin : GoodIn wsX4_isRing wsX4_isWithin := goodIn_r _ [4] (by decide +kernel) (by decide +kernel)
set_option maxRecDepth 20000 in
theorem gX4_isRing_X4_isWithin : GoodIn wsX4_isRing (va_wsS RX4 75 yX4_isWithin wsX4_isWithin) := goodIn_app (goodIn_of _ (by decide +kernel)) ggX4_isRing_X4_isWithin
theorem dX4_isRing_0 : decode cX4_isRing 0 = .ok (.iload_n 0, 1) := by decide +kernel
theorem dX4_isRing_1 : decode cX4_isRing 1 = .ok (.iconst 0, 1) := by decide +kernel
theorem dX4_isRing_2 : decode cX4_isRing 2 = .ok (.bipush 7, 2) := by decide +kernel
theorem dX4_isRing_4 : decode cX4_isRing 4 = .ok (.invokestatic 75, 3) := by decide +kernel
theorem dX4_isRing_7 : decode cX4_isRing 7 = .ok (.ireturn, 1) := by decide +kernel
set_option maxRecDepth 20000 in
theorem ggX4_isSetting_X4_isWithin : GoodIn wsX4_isSetting wsX4_isWithin := goodIn_r _ [4] (by decide +kernel) (by decide +kernel)
set_option maxRecDepth 20000 in
theorem gX4_isSetting_X4_isWithin : GoodIn wsX4_isSetting (va_wsS RX4 75 yX4_isWithin wsX4_isWithin) := goodIn_app (goodIn_of _ (by decide +kernel)) ggX4_isSetting_X4_isWithin
theorem dX4_isSetting_0 : decode cX4_isSetting 0 = .ok (.iload_n 0, 1) := by decide +kernel
theorem dX4_isSetting_1 : decode cX4_isSetting 1 = .ok (.iconst 0, 1) := by decide +kernel
theorem dX4_isSetting_2 : decode cX4_isSetting 2 = .ok (.iconst 1, 1) := by decide +kernel
theorem dX4_isSetting_3 : decode cX4_isSetting 3 = .ok (.invokestatic 75, 3) := by decide +kernel
theorem dX4_isSetting_6 : decode cX4_isSetting 6 = .ok (.ireturn, 1) := by decide +kernel
set_option maxRecDepth 20000 in
theorem ggX4_isSlot_X4_isWithin : GoodIn wsX4_isSlot wsX4_isWithin := goodIn_r _ [4] (by decide +kernel) (by decide +kernel)
set_option maxRecDepth 20000 in
theorem gX4_isSlot_X4_isWithin : GoodIn wsX4_isSlot (va_wsS RX4 75 yX4_isWithin wsX4_isWithin) := goodIn_app (goodIn_of _ (by decide +kernel)) ggX4_isSlot_X4_isWithin
theorem dX4_isSlot_0 : decode cX4_isSlot 0 = .ok (.iload_n 0, 1) := by decide +kernel
theorem dX4_isSlot_1 : decode cX4_isSlot 1 = .ok (.iconst 0, 1) := by decide +kernel
theorem dX4_isSlot_2 : decode cX4_isSlot 2 = .ok (.iconst 1, 1) := by decide +kernel
theorem dX4_isSlot_3 : decode cX4_isSlot 3 = .ok (.invokestatic 75, 3) := by decide +kernel
theorem dX4_isSlot_6 : decode cX4_isSlot 6 = .ok (.ireturn, 1) := by decide +kernel
theorem dX4_bit_0 : decode cX4_bit 0 = .ok (.iload_n 0, 1) := by decide +kernel
theorem dX4_bit_1 : decode cX4_bit 1 = .ok (.iload_n 1, 1) := by decide +kernel
theorem dX4_bit_2 : decode cX4_bit 2 = .ok (.ishr, 1) := by decide +kernel
theorem dX4_bit_3 : decode cX4_bit 3 = .ok (.iconst 1, 1) := by decide +kernel
theorem dX4_bit_4 : decode cX4_bit 4 = .ok (.iand, 1) := by decide +kernel
theorem dX4_bit_5 : decode cX4_bit 5 = .ok (.ireturn, 1) := by decide +kernel
theorem dJ6_bitCount_0f7a4_0 : decode cJ6_bitCount_0f7a4 0 = .ok (.iload_n 0, 1) := by decide +kernel
theorem dJ6_bitCount_0f7a4_1 : decode cJ6_bitCount_0f7a4 1 = .ok (.iload_n 0, 1) := by decide +kernel
theorem dJ6_bitCount_0f7a4_2 : decode cJ6_bitCount_0f7a4 2 = .ok (.iconst 1, 1) := by decide +kernel
theorem dJ6_bitCount_0f7a4_3 : decode cJ6_bitCount_0f7a4 3 = .ok (.iushr, 1) := by decide +kernel
theorem dJ6_bitCount_0f7a4_4 : decode cJ6_bitCount_0f7a4 4 = .ok (.ldc_w 265, 3) := by decide +kernel
theorem dJ6_bitCount_0f7a4_7 : decode cJ6_bitCount_0f7a4 7 = .ok (.iand, 1) := by decide +kernel
theorem dJ6_bitCount_0f7a4_8 : decode cJ6_bitCount_0f7a4 8 = .ok (.isub, 1) := by decide +kernel
theorem dJ6_bitCount_0f7a4_9 : decode cJ6_bitCount_0f7a4 9 = .ok (.istore_n 0, 1) := by decide +kernel
theorem dJ6_bitCount_0f7a4_10 : decode cJ6_bitCount_0f7a4 10 = .ok (.iload_n 0, 1) := by decide +kernel
theorem dJ6_bitCount_0f7a4_11 : decode cJ6_bitCount_0f7a4 11 = .ok (.ldc_w 266, 3) := by decide +kernel
theorem dJ6_bitCount_0f7a4_14 : decode cJ6_bitCount_0f7a4 14 = .ok (.iand, 1) := by decide +kernel
theorem dJ6_bitCount_0f7a4_15 : decode cJ6_bitCount_0f7a4 15 = .ok (.iload_n 0, 1) := by decide +kernel
theorem dJ6_bitCount_0f7a4_16 : decode cJ6_bitCount_0f7a4 16 = .ok (.iconst 2, 1) := by decide +kernel
theorem dJ6_bitCount_0f7a4_17 : decode cJ6_bitCount_0f7a4 17 = .ok (.iushr, 1) := by decide +kernel
theorem dJ6_bitCount_0f7a4_18 : decode cJ6_bitCount_0f7a4 18 = .ok (.ldc_w 266, 3) := by decide +kernel
theorem dJ6_bitCount_0f7a4_21 : decode cJ6_bitCount_0f7a4 21 = .ok (.iand, 1) := by decide +kernel
theorem dJ6_bitCount_0f7a4_22 : decode cJ6_bitCount_0f7a4 22 = .ok (.iadd, 1) := by decide +kernel
theorem dJ6_bitCount_0f7a4_23 : decode cJ6_bitCount_0f7a4 23 = .ok (.istore_n 0, 1) := by decide +kernel
theorem dJ6_bitCount_0f7a4_24 : decode cJ6_bitCount_0f7a4 24 = .ok (.iload_n 0, 1) := by decide +kernel
theorem dJ6_bitCount_0f7a4_25 : decode cJ6_bitCount_0f7a4 25 = .ok (.iload_n 0, 1) := by decide +kernel
theorem dJ6_bitCount_0f7a4_26 : decode cJ6_bitCount_0f7a4 26 = .ok (.iconst 4, 1) := by decide +kernel
theorem dJ6_bitCount_0f7a4_27 : decode cJ6_bitCount_0f7a4 27 = .ok (.iushr, 1) := by decide +kernel
theorem dJ6_bitCount_0f7a4_28 : decode cJ6_bitCount_0f7a4 28 = .ok (.iadd, 1) := by decide +kernel
theorem dJ6_bitCount_0f7a4_29 : decode cJ6_bitCount_0f7a4 29 = .ok (.ldc_w 267, 3) := by decide +kernel
theorem dJ6_bitCount_0f7a4_32 : decode cJ6_bitCount_0f7a4 32 = .ok (.iand, 1) := by decide +kernel
theorem dJ6_bitCount_0f7a4_33 : decode cJ6_bitCount_0f7a4 33 = .ok (.istore_n 0, 1) := by decide +kernel
theorem dJ6_bitCount_0f7a4_34 : decode cJ6_bitCount_0f7a4 34 = .ok (.iload_n 0, 1) := by decide +kernel
theorem dJ6_bitCount_0f7a4_35 : decode cJ6_bitCount_0f7a4 35 = .ok (.iload_n 0, 1) := by decide +kernel
theorem dJ6_bitCount_0f7a4_36 : decode cJ6_bitCount_0f7a4 36 = .ok (.bipush 8, 2) := by decide +kernel
theorem dJ6_bitCount_0f7a4_38 : decode cJ6_bitCount_0f7a4 38 = .ok (.iushr, 1) := by decide +kernel
theorem dJ6_bitCount_0f7a4_39 : decode cJ6_bitCount_0f7a4 39 = .ok (.iadd, 1) := by decide +kernel
theorem dJ6_bitCount_0f7a4_40 : decode cJ6_bitCount_0f7a4 40 = .ok (.istore_n 0, 1) := by decide +kernel
theorem dJ6_bitCount_0f7a4_41 : decode cJ6_bitCount_0f7a4 41 = .ok (.iload_n 0, 1) := by decide +kernel
theorem dJ6_bitCount_0f7a4_42 : decode cJ6_bitCount_0f7a4 42 = .ok (.iload_n 0, 1) := by decide +kernel
theorem dJ6_bitCount_0f7a4_43 : decode cJ6_bitCount_0f7a4 43 = .ok (.bipush 16, 2) := by decide +kernel
theorem dJ6_bitCount_0f7a4_45 : decode cJ6_bitCount_0f7a4 45 = .ok (.iushr, 1) := by decide +kernel
theorem dJ6_bitCount_0f7a4_46 : decode cJ6_bitCount_0f7a4 46 = .ok (.iadd, 1) := by decide +kernel
theorem dJ6_bitCount_0f7a4_47 : decode cJ6_bitCount_0f7a4 47 = .ok (.istore_n 0, 1) := by decide +kernel
theorem dJ6_bitCount_0f7a4_48 : decode cJ6_bitCount_0f7a4 48 = .ok (.iload_n 0, 1) := by decide +kernel
theorem dJ6_bitCount_0f7a4_49 : decode cJ6_bitCount_0f7a4 49 = .ok (.bipush 63, 2) := by decide +kernel
theorem dJ6_bitCount_0f7a4_51 : decode cJ6_bitCount_0f7a4 51 = .ok (.iand, 1) := by decide +kernel
theorem dJ6_bitCount_0f7a4_52 : decode cJ6_bitCount_0f7a4 52 = .ok (.ireturn, 1) := by decide +kernel
theorem dJ9_max_7cf53_0 : decode cJ9_max_7cf53 0 = .ok (.iload_n 0, 1) := by decide +kernel
theorem dJ9_max_7cf53_1 : decode cJ9_max_7cf53 1 = .ok (.iload_n 1, 1) := by decide +kernel
theorem dJ9_max_7cf53_2 : decode cJ9_max_7cf53 2 = .ok (.if_icmp .lt 7, 3) := by decide +kernel
theorem dJ9_max_7cf53_5 : decode cJ9_max_7cf53 5 = .ok (.iload_n 0, 1) := by decide +kernel
theorem dJ9_max_7cf53_6 : decode cJ9_max_7cf53 6 = .ok (.goto 4, 3) := by decide +kernel
theorem dJ9_max_7cf53_9 : decode cJ9_max_7cf53 9 = .ok (.iload_n 1, 1) := by decide +kernel
theorem dJ9_max_7cf53_10 : decode cJ9_max_7cf53 10 = .ok (.ireturn, 1) := by decide +kernel
theorem dJ9_min_7cf53_0 : decode cJ9_min_7cf53 0 = .ok (.iload_n 0, 1) := by decide +kernel
theorem dJ9_min_7cf53_1 : decode cJ9_min_7cf53 1 = .ok (.iload_n 1, 1) := by decide +kernel
theorem dJ9_min_7cf53_2 : decode cJ9_min_7cf53 2 = .ok (.if_icmp .gt 7, 3) := by decide +kernel
theorem dJ9_min_7cf53_5 : decode cJ9_min_7cf53 5 = .ok (.iload_n 0, 1) := by decide +kernel
theorem dJ9_min_7cf53_6 : decode cJ9_min_7cf53 6 = .ok (.goto 4, 3) := by decide +kernel
theorem dJ9_min_7cf53_9 : decode cJ9_min_7cf53 9 = .ok (.iload_n 1, 1) := by decide +kernel
theorem dJ9_min_7cf53_10 : decode cJ9_min_7cf53 10 = .ok (.ireturn, 1) := by decide +kernel
