theorem dL_cell_0 : decode cL_cell 0 = .ok (.iload_n 1, 1) := by decide +kernel
theorem dL_cell_1 : decode cL_cell 1 = .ok (.aload_n 0, 1) := by decide +kernel
theorem dL_cell_2 : decode cL_cell 2 = .ok (.arraylength, 1) := by decide +kernel
theorem dL_cell_3 : decode cL_cell 3 = .ok (.if_icmp .ge 9, 3) := by decide +kernel
theorem dL_cell_6 : decode cL_cell 6 = .ok (.aload_n 0, 1) := by decide +kernel
theorem dL_cell_7 : decode cL_cell 7 = .ok (.iload_n 1, 1) := by decide +kernel
theorem dL_cell_8 : decode cL_cell 8 = .ok (.iaload, 1) := by decide +kernel
theorem dL_cell_9 : decode cL_cell 9 = .ok (.goto 10, 3) := by decide +kernel
theorem dL_cell_12 : decode cL_cell 12 = .ok (.ldc 7, 2) := by decide +kernel
theorem dL_cell_14 : decode cL_cell 14 = .ok (.iload_n 1, 1) := by decide +kernel
theorem dL_cell_15 : decode cL_cell 15 = .ok (.bipush 47, 2) := by decide +kernel
theorem dL_cell_17 : decode cL_cell 17 = .ok (.iadd, 1) := by decide +kernel
theorem dL_cell_18 : decode cL_cell 18 = .ok (.imul, 1) := by decide +kernel
theorem dL_cell_19 : decode cL_cell 19 = .ok (.ireturn, 1) := by decide +kernel
theorem dL_up_0 : decode cL_up 0 = .ok (.iload_n 0, 1) := by decide +kernel
theorem dL_up_1 : decode cL_up 1 = .ok (.ldc 8, 2) := by decide +kernel
theorem dL_up_3 : decode cL_up 3 = .ok (.iand, 1) := by decide +kernel
theorem dL_up_4 : decode cL_up 4 = .ok (.iload_n 1, 1) := by decide +kernel
theorem dL_up_5 : decode cL_up 5 = .ok (.irem, 1) := by decide +kernel
theorem dL_up_6 : decode cL_up 6 = .ok (.ireturn, 1) := by decide +kernel
theorem dL_bits_0 : decode cL_bits 0 = .ok (.iconst 0, 1) := by decide +kernel
theorem dL_bits_1 : decode cL_bits 1 = .ok (.istore_n 1, 1) := by decide +kernel
theorem dL_bits_2 : decode cL_bits 2 = .ok (.iconst 0, 1) := by decide +kernel
theorem dL_bits_3 : decode cL_bits 3 = .ok (.istore_n 2, 1) := by decide +kernel
theorem dL_bits_4 : decode cL_bits 4 = .ok (.iload_n 2, 1) := by decide +kernel
theorem dL_bits_5 : decode cL_bits 5 = .ok (.bipush 16, 2) := by decide +kernel
theorem dL_bits_7 : decode cL_bits 7 = .ok (.if_icmp .ge 17, 3) := by decide +kernel
theorem dL_bits_10 : decode cL_bits 10 = .ok (.iload_n 1, 1) := by decide +kernel
theorem dL_bits_11 : decode cL_bits 11 = .ok (.iload_n 0, 1) := by decide +kernel
theorem dL_bits_12 : decode cL_bits 12 = .ok (.iload_n 2, 1) := by decide +kernel
theorem dL_bits_13 : decode cL_bits 13 = .ok (.ishr, 1) := by decide +kernel
theorem dL_bits_14 : decode cL_bits 14 = .ok (.iconst 1, 1) := by decide +kernel
theorem dL_bits_15 : decode cL_bits 15 = .ok (.iand, 1) := by decide +kernel
theorem dL_bits_16 : decode cL_bits 16 = .ok (.iadd, 1) := by decide +kernel
theorem dL_bits_17 : decode cL_bits 17 = .ok (.istore_n 1, 1) := by decide +kernel
theorem dL_bits_18 : decode cL_bits 18 = .ok (.iinc 2 1, 3) := by decide +kernel
theorem dL_bits_21 : decode cL_bits 21 = .ok (.goto (-17), 3) := by decide +kernel
theorem dL_bits_24 : decode cL_bits 24 = .ok (.iload_n 1, 1) := by decide +kernel
theorem dL_bits_25 : decode cL_bits 25 = .ok (.ireturn, 1) := by decide +kernel
set_option maxRecDepth 20000 in
theorem ggL_looks_X4_count : GoodIn wsL_looks wsX4_count := goodIn_ca (goodIn_r _ [7, 8, 9, 10, 11, 12, 13, 14, 15, 16, 17, 18, 19, 20, 21, 22, 23, 24, 25, 26, 27, 28, 29, 30, 31, 32, 33, 34, 35, 36, 37, 6, 38, 39, 40, 41, 42, 43, 44, 45, 46, 47, 48, 49, 50, 51, 52, 53, 54, 55, 56, 57, 58, 59, 60, 61, 62, 63, 64, 65, 66, 67, 68, 69, 70, 71, 72, 73, 74, 75, 76, 77, 78, 79, 80, 81, 82, 83, 84, 85, 86, 148, 149, 150, 151, 152, 153, 154, 155, 156, 157, 158, 159, 160, 161, 162, 163, 164, 165] (by decide +kernel) (by decide +kernel)) (goodIn_sub (fun _ h => List.mem_cons_of_mem _ (List.mem_append_left _ (List.mem_append_right _ h))) (by decide +kernel))
set_option maxRecDepth 20000 in
theorem gL_looks_X4_count : GoodIn wsL_looks (wsV RL 13 RX4 yX4_count wsX4_count) := goodIn_app (goodIn_of _ (by decide +kernel)) ggL_looks_X4_count
set_option maxRecDepth 20000 in
theorem ggL_looks_X4_machine : GoodIn wsL_looks wsX4_machine := goodIn_ca (goodIn_r _ [90, 8, 9, 10, 91, 92, 93, 94, 95, 96, 97, 148, 149, 150, 151, 152, 153, 154, 155, 156, 157, 158, 159, 160, 161, 162, 166, 167, 168, 169, 170, 171, 172] (by decide +kernel) (by decide +kernel)) (goodIn_sub (fun _ h => List.mem_cons_of_mem _ (List.mem_append_left _ (List.mem_append_right _ h))) (by decide +kernel))
set_option maxRecDepth 20000 in
theorem gL_looks_X4_machine : GoodIn wsL_looks (wsV RL 19 RX4 yX4_machine wsX4_machine) := goodIn_app (goodIn_of _ (by decide +kernel)) ggL_looks_X4_machine
set_option maxRecDepth 20000 in
theorem ggL_looks_X4_threadOf : GoodIn wsL_looks wsX4_threadOf := goodIn_ca (goodIn_ca (goodIn_r _ [101, 102, 103, 8, 9, 10, 104, 13, 105, 106, 107, 6, 108, 109, 110, 111, 112, 37, 38, 113, 114, 115, 19, 116, 21, 76, 77, 78, 79, 47, 72, 73, 74, 75, 43, 44, 45, 46, 48, 49, 50, 51, 52, 53, 54, 55, 56, 57, 58, 59, 60, 61, 62, 23, 24, 25, 26, 27, 28, 117, 148, 149, 150, 151, 152, 153, 154, 155, 156, 157, 158, 159, 160, 161, 162] (by decide +kernel) (by decide +kernel)) (goodIn_sub (fun _ h => List.mem_cons_of_mem _ (List.mem_append_right _ h)) (by decide +kernel))) (goodIn_sub (fun _ h => List.mem_cons_of_mem _ (List.mem_append_left _ (List.mem_append_right _ h))) (by decide +kernel))
set_option maxRecDepth 20000 in
theorem gL_looks_X4_threadOf : GoodIn wsL_looks (wsV RL 22 RX4 yX4_threadOf wsX4_threadOf) := goodIn_app (goodIn_of _ (by decide +kernel)) ggL_looks_X4_threadOf
set_option maxRecDepth 20000 in
theorem ggL_looks_X4_ringOf : GoodIn wsL_looks wsX4_ringOf := goodIn_ca (goodIn_ca (goodIn_r _ [121, 102, 103, 8, 9, 10, 122, 123, 124, 6, 125, 109, 110, 111, 126, 34, 35, 19, 36, 21, 37, 38, 62, 23, 24, 25, 26, 27, 28, 127, 128, 129, 130, 43, 44, 45, 46, 47, 48, 49, 50, 51, 52, 53, 54, 55, 56, 57, 58, 59, 60, 61, 131, 132, 133, 134, 33, 148, 149, 150, 151, 152, 153, 154, 155, 156, 157, 158, 159, 160, 161, 162] (by decide +kernel) (by decide +kernel)) (goodIn_sub (fun _ h => List.mem_cons_of_mem _ (List.mem_append_right _ h)) (by decide +kernel))) (goodIn_sub (fun _ h => List.mem_cons_of_mem _ (List.mem_append_left _ (List.mem_append_right _ h))) (by decide +kernel))
set_option maxRecDepth 20000 in
theorem gL_looks_X4_ringOf : GoodIn wsL_looks (wsV RL 26 RX4 yX4_ringOf wsX4_ringOf) := goodIn_app (goodIn_of _ (by decide +kernel)) ggL_looks_X4_ringOf
set_option maxRecDepth 20000 in
theorem ggL_looks_X4_told : GoodIn wsL_looks wsX4_told := goodIn_ca (goodIn_r _ [138, 8, 9, 10, 91, 139, 109, 110, 6, 111, 148, 149, 150, 151, 152, 153, 154, 155, 156, 157, 158, 159, 160, 161, 162, 166, 167, 168, 169, 170, 171, 172] (by decide +kernel) (by decide +kernel)) (goodIn_sub (fun _ h => List.mem_cons_of_mem _ (List.mem_append_left _ (List.mem_append_right _ h))) (by decide +kernel))
set_option maxRecDepth 20000 in
theorem gL_looks_X4_told : GoodIn wsL_looks (wsV RL 29 RX4 yX4_told wsX4_told) := goodIn_app (goodIn_of _ (by decide +kernel)) ggL_looks_X4_told
set_option maxRecDepth 20000 in
theorem ggL_looks_X4_setting : GoodIn wsL_looks wsX4_setting := goodIn_ca (goodIn_r _ [143, 102, 103, 10, 144, 145, 146, 6, 147, 109, 110, 111, 148, 149, 150, 151, 152, 153, 154, 155, 156, 157, 158, 159, 160, 161, 162] (by decide +kernel) (by decide +kernel)) (goodIn_sub (fun _ h => List.mem_cons_of_mem _ (List.mem_append_right _ h)) (by decide +kernel))
set_option maxRecDepth 20000 in
theorem gL_looks_X4_setting : GoodIn wsL_looks (wsV RL 32 RX4 yX4_setting wsX4_setting) := goodIn_app (goodIn_of _ (by decide +kernel)) ggL_looks_X4_setting
theorem dL_looks_0 : decode cL_looks 0 = .ok (.ldc2_w 9, 3) := by decide +kernel
theorem dL_looks_3 : decode cL_looks 3 = .ok (.lstore_n 1, 1) := by decide +kernel
theorem dL_looks_4 : decode cL_looks 4 = .ok (.iconst 0, 1) := by decide +kernel
theorem dL_looks_5 : decode cL_looks 5 = .ok (.istore_n 3, 1) := by decide +kernel
theorem dL_looks_6 : decode cL_looks 6 = .ok (.iload_n 3, 1) := by decide +kernel
theorem dL_looks_7 : decode cL_looks 7 = .ok (.bipush 9, 2) := by decide +kernel
theorem dL_looks_9 : decode cL_looks 9 = .ok (.if_icmp .ge 33, 3) := by decide +kernel
theorem dL_looks_12 : decode cL_looks 12 = .ok (.ldc2_w 11, 3) := by decide +kernel
theorem dL_looks_15 : decode cL_looks 15 = .ok (.ldc2_w 11, 3) := by decide +kernel
theorem dL_looks_18 : decode cL_looks 18 = .ok (.lload_n 1, 1) := by decide +kernel
theorem dL_looks_19 : decode cL_looks 19 = .ok (.lmul, 1) := by decide +kernel
theorem dL_looks_20 : decode cL_looks 20 = .ok (.aload_n 0, 1) := by decide +kernel
theorem dL_looks_21 : decode cL_looks 21 = .ok (.iload_n 3, 1) := by decide +kernel
theorem dL_looks_22 : decode cL_looks 22 = .ok (.invokevirtual 13, 3) := by decide +kernel
theorem dL_looks_25 : decode cL_looks 25 = .ok (.i2l, 1) := by decide +kernel
theorem dL_looks_26 : decode cL_looks 26 = .ok (.ladd, 1) := by decide +kernel
theorem dL_looks_27 : decode cL_looks 27 = .ok (.lmul, 1) := by decide +kernel
theorem dL_looks_28 : decode cL_looks 28 = .ok (.aload_n 0, 1) := by decide +kernel
theorem dL_looks_29 : decode cL_looks 29 = .ok (.iload_n 3, 1) := by decide +kernel
theorem dL_looks_30 : decode cL_looks 30 = .ok (.invokevirtual 19, 3) := by decide +kernel
theorem dL_looks_33 : decode cL_looks 33 = .ok (.i2l, 1) := by decide +kernel
theorem dL_looks_34 : decode cL_looks 34 = .ok (.ladd, 1) := by decide +kernel
theorem dL_looks_35 : decode cL_looks 35 = .ok (.lstore_n 1, 1) := by decide +kernel
theorem dL_looks_36 : decode cL_looks 36 = .ok (.iinc 3 1, 3) := by decide +kernel
theorem dL_looks_39 : decode cL_looks 39 = .ok (.goto (-33), 3) := by decide +kernel
theorem dL_looks_42 : decode cL_looks 42 = .ok (.iconst 0, 1) := by decide +kernel
theorem dL_looks_43 : decode cL_looks 43 = .ok (.istore_n 3, 1) := by decide +kernel
theorem dL_looks_44 : decode cL_looks 44 = .ok (.iload_n 3, 1) := by decide +kernel
theorem dL_looks_45 : decode cL_looks 45 = .ok (.sipush 128, 3) := by decide +kernel
theorem dL_looks_48 : decode cL_looks 48 = .ok (.if_icmp .ge 29, 3) := by decide +kernel
theorem dL_looks_51 : decode cL_looks 51 = .ok (.ldc2_w 11, 3) := by decide +kernel
theorem dL_looks_54 : decode cL_looks 54 = .ok (.lload_n 1, 1) := by decide +kernel
theorem dL_looks_55 : decode cL_looks 55 = .ok (.lmul, 1) := by decide +kernel
theorem dL_looks_56 : decode cL_looks 56 = .ok (.aload_n 0, 1) := by decide +kernel
theorem dL_looks_57 : decode cL_looks 57 = .ok (.iload_n 3, 1) := by decide +kernel
theorem dL_looks_58 : decode cL_looks 58 = .ok (.bipush 8, 2) := by decide +kernel
theorem dL_looks_60 : decode cL_looks 60 = .ok (.idiv, 1) := by decide +kernel
theorem dL_looks_61 : decode cL_looks 61 = .ok (.iload_n 3, 1) := by decide +kernel
theorem dL_looks_62 : decode cL_looks 62 = .ok (.bipush 8, 2) := by decide +kernel
theorem dL_looks_64 : decode cL_looks 64 = .ok (.irem, 1) := by decide +kernel
theorem dL_looks_65 : decode cL_looks 65 = .ok (.invokevirtual 22, 3) := by decide +kernel
theorem dL_looks_68 : decode cL_looks 68 = .ok (.i2l, 1) := by decide +kernel
theorem dL_looks_69 : decode cL_looks 69 = .ok (.ladd, 1) := by decide +kernel
theorem dL_looks_70 : decode cL_looks 70 = .ok (.lstore_n 1, 1) := by decide +kernel
theorem dL_looks_71 : decode cL_looks 71 = .ok (.iinc 3 1, 3) := by decide +kernel
theorem dL_looks_74 : decode cL_looks 74 = .ok (.goto (-30), 3) := by decide +kernel
theorem dL_looks_77 : decode cL_looks 77 = .ok (.iconst 0, 1) := by decide +kernel
theorem dL_looks_78 : decode cL_looks 78 = .ok (.istore_n 3, 1) := by decide +kernel
theorem dL_looks_79 : decode cL_looks 79 = .ok (.iload_n 3, 1) := by decide +kernel
theorem dL_looks_80 : decode cL_looks 80 = .ok (.bipush 40, 2) := by decide +kernel
theorem dL_looks_82 : decode cL_looks 82 = .ok (.if_icmp .ge 40, 3) := by decide +kernel
theorem dL_looks_85 : decode cL_looks 85 = .ok (.ldc2_w 11, 3) := by decide +kernel
theorem dL_looks_88 : decode cL_looks 88 = .ok (.ldc2_w 11, 3) := by decide +kernel
theorem dL_looks_91 : decode cL_looks 91 = .ok (.lload_n 1, 1) := by decide +kernel
theorem dL_looks_92 : decode cL_looks 92 = .ok (.lmul, 1) := by decide +kernel
theorem dL_looks_93 : decode cL_looks 93 = .ok (.aload_n 0, 1) := by decide +kernel
theorem dL_looks_94 : decode cL_looks 94 = .ok (.iload_n 3, 1) := by decide +kernel
theorem dL_looks_95 : decode cL_looks 95 = .ok (.iconst 5, 1) := by decide +kernel
theorem dL_looks_96 : decode cL_looks 96 = .ok (.idiv, 1) := by decide +kernel
theorem dL_looks_97 : decode cL_looks 97 = .ok (.iload_n 3, 1) := by decide +kernel
theorem dL_looks_98 : decode cL_looks 98 = .ok (.iconst 5, 1) := by decide +kernel
theorem dL_looks_99 : decode cL_looks 99 = .ok (.irem, 1) := by decide +kernel
theorem dL_looks_100 : decode cL_looks 100 = .ok (.invokevirtual 26, 3) := by decide +kernel
theorem dL_looks_103 : decode cL_looks 103 = .ok (.i2l, 1) := by decide +kernel
theorem dL_looks_104 : decode cL_looks 104 = .ok (.ladd, 1) := by decide +kernel
theorem dL_looks_105 : decode cL_looks 105 = .ok (.lmul, 1) := by decide +kernel
theorem dL_looks_106 : decode cL_looks 106 = .ok (.aload_n 0, 1) := by decide +kernel
theorem dL_looks_107 : decode cL_looks 107 = .ok (.iload_n 3, 1) := by decide +kernel
theorem dL_looks_108 : decode cL_looks 108 = .ok (.iconst 5, 1) := by decide +kernel
theorem dL_looks_109 : decode cL_looks 109 = .ok (.idiv, 1) := by decide +kernel
theorem dL_looks_110 : decode cL_looks 110 = .ok (.invokevirtual 29, 3) := by decide +kernel
theorem dL_looks_113 : decode cL_looks 113 = .ok (.i2l, 1) := by decide +kernel
theorem dL_looks_114 : decode cL_looks 114 = .ok (.ladd, 1) := by decide +kernel
theorem dL_looks_115 : decode cL_looks 115 = .ok (.lstore_n 1, 1) := by decide +kernel
theorem dL_looks_116 : decode cL_looks 116 = .ok (.iinc 3 1, 3) := by decide +kernel
theorem dL_looks_119 : decode cL_looks 119 = .ok (.goto (-40), 3) := by decide +kernel
theorem dL_looks_122 : decode cL_looks 122 = .ok (.ldc2_w 11, 3) := by decide +kernel
theorem dL_looks_125 : decode cL_looks 125 = .ok (.ldc2_w 11, 3) := by decide +kernel
theorem dL_looks_128 : decode cL_looks 128 = .ok (.lload_n 1, 1) := by decide +kernel
theorem dL_looks_129 : decode cL_looks 129 = .ok (.lmul, 1) := by decide +kernel
theorem dL_looks_130 : decode cL_looks 130 = .ok (.aload_n 0, 1) := by decide +kernel
theorem dL_looks_131 : decode cL_looks 131 = .ok (.iconst 0, 1) := by decide +kernel
theorem dL_looks_132 : decode cL_looks 132 = .ok (.invokevirtual 32, 3) := by decide +kernel
theorem dL_looks_135 : decode cL_looks 135 = .ok (.i2l, 1) := by decide +kernel
theorem dL_looks_136 : decode cL_looks 136 = .ok (.ladd, 1) := by decide +kernel
theorem dL_looks_137 : decode cL_looks 137 = .ok (.lmul, 1) := by decide +kernel
theorem dL_looks_138 : decode cL_looks 138 = .ok (.aload_n 0, 1) := by decide +kernel
theorem dL_looks_139 : decode cL_looks 139 = .ok (.iconst 1, 1) := by decide +kernel
theorem dL_looks_140 : decode cL_looks 140 = .ok (.invokevirtual 32, 3) := by decide +kernel
theorem dL_looks_143 : decode cL_looks 143 = .ok (.i2l, 1) := by decide +kernel
theorem dL_looks_144 : decode cL_looks 144 = .ok (.ladd, 1) := by decide +kernel
theorem dL_looks_145 : decode cL_looks 145 = .ok (.lreturn, 1) := by decide +kernel
set_option maxRecDepth 20000 in
theorem ggL_act_L_up : GoodIn wsL_act wsL_up := goodIn_r _ [4, 5] (by decide +kernel) (by decide +kernel)
set_option maxRecDepth 20000 in
theorem gL_act_L_up : GoodIn wsL_act (va_wsS RL 35 yL_up wsL_up) := goodIn_app (goodIn_of _ (by decide +kernel)) ggL_act_L_up
set_option maxRecDepth 20000 in
theorem ggL_act_X4_cross : GoodIn wsL_act wsX4_cross := goodIn_ca (goodIn_r _ [10, 11, 12, 13, 14, 15, 16, 17, 9, 18, 19, 20, 21, 22, 23, 24, 25, 26, 27, 28, 29, 30, 31, 32, 33, 34, 35, 36, 37, 38, 39, 40, 41, 42, 43, 44, 45, 46, 47, 48, 49, 50, 51, 52, 53, 54, 55, 56, 57, 58, 59, 60, 61, 62, 63, 64, 65, 66, 67, 68, 69, 70, 71, 72, 73, 74, 75, 76, 77, 78, 79, 80, 81, 82, 83, 84, 193, 194, 195, 196, 197, 198, 199, 200, 201, 202, 203, 204, 205, 206, 207, 208, 209, 210, 211, 212, 213, 214, 215, 216, 217] (by decide +kernel) (by decide +kernel)) (goodIn_sub (fun _ h => List.mem_cons_of_mem _ (List.mem_append_left _ (List.mem_append_left _ (List.mem_append_right _ h)))) (by decide +kernel))
set_option maxRecDepth 20000 in
theorem gL_act_X4_cross : GoodIn wsL_act (wsV RL 40 RX4 yX4_cross wsX4_cross) := goodIn_app (goodIn_of _ (by decide +kernel)) ggL_act_X4_cross
set_option maxRecDepth 20000 in
theorem ggL_act_X4_lay : GoodIn wsL_act wsX4_lay := goodIn_ca (goodIn_ca (goodIn_r _ [88, 11, 12, 89, 90, 13, 14, 16, 17, 9, 18, 19, 20, 21, 25, 26, 27, 28, 29, 30, 31, 32, 33, 34, 35, 36, 37, 38, 39, 40, 41, 42, 43, 44, 45, 46, 47, 48, 49, 50, 51, 52, 53, 54, 55, 56, 57, 58, 59, 60, 61, 62, 91, 92, 93, 94, 63, 64, 65, 66, 67, 68, 69, 70, 71, 72, 73, 74, 75, 76, 77, 78, 79, 80, 81, 82, 83, 193, 194, 195, 196, 197, 198, 199, 208, 209, 210, 200, 201, 202, 203, 204, 205, 206, 207, 211, 212, 213, 214, 215, 216, 217] (by decide +kernel) (by decide +kernel)) (goodIn_sub (fun _ h => List.mem_cons_of_mem _ (List.mem_append_left _ (List.mem_append_left _ (List.mem_append_right _ h)))) (by decide +kernel))) (goodIn_sub (fun _ h => List.mem_cons_of_mem _ (List.mem_append_left _ (List.mem_append_right _ h))) (by decide +kernel))
set_option maxRecDepth 20000 in
theorem gL_act_X4_lay : GoodIn wsL_act (wsV RL 43 RX4 yX4_lay wsX4_lay) := goodIn_app (goodIn_of _ (by decide +kernel)) ggL_act_X4_lay
set_option maxRecDepth 20000 in
theorem ggL_act_X4_guard : GoodIn wsL_act wsX4_guard := goodIn_ca (goodIn_r _ [98, 11, 12, 13, 14, 99, 16, 17, 9, 18, 19, 20, 21, 25, 26, 27, 28, 29, 30, 31, 32, 33, 34, 35, 36, 37, 38, 39, 40, 41, 42, 43, 44, 45, 46, 47, 48, 49, 50, 51, 52, 53, 54, 55, 56, 57, 58, 59, 60, 61, 62, 84, 75, 76, 193, 194, 195, 196, 197, 198, 199, 200, 201, 202, 203, 204, 205, 206, 207, 208, 209, 210, 211, 212, 213, 214, 215, 216, 217] (by decide +kernel) (by decide +kernel)) (goodIn_sub (fun _ h => List.mem_cons_of_mem _ (List.mem_append_left _ (List.mem_append_left _ (List.mem_append_right _ h)))) (by decide +kernel))
set_option maxRecDepth 20000 in
theorem gL_act_X4_guard : GoodIn wsL_act (wsV RL 46 RX4 yX4_guard wsX4_guard) := goodIn_app (goodIn_of _ (by decide +kernel)) ggL_act_X4_guard
set_option maxRecDepth 20000 in
theorem ggL_act_X4_set : GoodIn wsL_act wsX4_set := goodIn_ca (goodIn_ca (goodIn_r _ [103, 11, 12, 89, 90, 13, 14, 104, 105, 106, 9, 107, 19, 20, 21, 25, 26, 27, 28, 29, 30, 31, 32, 33, 34, 35, 36, 37, 38, 39, 40, 41, 42, 43, 44, 45, 46, 47, 48, 49, 50, 51, 52, 53, 54, 55, 56, 57, 58, 59, 60, 61, 62, 193, 194, 195, 196, 197, 198, 199, 200, 201, 202, 203, 204, 205, 206, 207, 208, 209, 210, 211, 212, 213, 214, 215, 216, 217] (by decide +kernel) (by decide +kernel)) (goodIn_sub (fun _ h => List.mem_cons_of_mem _ (List.mem_append_left _ (List.mem_append_left _ (List.mem_append_right _ h)))) (by decide +kernel))) (goodIn_sub (fun _ h => List.mem_cons_of_mem _ (List.mem_append_left _ (List.mem_append_right _ h))) (by decide +kernel))
set_option maxRecDepth 20000 in
theorem gL_act_X4_set : GoodIn wsL_act (wsV RL 49 RX4 yX4_set wsX4_set) := goodIn_app (goodIn_of _ (by decide +kernel)) ggL_act_X4_set
set_option maxRecDepth 20000 in
theorem ggL_act_X4_change : GoodIn wsL_act wsX4_change := goodIn_ca (goodIn_r _ [111, 11, 12, 13, 14, 22, 23, 9, 24, 19, 20, 21, 25, 26, 27, 28, 29, 30, 31, 32, 33, 34, 35, 36, 37, 38, 39, 40, 41, 42, 43, 44, 45, 46, 47, 48, 49, 50, 51, 52, 53, 54, 55, 56, 57, 58, 59, 60, 61, 62, 112, 113, 114, 115, 116, 117, 118, 119, 75, 76, 77, 78, 79, 80, 81, 82, 83, 193, 194, 195, 196, 197, 198, 199, 208, 209, 210, 200, 201, 202, 203, 204, 205, 206, 207, 211, 212, 213, 214, 215, 216, 217] (by decide +kernel) (by decide +kernel)) (goodIn_sub (fun _ h => List.mem_cons_of_mem _ (List.mem_append_left _ (List.mem_append_left _ (List.mem_append_right _ h)))) (by decide +kernel))
set_option maxRecDepth 20000 in
theorem gL_act_X4_change : GoodIn wsL_act (wsV RL 52 RX4 yX4_change wsX4_change) := goodIn_app (goodIn_of _ (by decide +kernel)) ggL_act_X4_change
set_option maxRecDepth 20000 in
theorem ggL_act_X4_read : GoodIn wsL_act wsX4_read := goodIn_ca (goodIn_r _ [123, 11, 12, 13, 14, 16, 17, 9, 18, 19, 20, 21, 25, 26, 27, 28, 29, 30, 31, 32, 33, 34, 35, 36, 37, 38, 39, 40, 41, 42, 43, 44, 45, 46, 47, 48, 49, 50, 51, 52, 53, 54, 55, 56, 57, 58, 59, 60, 61, 62, 124, 125, 126, 127, 128, 129, 130, 131, 132, 133, 134, 135, 75, 76, 136, 137, 138, 139, 140, 141, 73, 142, 143, 144, 145, 146, 147, 92, 93, 94, 67, 68, 69, 70, 71, 72, 74, 193, 194, 195, 196, 197, 198, 199, 208, 209, 210, 200, 201, 202, 203, 204, 205, 206, 207, 211, 212, 213, 214, 215, 216, 217] (by decide +kernel) (by decide +kernel)) (goodIn_sub (fun _ h => List.mem_cons_of_mem _ (List.mem_append_left _ (List.mem_append_left _ (List.mem_append_right _ h)))) (by decide +kernel))
set_option maxRecDepth 20000 in
theorem gL_act_X4_read : GoodIn wsL_act (wsV RL 55 RX4 yX4_read wsX4_read) := goodIn_app (goodIn_of _ (by decide +kernel)) ggL_act_X4_read
set_option maxRecDepth 20000 in
theorem ggL_act_X4_start : GoodIn wsL_act wsX4_start := goodIn_r _ [151, 13, 14, 152, 153, 25, 26, 27, 28, 29, 30, 31, 32, 33, 34, 35, 36, 37, 38, 39, 40, 41, 42, 43, 44, 45, 46, 47, 48, 49, 50, 51, 52, 53, 54, 55, 56, 57, 58, 59, 60, 61, 62, 154, 155, 156, 157, 193, 194, 195, 196, 197, 198, 199, 200, 201, 202, 203, 204, 205, 206, 207, 211, 212, 213, 214, 215, 216, 217, 208, 209, 210] (by decide +kernel) (by decide +kernel)
set_option maxRecDepth 20000 in
theorem gL_act_X4_start : GoodIn wsL_act (wsV RL 58 RX4 yX4_start wsX4_start) := goodIn_app (goodIn_of _ (by decide +kernel)) ggL_act_X4_start
set_option maxRecDepth 20000 in
theorem ggL_act_X4_go : GoodIn wsL_act wsX4_go := goodIn_ca (goodIn_r _ [161, 89, 90, 13, 14, 19, 20, 9, 21, 25, 26, 27, 28, 29, 30, 31, 32, 33, 34, 35, 36, 37, 38, 39, 40, 41, 42, 43, 44, 45, 46, 47, 48, 49, 50, 51, 52, 53, 54, 55, 56, 57, 58, 59, 60, 61, 62, 162, 163, 164, 165, 166, 167, 168, 125, 126, 127, 128, 129, 130, 131, 132, 133, 134, 135, 75, 76, 136, 137, 138, 139, 140, 141, 73, 142, 143, 144, 145, 146, 147, 92, 93, 94, 67, 68, 69, 70, 71, 72, 74, 169, 170, 171, 172, 173, 174, 175, 176, 193, 194, 195, 196, 197, 198, 199, 208, 209, 210, 200, 201, 202, 203, 204, 205, 206, 207, 211, 212, 213, 214, 215, 216, 217] (by decide +kernel) (by decide +kernel)) (goodIn_sub (fun _ h => List.mem_cons_of_mem _ (List.mem_append_left _ (List.mem_append_right _ h))) (by decide +kernel))
set_option maxRecDepth 20000 in
theorem gL_act_X4_go : GoodIn wsL_act (wsV RL 62 RX4 yX4_go wsX4_go) := goodIn_app (goodIn_of _ (by decide +kernel)) ggL_act_X4_go
set_option maxRecDepth 20000 in
theorem ggL_act_X4_goBack : GoodIn wsL_act wsX4_goBack := goodIn_ca (goodIn_ca (goodIn_r _ [180, 89, 90, 181, 182, 183, 13, 14, 184, 185, 186, 9, 187, 19, 20, 21, 25, 26, 27, 28, 29, 30, 31, 32, 33, 34, 35, 36, 37, 38, 39, 40, 41, 42, 43, 44, 45, 46, 47, 48, 49, 50, 51, 52, 53, 54, 55, 56, 57, 58, 59, 60, 61, 62, 188, 189, 190, 191, 192, 77, 78, 79, 80, 81, 82, 83, 193, 194, 195, 196, 197, 198, 199, 208, 209, 210, 200, 201, 202, 203, 204, 205, 206, 207, 211, 212, 213, 214, 215, 216, 217] (by decide +kernel) (by decide +kernel)) (goodIn_sub (fun _ h => List.mem_cons_of_mem _ (List.mem_append_left _ (List.mem_append_right _ h))) (by decide +kernel))) (goodIn_sub (fun _ h => List.mem_cons_of_mem _ (List.mem_append_right _ h)) (by decide +kernel))
set_option maxRecDepth 20000 in
theorem gL_act_X4_goBack : GoodIn wsL_act (wsV RL 65 RX4 yX4_goBack wsX4_goBack) := goodIn_app (goodIn_of _ (by decide +kernel)) ggL_act_X4_goBack
theorem dL_act_0 : decode cL_act 0 = .ok (.iload_n 2, 1) := by decide +kernel
theorem dL_act_1 : decode cL_act 1 = .ok (.bipush 16, 2) := by decide +kernel
theorem dL_act_3 : decode cL_act 3 = .ok (.invokestatic 35, 3) := by decide +kernel
theorem dL_act_6 : decode cL_act 6 = .ok (.istore_n 3, 1) := by decide +kernel
theorem dL_act_7 : decode cL_act 7 = .ok (.iload_n 1, 1) := by decide +kernel
theorem dL_act_8 : decode cL_act 8 = .ok (.bipush 16, 2) := by decide +kernel
theorem dL_act_10 : decode cL_act 10 = .ok (.invokestatic 35, 3) := by decide +kernel
theorem dL_act_13 : decode cL_act 13 = .ok (.tableswitch 185 0 12 #[67, 67, 67, 81, 81, 81, 96, 96, 102, 116, 125, 152, 179], 67) := by decide +kernel
theorem dL_act_80 : decode cL_act 80 = .ok (.aload_n 0, 1) := by decide +kernel
theorem dL_act_81 : decode cL_act 81 = .ok (.iload_n 3, 1) := by decide +kernel
theorem dL_act_82 : decode cL_act 82 = .ok (.iload_n 2, 1) := by decide +kernel
theorem dL_act_83 : decode cL_act 83 = .ok (.iconst 4, 1) := by decide +kernel
theorem dL_act_84 : decode cL_act 84 = .ok (.ishr, 1) := by decide +kernel
theorem dL_act_85 : decode cL_act 85 = .ok (.bipush 8, 2) := by decide +kernel
theorem dL_act_87 : decode cL_act 87 = .ok (.invokestatic 35, 3) := by decide +kernel
theorem dL_act_90 : decode cL_act 90 = .ok (.invokevirtual 40, 3) := by decide +kernel
theorem dL_act_93 : decode cL_act 93 = .ok (.ireturn, 1) := by decide +kernel
theorem dL_act_94 : decode cL_act 94 = .ok (.aload_n 0, 1) := by decide +kernel
theorem dL_act_95 : decode cL_act 95 = .ok (.iload_n 3, 1) := by decide +kernel
theorem dL_act_96 : decode cL_act 96 = .ok (.iload_n 2, 1) := by decide +kernel
theorem dL_act_97 : decode cL_act 97 = .ok (.iconst 4, 1) := by decide +kernel
theorem dL_act_98 : decode cL_act 98 = .ok (.ishr, 1) := by decide +kernel
theorem dL_act_99 : decode cL_act 99 = .ok (.sipush 256, 3) := by decide +kernel
theorem dL_act_102 : decode cL_act 102 = .ok (.invokestatic 35, 3) := by decide +kernel
theorem dL_act_105 : decode cL_act 105 = .ok (.invokevirtual 43, 3) := by decide +kernel
theorem dL_act_108 : decode cL_act 108 = .ok (.ireturn, 1) := by decide +kernel
theorem dL_act_109 : decode cL_act 109 = .ok (.aload_n 0, 1) := by decide +kernel
theorem dL_act_110 : decode cL_act 110 = .ok (.iload_n 3, 1) := by decide +kernel
theorem dL_act_111 : decode cL_act 111 = .ok (.invokevirtual 46, 3) := by decide +kernel
theorem dL_act_114 : decode cL_act 114 = .ok (.ireturn, 1) := by decide +kernel
theorem dL_act_115 : decode cL_act 115 = .ok (.aload_n 0, 1) := by decide +kernel
theorem dL_act_116 : decode cL_act 116 = .ok (.iconst 0, 1) := by decide +kernel
theorem dL_act_117 : decode cL_act 117 = .ok (.iconst 1, 1) := by decide +kernel
theorem dL_act_118 : decode cL_act 118 = .ok (.iload_n 2, 1) := by decide +kernel
theorem dL_act_119 : decode cL_act 119 = .ok (.bipush 8, 2) := by decide +kernel
theorem dL_act_121 : decode cL_act 121 = .ok (.invokestatic 35, 3) := by decide +kernel
theorem dL_act_124 : decode cL_act 124 = .ok (.iadd, 1) := by decide +kernel
theorem dL_act_125 : decode cL_act 125 = .ok (.invokevirtual 49, 3) := by decide +kernel
theorem dL_act_128 : decode cL_act 128 = .ok (.ireturn, 1) := by decide +kernel
theorem dL_act_129 : decode cL_act 129 = .ok (.aload_n 0, 1) := by decide +kernel
theorem dL_act_130 : decode cL_act 130 = .ok (.iconst 1, 1) := by decide +kernel
theorem dL_act_131 : decode cL_act 131 = .ok (.iload_n 2, 1) := by decide +kernel
theorem dL_act_132 : decode cL_act 132 = .ok (.iconst 1, 1) := by decide +kernel
theorem dL_act_133 : decode cL_act 133 = .ok (.iand, 1) := by decide +kernel
theorem dL_act_134 : decode cL_act 134 = .ok (.invokevirtual 49, 3) := by decide +kernel
theorem dL_act_137 : decode cL_act 137 = .ok (.ireturn, 1) := by decide +kernel
theorem dL_act_138 : decode cL_act 138 = .ok (.iload_n 2, 1) := by decide +kernel
theorem dL_act_139 : decode cL_act 139 = .ok (.iconst 3, 1) := by decide +kernel
theorem dL_act_140 : decode cL_act 140 = .ok (.iand, 1) := by decide +kernel
theorem dL_act_141 : decode cL_act 141 = .ok (.ifCond .ne 18, 3) := by decide +kernel
theorem dL_act_144 : decode cL_act 144 = .ok (.aload_n 0, 1) := by decide +kernel
theorem dL_act_145 : decode cL_act 145 = .ok (.iload_n 2, 1) := by decide +kernel
theorem dL_act_146 : decode cL_act 146 = .ok (.iconst 4, 1) := by decide +kernel
theorem dL_act_147 : decode cL_act 147 = .ok (.ishr, 1) := by decide +kernel
theorem dL_act_148 : decode cL_act 148 = .ok (.bipush 8, 2) := by decide +kernel
theorem dL_act_150 : decode cL_act 150 = .ok (.invokestatic 35, 3) := by decide +kernel
theorem dL_act_153 : decode cL_act 153 = .ok (.invokevirtual 52, 3) := by decide +kernel
theorem dL_act_156 : decode cL_act 156 = .ok (.goto 8, 3) := by decide +kernel
theorem dL_act_159 : decode cL_act 159 = .ok (.aload_n 0, 1) := by decide +kernel
theorem dL_act_160 : decode cL_act 160 = .ok (.iload_n 3, 1) := by decide +kernel
theorem dL_act_161 : decode cL_act 161 = .ok (.invokevirtual 55, 3) := by decide +kernel
theorem dL_act_164 : decode cL_act 164 = .ok (.ireturn, 1) := by decide +kernel
theorem dL_act_165 : decode cL_act 165 = .ok (.iload_n 2, 1) := by decide +kernel
theorem dL_act_166 : decode cL_act 166 = .ok (.bipush 7, 2) := by decide +kernel
theorem dL_act_168 : decode cL_act 168 = .ok (.iand, 1) := by decide +kernel
theorem dL_act_169 : decode cL_act 169 = .ok (.ifCond .ne 10, 3) := by decide +kernel
theorem dL_act_172 : decode cL_act 172 = .ok (.aload_n 0, 1) := by decide +kernel
theorem dL_act_173 : decode cL_act 173 = .ok (.invokevirtual 58, 3) := by decide +kernel
theorem dL_act_176 : decode cL_act 176 = .ok (.goto 15, 3) := by decide +kernel
theorem dL_act_179 : decode cL_act 179 = .ok (.aload_n 0, 1) := by decide +kernel
theorem dL_act_180 : decode cL_act 180 = .ok (.iconst 1, 1) := by decide +kernel
theorem dL_act_181 : decode cL_act 181 = .ok (.iload_n 2, 1) := by decide +kernel
theorem dL_act_182 : decode cL_act 182 = .ok (.bipush 9, 2) := by decide +kernel
theorem dL_act_184 : decode cL_act 184 = .ok (.invokestatic 35, 3) := by decide +kernel
theorem dL_act_187 : decode cL_act 187 = .ok (.iadd, 1) := by decide +kernel
theorem dL_act_188 : decode cL_act 188 = .ok (.invokevirtual 62, 3) := by decide +kernel
theorem dL_act_191 : decode cL_act 191 = .ok (.ireturn, 1) := by decide +kernel
theorem dL_act_192 : decode cL_act 192 = .ok (.aload_n 0, 1) := by decide +kernel
theorem dL_act_193 : decode cL_act 193 = .ok (.iconst 0, 1) := by decide +kernel
theorem dL_act_194 : decode cL_act 194 = .ok (.invokevirtual 65, 3) := by decide +kernel
theorem dL_act_197 : decode cL_act 197 = .ok (.ireturn, 1) := by decide +kernel
theorem dL_act_198 : decode cL_act 198 = .ok (.aload_n 0, 1) := by decide +kernel
theorem dL_act_199 : decode cL_act 199 = .ok (.iload_n 3, 1) := by decide +kernel
theorem dL_act_200 : decode cL_act 200 = .ok (.invokevirtual 55, 3) := by decide +kernel
theorem dL_act_203 : decode cL_act 203 = .ok (.ireturn, 1) := by decide +kernel
set_option maxRecDepth 20000 in
theorem ggL_isStrong_X4_threadOf : GoodIn wsL_isStrong wsX4_threadOf := goodIn_ca (goodIn_ca (goodIn_r _ [5, 6, 7, 8, 9, 10, 11, 12, 13, 14, 15, 4, 16, 17, 18, 19, 20, 21, 22, 23, 24, 25, 26, 27, 28, 29, 30, 31, 32, 33, 34, 35, 36, 37, 38, 39, 40, 41, 42, 43, 44, 45, 46, 47, 48, 49, 50, 51, 52, 53, 54, 55, 56, 57, 58, 59, 60, 61, 62, 63, 106, 107, 108, 109, 110, 111, 112, 113, 114, 115, 116, 117, 118, 119, 120] (by decide +kernel) (by decide +kernel)) (goodIn_sub (fun _ h => List.mem_cons_of_mem _ (List.mem_append_left _ (List.mem_append_right _ h))) (by decide +kernel))) (goodIn_sub (fun _ h => List.mem_cons_of_mem _ (List.mem_append_right _ h)) (by decide +kernel))
set_option maxRecDepth 20000 in
theorem gL_isStrong_X4_threadOf : GoodIn wsL_isStrong (wsV RL 22 RX4 yX4_threadOf wsX4_threadOf) := goodIn_app (goodIn_of _ (by decide +kernel)) ggL_isStrong_X4_threadOf
set_option maxRecDepth 20000 in
theorem ggL_isStrong_X4_strength : GoodIn wsL_isStrong wsX4_strength := goodIn_ca (goodIn_ca (goodIn_r _ [67, 6, 7, 8, 9, 10, 14, 15, 4, 16, 17, 18, 19, 68, 69, 70, 71, 72, 73, 26, 74, 28, 21, 22, 51, 52, 53, 54, 55, 75, 43, 44, 45, 46, 47, 48, 49, 50, 106, 107, 108, 109, 110, 111, 112, 113, 114, 115, 116, 117, 118, 119, 120] (by decide +kernel) (by decide +kernel)) (goodIn_sub (fun _ h => List.mem_cons_of_mem _ (List.mem_append_left _ (List.mem_append_right _ h))) (by decide +kernel))) (goodIn_sub (fun _ h => List.mem_cons_of_mem _ (List.mem_append_right _ h)) (by decide +kernel))
set_option maxRecDepth 20000 in
theorem gL_isStrong_X4_strength : GoodIn wsL_isStrong (wsV RL 68 RX4 yX4_strength wsX4_strength) := goodIn_app (goodIn_of _ (by decide +kernel)) ggL_isStrong_X4_strength
set_option maxRecDepth 20000 in
theorem ggL_isStrong_X4_ringOf : GoodIn wsL_isStrong wsX4_ringOf := goodIn_ca (goodIn_ca (goodIn_r _ [79, 6, 7, 8, 9, 10, 80, 68, 69, 4, 70, 17, 18, 19, 81, 82, 83, 26, 84, 28, 21, 22, 56, 57, 58, 59, 60, 61, 62, 85, 86, 87, 88, 38, 39, 40, 41, 33, 42, 43, 44, 45, 46, 47, 48, 49, 50, 51, 52, 53, 54, 55, 89, 90, 91, 92, 93, 106, 107, 108, 109, 110, 111, 112, 113, 114, 115, 116, 117, 118, 119, 120] (by decide +kernel) (by decide +kernel)) (goodIn_sub (fun _ h => List.mem_cons_of_mem _ (List.mem_append_left _ (List.mem_append_right _ h))) (by decide +kernel))) (goodIn_sub (fun _ h => List.mem_cons_of_mem _ (List.mem_append_right _ h)) (by decide +kernel))
set_option maxRecDepth 20000 in
theorem gL_isStrong_X4_ringOf : GoodIn wsL_isStrong (wsV RL 26 RX4 yX4_ringOf wsX4_ringOf) := goodIn_app (goodIn_of _ (by decide +kernel)) ggL_isStrong_X4_ringOf
set_option maxRecDepth 20000 in
theorem ggL_isStrong_X4_setting : GoodIn wsL_isStrong wsX4_setting := goodIn_ca (goodIn_r _ [97, 6, 7, 10, 98, 99, 100, 4, 101, 17, 18, 19, 106, 107, 108, 109, 110, 111, 112, 113, 114, 115, 116, 117, 118, 119, 120] (by decide +kernel) (by decide +kernel)) (goodIn_sub (fun _ h => List.mem_cons_of_mem _ (List.mem_append_left _ (List.mem_append_right _ h))) (by decide +kernel))
set_option maxRecDepth 20000 in
theorem gL_isStrong_X4_setting : GoodIn wsL_isStrong (wsV RL 32 RX4 yX4_setting wsX4_setting) := goodIn_app (goodIn_of _ (by decide +kernel)) ggL_isStrong_X4_setting
set_option maxRecDepth 20000 in
theorem ggL_isStrong_L_bits : GoodIn wsL_isStrong wsL_bits := goodIn_r _ [105] (by decide +kernel) (by decide +kernel)
set_option maxRecDepth 20000 in
theorem gL_isStrong_L_bits : GoodIn wsL_isStrong (va_wsS RL 72 yL_bits wsL_bits) := goodIn_app (goodIn_of _ (by decide +kernel)) ggL_isStrong_L_bits
theorem dL_isStrong_0 : decode cL_isStrong 0 = .ok (.aload_n 0, 1) := by decide +kernel
theorem dL_isStrong_1 : decode cL_isStrong 1 = .ok (.iload_n 1, 1) := by decide +kernel
theorem dL_isStrong_2 : decode cL_isStrong 2 = .ok (.iconst 0, 1) := by decide +kernel
theorem dL_isStrong_3 : decode cL_isStrong 3 = .ok (.invokevirtual 22, 3) := by decide +kernel
theorem dL_isStrong_6 : decode cL_isStrong 6 = .ok (.istore_n 2, 1) := by decide +kernel
theorem dL_isStrong_7 : decode cL_isStrong 7 = .ok (.iconst 0, 1) := by decide +kernel
theorem dL_isStrong_8 : decode cL_isStrong 8 = .ok (.istore_n 3, 1) := by decide +kernel
theorem dL_isStrong_9 : decode cL_isStrong 9 = .ok (.iconst 1, 1) := by decide +kernel
theorem dL_isStrong_10 : decode cL_isStrong 10 = .ok (.istore 4, 2) := by decide +kernel
theorem dL_isStrong_12 : decode cL_isStrong 12 = .ok (.iconst 0, 1) := by decide +kernel
theorem dL_isStrong_13 : decode cL_isStrong 13 = .ok (.istore 5, 2) := by decide +kernel
theorem dL_isStrong_15 : decode cL_isStrong 15 = .ok (.iload 5, 2) := by decide +kernel
theorem dL_isStrong_17 : decode cL_isStrong 17 = .ok (.bipush 8, 2) := by decide +kernel
theorem dL_isStrong_19 : decode cL_isStrong 19 = .ok (.if_icmp .ge 173, 3) := by decide +kernel
theorem dL_isStrong_22 : decode cL_isStrong 22 = .ok (.aload_n 0, 1) := by decide +kernel
theorem dL_isStrong_23 : decode cL_isStrong 23 = .ok (.iload_n 1, 1) := by decide +kernel
theorem dL_isStrong_24 : decode cL_isStrong 24 = .ok (.iload 5, 2) := by decide +kernel
theorem dL_isStrong_26 : decode cL_isStrong 26 = .ok (.iconst 1, 1) := by decide +kernel
theorem dL_isStrong_27 : decode cL_isStrong 27 = .ok (.invokevirtual 68, 3) := by decide +kernel
theorem dL_isStrong_30 : decode cL_isStrong 30 = .ok (.istore 6, 2) := by decide +kernel
theorem dL_isStrong_32 : decode cL_isStrong 32 = .ok (.iload 6, 2) := by decide +kernel
theorem dL_isStrong_34 : decode cL_isStrong 34 = .ok (.ifCond .lt 9, 3) := by decide +kernel
theorem dL_isStrong_37 : decode cL_isStrong 37 = .ok (.iload 6, 2) := by decide +kernel
theorem dL_isStrong_39 : decode cL_isStrong 39 = .ok (.iconst 2, 1) := by decide +kernel
theorem dL_isStrong_40 : decode cL_isStrong 40 = .ok (.if_icmp .le 7, 3) := by decide +kernel
theorem dL_isStrong_43 : decode cL_isStrong 43 = .ok (.iconst 0, 1) := by decide +kernel
theorem dL_isStrong_44 : decode cL_isStrong 44 = .ok (.goto 10, 3) := by decide +kernel
theorem dL_isStrong_47 : decode cL_isStrong 47 = .ok (.bipush 8, 2) := by decide +kernel
theorem dL_isStrong_49 : decode cL_isStrong 49 = .ok (.iconst 3, 1) := by decide +kernel
theorem dL_isStrong_50 : decode cL_isStrong 50 = .ok (.iload 6, 2) := by decide +kernel
theorem dL_isStrong_52 : decode cL_isStrong 52 = .ok (.imul, 1) := by decide +kernel
theorem dL_isStrong_53 : decode cL_isStrong 53 = .ok (.isub, 1) := by decide +kernel
theorem dL_isStrong_54 : decode cL_isStrong 54 = .ok (.istore 7, 2) := by decide +kernel
theorem dL_isStrong_56 : decode cL_isStrong 56 = .ok (.iload 7, 2) := by decide +kernel
theorem dL_isStrong_58 : decode cL_isStrong 58 = .ok (.aload_n 0, 1) := by decide +kernel
theorem dL_isStrong_59 : decode cL_isStrong 59 = .ok (.iload 5, 2) := by decide +kernel
theorem dL_isStrong_61 : decode cL_isStrong 61 = .ok (.iconst 0, 1) := by decide +kernel
theorem dL_isStrong_62 : decode cL_isStrong 62 = .ok (.invokevirtual 26, 3) := by decide +kernel
theorem dL_isStrong_65 : decode cL_isStrong 65 = .ok (.bipush 10, 2) := by decide +kernel
theorem dL_isStrong_67 : decode cL_isStrong 67 = .ok (.idiv, 1) := by decide +kernel
theorem dL_isStrong_68 : decode cL_isStrong 68 = .ok (.isub, 1) := by decide +kernel
theorem dL_isStrong_69 : decode cL_isStrong 69 = .ok (.istore 8, 2) := by decide +kernel
theorem dL_isStrong_71 : decode cL_isStrong 71 = .ok (.aload_n 0, 1) := by decide +kernel
theorem dL_isStrong_72 : decode cL_isStrong 72 = .ok (.iload_n 1, 1) := by decide +kernel
theorem dL_isStrong_73 : decode cL_isStrong 73 = .ok (.iload 5, 2) := by decide +kernel
theorem dL_isStrong_75 : decode cL_isStrong 75 = .ok (.iconst 0, 1) := by decide +kernel
theorem dL_isStrong_76 : decode cL_isStrong 76 = .ok (.invokevirtual 68, 3) := by decide +kernel
theorem dL_isStrong_79 : decode cL_isStrong 79 = .ok (.istore 9, 2) := by decide +kernel
theorem dL_isStrong_81 : decode cL_isStrong 81 = .ok (.iload_n 2, 1) := by decide +kernel
theorem dL_isStrong_82 : decode cL_isStrong 82 = .ok (.iload 5, 2) := by decide +kernel
theorem dL_isStrong_84 : decode cL_isStrong 84 = .ok (.ishr, 1) := by decide +kernel
theorem dL_isStrong_85 : decode cL_isStrong 85 = .ok (.iconst 1, 1) := by decide +kernel
theorem dL_isStrong_86 : decode cL_isStrong 86 = .ok (.iand, 1) := by decide +kernel
theorem dL_isStrong_87 : decode cL_isStrong 87 = .ok (.iconst 1, 1) := by decide +kernel
theorem dL_isStrong_88 : decode cL_isStrong 88 = .ok (.if_icmp .ne 7, 3) := by decide +kernel
theorem dL_isStrong_91 : decode cL_isStrong 91 = .ok (.iconst 1, 1) := by decide +kernel
theorem dL_isStrong_92 : decode cL_isStrong 92 = .ok (.goto 4, 3) := by decide +kernel
theorem dL_isStrong_95 : decode cL_isStrong 95 = .ok (.iconst 0, 1) := by decide +kernel
theorem dL_isStrong_96 : decode cL_isStrong 96 = .ok (.istore 10, 2) := by decide +kernel
theorem dL_isStrong_98 : decode cL_isStrong 98 = .ok (.iload 4, 2) := by decide +kernel
theorem dL_isStrong_100 : decode cL_isStrong 100 = .ok (.ifCond .eq 62, 3) := by decide +kernel
theorem dL_isStrong_103 : decode cL_isStrong 103 = .ok (.iload 6, 2) := by decide +kernel
theorem dL_isStrong_105 : decode cL_isStrong 105 = .ok (.ifCond .ne 7, 3) := by decide +kernel
theorem dL_isStrong_108 : decode cL_isStrong 108 = .ok (.iconst 1, 1) := by decide +kernel
theorem dL_isStrong_109 : decode cL_isStrong 109 = .ok (.goto 4, 3) := by decide +kernel
theorem dL_isStrong_112 : decode cL_isStrong 112 = .ok (.iconst 0, 1) := by decide +kernel
theorem dL_isStrong_113 : decode cL_isStrong 113 = .ok (.iload 10, 2) := by decide +kernel
theorem dL_isStrong_115 : decode cL_isStrong 115 = .ok (.if_icmp .ne 47, 3) := by decide +kernel
theorem dL_isStrong_118 : decode cL_isStrong 118 = .ok (.iload 9, 2) := by decide +kernel
theorem dL_isStrong_120 : decode cL_isStrong 120 = .ok (.iload 8, 2) := by decide +kernel
theorem dL_isStrong_122 : decode cL_isStrong 122 = .ok (.ifCond .ge 7, 3) := by decide +kernel
theorem dL_isStrong_125 : decode cL_isStrong 125 = .ok (.iconst 0, 1) := by decide +kernel
theorem dL_isStrong_126 : decode cL_isStrong 126 = .ok (.goto 5, 3) := by decide +kernel
theorem dL_isStrong_129 : decode cL_isStrong 129 = .ok (.iload 8, 2) := by decide +kernel
theorem dL_isStrong_131 : decode cL_isStrong 131 = .ok (.if_icmp .ne 31, 3) := by decide +kernel
theorem dL_isStrong_134 : decode cL_isStrong 134 = .ok (.aload_n 0, 1) := by decide +kernel
theorem dL_isStrong_135 : decode cL_isStrong 135 = .ok (.iload 5, 2) := by decide +kernel
theorem dL_isStrong_137 : decode cL_isStrong 137 = .ok (.iconst 1, 1) := by decide +kernel
theorem dL_isStrong_138 : decode cL_isStrong 138 = .ok (.invokevirtual 26, 3) := by decide +kernel
theorem dL_isStrong_141 : decode cL_isStrong 141 = .ok (.iload_n 1, 1) := by decide +kernel
theorem dL_isStrong_142 : decode cL_isStrong 142 = .ok (.ishr, 1) := by decide +kernel
theorem dL_isStrong_143 : decode cL_isStrong 143 = .ok (.iconst 1, 1) := by decide +kernel
theorem dL_isStrong_144 : decode cL_isStrong 144 = .ok (.iand, 1) := by decide +kernel
theorem dL_isStrong_145 : decode cL_isStrong 145 = .ok (.iload 10, 2) := by decide +kernel
theorem dL_isStrong_147 : decode cL_isStrong 147 = .ok (.ifCond .eq 7, 3) := by decide +kernel
theorem dL_isStrong_150 : decode cL_isStrong 150 = .ok (.iconst 1, 1) := by decide +kernel
theorem dL_isStrong_151 : decode cL_isStrong 151 = .ok (.goto 4, 3) := by decide +kernel
theorem dL_isStrong_154 : decode cL_isStrong 154 = .ok (.iconst 0, 1) := by decide +kernel
theorem dL_isStrong_155 : decode cL_isStrong 155 = .ok (.if_icmp .ne 7, 3) := by decide +kernel
theorem dL_isStrong_158 : decode cL_isStrong 158 = .ok (.iconst 1, 1) := by decide +kernel
theorem dL_isStrong_159 : decode cL_isStrong 159 = .ok (.goto 4, 3) := by decide +kernel
theorem dL_isStrong_162 : decode cL_isStrong 162 = .ok (.iconst 0, 1) := by decide +kernel
theorem dL_isStrong_163 : decode cL_isStrong 163 = .ok (.istore 4, 2) := by decide +kernel
theorem dL_isStrong_165 : decode cL_isStrong 165 = .ok (.iload_n 3, 1) := by decide +kernel
theorem dL_isStrong_166 : decode cL_isStrong 166 = .ok (.iload 9, 2) := by decide +kernel
theorem dL_isStrong_168 : decode cL_isStrong 168 = .ok (.aload_n 0, 1) := by decide +kernel
theorem dL_isStrong_169 : decode cL_isStrong 169 = .ok (.iconst 0, 1) := by decide +kernel
theorem dL_isStrong_170 : decode cL_isStrong 170 = .ok (.invokevirtual 32, 3) := by decide +kernel
theorem dL_isStrong_173 : decode cL_isStrong 173 = .ok (.if_icmp .lt 10, 3) := by decide +kernel
theorem dL_isStrong_176 : decode cL_isStrong 176 = .ok (.iconst 1, 1) := by decide +kernel
theorem dL_isStrong_177 : decode cL_isStrong 177 = .ok (.iload 5, 2) := by decide +kernel
theorem dL_isStrong_179 : decode cL_isStrong 179 = .ok (.ishl, 1) := by decide +kernel
theorem dL_isStrong_180 : decode cL_isStrong 180 = .ok (.goto 4, 3) := by decide +kernel
theorem dL_isStrong_183 : decode cL_isStrong 183 = .ok (.iconst 0, 1) := by decide +kernel
theorem dL_isStrong_184 : decode cL_isStrong 184 = .ok (.ior, 1) := by decide +kernel
theorem dL_isStrong_185 : decode cL_isStrong 185 = .ok (.istore_n 3, 1) := by decide +kernel
theorem dL_isStrong_186 : decode cL_isStrong 186 = .ok (.iinc 5 1, 3) := by decide +kernel
theorem dL_isStrong_189 : decode cL_isStrong 189 = .ok (.goto (-174), 3) := by decide +kernel
theorem dL_isStrong_192 : decode cL_isStrong 192 = .ok (.aload_n 0, 1) := by decide +kernel
theorem dL_isStrong_193 : decode cL_isStrong 193 = .ok (.iconst 1, 1) := by decide +kernel
theorem dL_isStrong_194 : decode cL_isStrong 194 = .ok (.invokevirtual 32, 3) := by decide +kernel
theorem dL_isStrong_197 : decode cL_isStrong 197 = .ok (.iconst 1, 1) := by decide +kernel
theorem dL_isStrong_198 : decode cL_isStrong 198 = .ok (.if_icmp .ne 9, 3) := by decide +kernel
theorem dL_isStrong_201 : decode cL_isStrong 201 = .ok (.sipush 255, 3) := by decide +kernel
theorem dL_isStrong_204 : decode cL_isStrong 204 = .ok (.goto 4, 3) := by decide +kernel
theorem dL_isStrong_207 : decode cL_isStrong 207 = .ok (.iconst 0, 1) := by decide +kernel
theorem dL_isStrong_208 : decode cL_isStrong 208 = .ok (.istore 5, 2) := by decide +kernel
theorem dL_isStrong_210 : decode cL_isStrong 210 = .ok (.iload 4, 2) := by decide +kernel
theorem dL_isStrong_212 : decode cL_isStrong 212 = .ok (.ifCond .eq 81, 3) := by decide +kernel
theorem dL_isStrong_215 : decode cL_isStrong 215 = .ok (.aload_n 0, 1) := by decide +kernel
theorem dL_isStrong_216 : decode cL_isStrong 216 = .ok (.iload_n 1, 1) := by decide +kernel
theorem dL_isStrong_217 : decode cL_isStrong 217 = .ok (.iconst 2, 1) := by decide +kernel
theorem dL_isStrong_218 : decode cL_isStrong 218 = .ok (.invokevirtual 22, 3) := by decide +kernel
theorem dL_isStrong_221 : decode cL_isStrong 221 = .ok (.iload_n 2, 1) := by decide +kernel
theorem dL_isStrong_222 : decode cL_isStrong 222 = .ok (.iload 5, 2) := by decide +kernel
theorem dL_isStrong_224 : decode cL_isStrong 224 = .ok (.ixor, 1) := by decide +kernel
theorem dL_isStrong_225 : decode cL_isStrong 225 = .ok (.if_icmp .ne 68, 3) := by decide +kernel
theorem dL_isStrong_228 : decode cL_isStrong 228 = .ok (.aload_n 0, 1) := by decide +kernel
theorem dL_isStrong_229 : decode cL_isStrong 229 = .ok (.iload_n 1, 1) := by decide +kernel
theorem dL_isStrong_230 : decode cL_isStrong 230 = .ok (.iconst 3, 1) := by decide +kernel
theorem dL_isStrong_231 : decode cL_isStrong 231 = .ok (.invokevirtual 22, 3) := by decide +kernel
theorem dL_isStrong_234 : decode cL_isStrong 234 = .ok (.iload_n 3, 1) := by decide +kernel
theorem dL_isStrong_235 : decode cL_isStrong 235 = .ok (.iload 5, 2) := by decide +kernel
theorem dL_isStrong_237 : decode cL_isStrong 237 = .ok (.ixor, 1) := by decide +kernel
theorem dL_isStrong_238 : decode cL_isStrong 238 = .ok (.if_icmp .ne 55, 3) := by decide +kernel
theorem dL_isStrong_241 : decode cL_isStrong 241 = .ok (.aload_n 0, 1) := by decide +kernel
theorem dL_isStrong_242 : decode cL_isStrong 242 = .ok (.iload_n 1, 1) := by decide +kernel
theorem dL_isStrong_243 : decode cL_isStrong 243 = .ok (.iconst 4, 1) := by decide +kernel
theorem dL_isStrong_244 : decode cL_isStrong 244 = .ok (.invokevirtual 22, 3) := by decide +kernel
theorem dL_isStrong_247 : decode cL_isStrong 247 = .ok (.iload_n 2, 1) := by decide +kernel
theorem dL_isStrong_248 : decode cL_isStrong 248 = .ok (.iload_n 3, 1) := by decide +kernel
theorem dL_isStrong_249 : decode cL_isStrong 249 = .ok (.ixor, 1) := by decide +kernel
theorem dL_isStrong_250 : decode cL_isStrong 250 = .ok (.invokestatic 72, 3) := by decide +kernel
theorem dL_isStrong_253 : decode cL_isStrong 253 = .ok (.if_icmp .ne 40, 3) := by decide +kernel
theorem dL_isStrong_256 : decode cL_isStrong 256 = .ok (.aload_n 0, 1) := by decide +kernel
theorem dL_isStrong_257 : decode cL_isStrong 257 = .ok (.iload_n 1, 1) := by decide +kernel
theorem dL_isStrong_258 : decode cL_isStrong 258 = .ok (.iconst 5, 1) := by decide +kernel
theorem dL_isStrong_259 : decode cL_isStrong 259 = .ok (.invokevirtual 22, 3) := by decide +kernel
theorem dL_isStrong_262 : decode cL_isStrong 262 = .ok (.iload_n 3, 1) := by decide +kernel
theorem dL_isStrong_263 : decode cL_isStrong 263 = .ok (.sipush 255, 3) := by decide +kernel
theorem dL_isStrong_266 : decode cL_isStrong 266 = .ok (.iload_n 2, 1) := by decide +kernel
theorem dL_isStrong_267 : decode cL_isStrong 267 = .ok (.isub, 1) := by decide +kernel
theorem dL_isStrong_268 : decode cL_isStrong 268 = .ok (.iand, 1) := by decide +kernel
theorem dL_isStrong_269 : decode cL_isStrong 269 = .ok (.if_icmp .ne 24, 3) := by decide +kernel
theorem dL_isStrong_272 : decode cL_isStrong 272 = .ok (.aload_n 0, 1) := by decide +kernel
theorem dL_isStrong_273 : decode cL_isStrong 273 = .ok (.iload_n 1, 1) := by decide +kernel
theorem dL_isStrong_274 : decode cL_isStrong 274 = .ok (.bipush 6, 2) := by decide +kernel
theorem dL_isStrong_276 : decode cL_isStrong 276 = .ok (.invokevirtual 22, 3) := by decide +kernel
theorem dL_isStrong_279 : decode cL_isStrong 279 = .ok (.iload_n 2, 1) := by decide +kernel
theorem dL_isStrong_280 : decode cL_isStrong 280 = .ok (.sipush 255, 3) := by decide +kernel
theorem dL_isStrong_283 : decode cL_isStrong 283 = .ok (.iload_n 3, 1) := by decide +kernel
theorem dL_isStrong_284 : decode cL_isStrong 284 = .ok (.isub, 1) := by decide +kernel
theorem dL_isStrong_285 : decode cL_isStrong 285 = .ok (.iand, 1) := by decide +kernel
theorem dL_isStrong_286 : decode cL_isStrong 286 = .ok (.if_icmp .ne 7, 3) := by decide +kernel
theorem dL_isStrong_289 : decode cL_isStrong 289 = .ok (.iconst 1, 1) := by decide +kernel
theorem dL_isStrong_290 : decode cL_isStrong 290 = .ok (.goto 4, 3) := by decide +kernel
theorem dL_isStrong_293 : decode cL_isStrong 293 = .ok (.iconst 0, 1) := by decide +kernel
theorem dL_isStrong_294 : decode cL_isStrong 294 = .ok (.istore 4, 2) := by decide +kernel
theorem dL_isStrong_296 : decode cL_isStrong 296 = .ok (.iload 4, 2) := by decide +kernel
theorem dL_isStrong_298 : decode cL_isStrong 298 = .ok (.ifCond .eq 67, 3) := by decide +kernel
theorem dL_isStrong_301 : decode cL_isStrong 301 = .ok (.aload_n 0, 1) := by decide +kernel
theorem dL_isStrong_302 : decode cL_isStrong 302 = .ok (.iconst 0, 1) := by decide +kernel
theorem dL_isStrong_303 : decode cL_isStrong 303 = .ok (.invokevirtual 32, 3) := by decide +kernel
theorem dL_isStrong_306 : decode cL_isStrong 306 = .ok (.bipush 6, 2) := by decide +kernel
theorem dL_isStrong_308 : decode cL_isStrong 308 = .ok (.if_icmp .lt 12, 3) := by decide +kernel
theorem dL_isStrong_311 : decode cL_isStrong 311 = .ok (.aload_n 0, 1) := by decide +kernel
theorem dL_isStrong_312 : decode cL_isStrong 312 = .ok (.iload_n 1, 1) := by decide +kernel
theorem dL_isStrong_313 : decode cL_isStrong 313 = .ok (.iconst 5, 1) := by decide +kernel
theorem dL_isStrong_314 : decode cL_isStrong 314 = .ok (.invokevirtual 22, 3) := by decide +kernel
theorem dL_isStrong_317 : decode cL_isStrong 317 = .ok (.ifCond .ne 48, 3) := by decide +kernel
theorem dL_isStrong_320 : decode cL_isStrong 320 = .ok (.aload_n 0, 1) := by decide +kernel
theorem dL_isStrong_321 : decode cL_isStrong 321 = .ok (.iload_n 1, 1) := by decide +kernel
theorem dL_isStrong_322 : decode cL_isStrong 322 = .ok (.iconst 4, 1) := by decide +kernel
theorem dL_isStrong_323 : decode cL_isStrong 323 = .ok (.invokevirtual 22, 3) := by decide +kernel
theorem dL_isStrong_326 : decode cL_isStrong 326 = .ok (.ifCond .ne 7, 3) := by decide +kernel
theorem dL_isStrong_329 : decode cL_isStrong 329 = .ok (.iconst 1, 1) := by decide +kernel
theorem dL_isStrong_330 : decode cL_isStrong 330 = .ok (.goto 4, 3) := by decide +kernel
theorem dL_isStrong_333 : decode cL_isStrong 333 = .ok (.iconst 0, 1) := by decide +kernel
theorem dL_isStrong_334 : decode cL_isStrong 334 = .ok (.aload_n 0, 1) := by decide +kernel
theorem dL_isStrong_335 : decode cL_isStrong 335 = .ok (.iload_n 1, 1) := by decide +kernel
theorem dL_isStrong_336 : decode cL_isStrong 336 = .ok (.iconst 5, 1) := by decide +kernel
theorem dL_isStrong_337 : decode cL_isStrong 337 = .ok (.invokevirtual 22, 3) := by decide +kernel
theorem dL_isStrong_340 : decode cL_isStrong 340 = .ok (.ifCond .ne 17, 3) := by decide +kernel
theorem dL_isStrong_343 : decode cL_isStrong 343 = .ok (.aload_n 0, 1) := by decide +kernel
theorem dL_isStrong_344 : decode cL_isStrong 344 = .ok (.iload_n 1, 1) := by decide +kernel
theorem dL_isStrong_345 : decode cL_isStrong 345 = .ok (.bipush 6, 2) := by decide +kernel
theorem dL_isStrong_347 : decode cL_isStrong 347 = .ok (.invokevirtual 22, 3) := by decide +kernel
theorem dL_isStrong_350 : decode cL_isStrong 350 = .ok (.ifCond .ne 7, 3) := by decide +kernel
theorem dL_isStrong_353 : decode cL_isStrong 353 = .ok (.iconst 1, 1) := by decide +kernel
theorem dL_isStrong_354 : decode cL_isStrong 354 = .ok (.goto 4, 3) := by decide +kernel
theorem dL_isStrong_357 : decode cL_isStrong 357 = .ok (.iconst 0, 1) := by decide +kernel
theorem dL_isStrong_358 : decode cL_isStrong 358 = .ok (.if_icmp .ne 7, 3) := by decide +kernel
theorem dL_isStrong_361 : decode cL_isStrong 361 = .ok (.iconst 1, 1) := by decide +kernel
theorem dL_isStrong_362 : decode cL_isStrong 362 = .ok (.goto 4, 3) := by decide +kernel
theorem dL_isStrong_365 : decode cL_isStrong 365 = .ok (.iconst 0, 1) := by decide +kernel
theorem dL_isStrong_366 : decode cL_isStrong 366 = .ok (.ireturn, 1) := by decide +kernel
set_option maxRecDepth 20000 in
theorem ggL_holds_X4_threadOf : GoodIn wsL_holds wsX4_threadOf := goodIn_ca (goodIn_ca (goodIn_r _ [6, 7, 8, 9, 10, 11, 12, 13, 14, 15, 16, 5, 17, 18, 19, 20, 21, 22, 23, 24, 25, 26, 27, 28, 29, 30, 31, 32, 33, 34, 35, 36, 37, 38, 39, 40, 41, 42, 43, 44, 45, 46, 47, 48, 49, 50, 51, 52, 53, 54, 55, 56, 57, 58, 59, 60, 61, 62, 63, 64, 156, 157, 158, 159, 160, 161, 162, 163, 164, 165, 166, 167, 168, 169, 170] (by decide +kernel) (by decide +kernel)) (goodIn_sub (fun _ h => List.mem_cons_of_mem _ (List.mem_append_left _ (List.mem_append_right _ h))) (by decide +kernel))) (goodIn_sub (fun _ h => List.mem_cons_of_mem _ (List.mem_append_right _ h)) (by decide +kernel))
set_option maxRecDepth 20000 in
theorem gL_holds_X4_threadOf : GoodIn wsL_holds (wsV RL 22 RX4 yX4_threadOf wsX4_threadOf) := goodIn_app (goodIn_of _ (by decide +kernel)) ggL_holds_X4_threadOf
set_option maxRecDepth 20000 in
theorem ggL_holds_L_bits : GoodIn wsL_holds wsL_bits := goodIn_r _ [68] (by decide +kernel) (by decide +kernel)
set_option maxRecDepth 20000 in
theorem gL_holds_L_bits : GoodIn wsL_holds (va_wsS RL 72 yL_bits wsL_bits) := goodIn_app (goodIn_of _ (by decide +kernel)) ggL_holds_L_bits
set_option maxRecDepth 20000 in
theorem ggL_holds_X4_ringOf : GoodIn wsL_holds wsX4_ringOf := goodIn_ca (goodIn_ca (goodIn_r _ [72, 7, 8, 9, 10, 11, 73, 74, 75, 5, 76, 18, 19, 20, 77, 78, 79, 27, 80, 29, 22, 23, 57, 58, 59, 60, 61, 62, 63, 81, 82, 83, 84, 39, 40, 41, 42, 34, 43, 44, 45, 46, 47, 48, 49, 50, 51, 52, 53, 54, 55, 56, 85, 86, 87, 88, 89, 156, 157, 158, 159, 160, 161, 162, 163, 164, 165, 166, 167, 168, 169, 170] (by decide +kernel) (by decide +kernel)) (goodIn_sub (fun _ h => List.mem_cons_of_mem _ (List.mem_append_left _ (List.mem_append_right _ h))) (by decide +kernel))) (goodIn_sub (fun _ h => List.mem_cons_of_mem _ (List.mem_append_right _ h)) (by decide +kernel))
set_option maxRecDepth 20000 in
theorem gL_holds_X4_ringOf : GoodIn wsL_holds (wsV RL 26 RX4 yX4_ringOf wsX4_ringOf) := goodIn_app (goodIn_of _ (by decide +kernel)) ggL_holds_X4_ringOf
set_option maxRecDepth 20000 in
theorem ggL_holds_X4_count : GoodIn wsL_holds wsX4_count := goodIn_ca (goodIn_r _ [93, 9, 10, 11, 94, 95, 13, 96, 97, 98, 99, 100, 27, 101, 29, 102, 58, 59, 60, 61, 62, 63, 103, 104, 105, 106, 89, 78, 79, 80, 22, 5, 23, 107, 108, 109, 110, 39, 40, 41, 42, 34, 43, 44, 45, 46, 47, 48, 49, 50, 51, 52, 53, 54, 55, 56, 57, 111, 112, 113, 114, 115, 116, 117, 118, 119, 35, 36, 37, 38, 30, 31, 32, 33, 120, 121, 122, 123, 124, 125, 126, 156, 157, 158, 159, 160, 161, 162, 163, 164, 165, 166, 167, 168, 169, 170, 171, 172, 173] (by decide +kernel) (by decide +kernel)) (goodIn_sub (fun _ h => List.mem_cons_of_mem _ (List.mem_append_right _ h)) (by decide +kernel))
set_option maxRecDepth 20000 in
theorem gL_holds_X4_count : GoodIn wsL_holds (wsV RL 13 RX4 yX4_count wsX4_count) := goodIn_app (goodIn_of _ (by decide +kernel)) ggL_holds_X4_count
set_option maxRecDepth 20000 in
theorem ggL_holds_X4_machine : GoodIn wsL_holds wsX4_machine := goodIn_ca (goodIn_r _ [130, 9, 10, 11, 131, 132, 133, 134, 135, 136, 137, 156, 157, 158, 159, 160, 161, 162, 163, 164, 165, 166, 167, 168, 169, 170, 174, 175, 176, 177, 178, 179, 180] (by decide +kernel) (by decide +kernel)) (goodIn_sub (fun _ h => List.mem_cons_of_mem _ (List.mem_append_right _ h)) (by decide +kernel))
set_option maxRecDepth 20000 in
theorem gL_holds_X4_machine : GoodIn wsL_holds (wsV RL 19 RX4 yX4_machine wsX4_machine) := goodIn_app (goodIn_of _ (by decide +kernel)) ggL_holds_X4_machine
set_option maxRecDepth 20000 in
theorem ggL_holds_X4_setting : GoodIn wsL_holds wsX4_setting := goodIn_ca (goodIn_r _ [141, 7, 8, 11, 142, 143, 144, 5, 145, 18, 19, 20, 156, 157, 158, 159, 160, 161, 162, 163, 164, 165, 166, 167, 168, 169, 170] (by decide +kernel) (by decide +kernel)) (goodIn_sub (fun _ h => List.mem_cons_of_mem _ (List.mem_append_left _ (List.mem_append_right _ h))) (by decide +kernel))
set_option maxRecDepth 20000 in
theorem gL_holds_X4_setting : GoodIn wsL_holds (wsV RL 32 RX4 yX4_setting wsX4_setting) := goodIn_app (goodIn_of _ (by decide +kernel)) ggL_holds_X4_setting
set_option maxRecDepth 20000 in
theorem ggL_holds_X4_rightShare : GoodIn wsL_holds wsX4_rightShare := goodIn_r _ [149, 11, 150, 107, 108, 109, 27, 110, 29, 39, 40, 41, 42, 34, 22, 5, 23, 43, 44, 45, 46, 47, 48, 49, 50, 51, 52, 53, 54, 55, 56, 156, 157, 158, 159, 160, 161, 162, 163, 164, 165, 166, 167, 168, 169, 170] (by decide +kernel) (by decide +kernel)
set_option maxRecDepth 20000 in
theorem gL_holds_X4_rightShare : GoodIn wsL_holds (wsV RL 75 RX4 yX4_rightShare wsX4_rightShare) := goodIn_app (goodIn_of _ (by decide +kernel)) ggL_holds_X4_rightShare
set_option maxRecDepth 20000 in
theorem ggL_holds_X4_told : GoodIn wsL_holds wsX4_told := goodIn_ca (goodIn_r _ [154, 9, 10, 11, 131, 155, 18, 19, 5, 20, 156, 157, 158, 159, 160, 161, 162, 163, 164, 165, 166, 167, 168, 169, 170, 174, 175, 176, 177, 178, 179, 180] (by decide +kernel) (by decide +kernel)) (goodIn_sub (fun _ h => List.mem_cons_of_mem _ (List.mem_append_right _ h)) (by decide +kernel))
set_option maxRecDepth 20000 in
theorem gL_holds_X4_told : GoodIn wsL_holds (wsV RL 29 RX4 yX4_told wsX4_told) := goodIn_app (goodIn_of _ (by decide +kernel)) ggL_holds_X4_told
theorem dL_holds_0 : decode cL_holds 0 = .ok (.iconst 0, 1) := by decide +kernel
theorem dL_holds_1 : decode cL_holds 1 = .ok (.istore_n 1, 1) := by decide +kernel
theorem dL_holds_2 : decode cL_holds 2 = .ok (.iconst 0, 1) := by decide +kernel
theorem dL_holds_3 : decode cL_holds 3 = .ok (.istore_n 2, 1) := by decide +kernel
theorem dL_holds_4 : decode cL_holds 4 = .ok (.iconst 0, 1) := by decide +kernel
theorem dL_holds_5 : decode cL_holds 5 = .ok (.istore_n 3, 1) := by decide +kernel
theorem dL_holds_6 : decode cL_holds 6 = .ok (.iconst 0, 1) := by decide +kernel
theorem dL_holds_7 : decode cL_holds 7 = .ok (.istore 4, 2) := by decide +kernel
theorem dL_holds_9 : decode cL_holds 9 = .ok (.bipush 8, 2) := by decide +kernel
theorem dL_holds_11 : decode cL_holds 11 = .ok (.istore 5, 2) := by decide +kernel
theorem dL_holds_13 : decode cL_holds 13 = .ok (.iconst 1, 1) := by decide +kernel
theorem dL_holds_14 : decode cL_holds 14 = .ok (.istore 6, 2) := by decide +kernel
theorem dL_holds_16 : decode cL_holds 16 = .ok (.iconst 0, 1) := by decide +kernel
theorem dL_holds_17 : decode cL_holds 17 = .ok (.istore 7, 2) := by decide +kernel
theorem dL_holds_19 : decode cL_holds 19 = .ok (.iload 7, 2) := by decide +kernel
theorem dL_holds_21 : decode cL_holds 21 = .ok (.bipush 16, 2) := by decide +kernel
theorem dL_holds_23 : decode cL_holds 23 = .ok (.if_icmp .ge 137, 3) := by decide +kernel
theorem dL_holds_26 : decode cL_holds 26 = .ok (.iload_n 1, 1) := by decide +kernel
theorem dL_holds_27 : decode cL_holds 27 = .ok (.aload_n 0, 1) := by decide +kernel
theorem dL_holds_28 : decode cL_holds 28 = .ok (.iload 7, 2) := by decide +kernel
theorem dL_holds_30 : decode cL_holds 30 = .ok (.iconst 0, 1) := by decide +kernel
theorem dL_holds_31 : decode cL_holds 31 = .ok (.invokevirtual 22, 3) := by decide +kernel
theorem dL_holds_34 : decode cL_holds 34 = .ok (.invokestatic 72, 3) := by decide +kernel
theorem dL_holds_37 : decode cL_holds 37 = .ok (.iadd, 1) := by decide +kernel
theorem dL_holds_38 : decode cL_holds 38 = .ok (.istore_n 1, 1) := by decide +kernel
theorem dL_holds_39 : decode cL_holds 39 = .ok (.iload_n 2, 1) := by decide +kernel
theorem dL_holds_40 : decode cL_holds 40 = .ok (.aload_n 0, 1) := by decide +kernel
theorem dL_holds_41 : decode cL_holds 41 = .ok (.iload 7, 2) := by decide +kernel
theorem dL_holds_43 : decode cL_holds 43 = .ok (.iconst 3, 1) := by decide +kernel
theorem dL_holds_44 : decode cL_holds 44 = .ok (.invokevirtual 22, 3) := by decide +kernel
theorem dL_holds_47 : decode cL_holds 47 = .ok (.aload_n 0, 1) := by decide +kernel
theorem dL_holds_48 : decode cL_holds 48 = .ok (.iload 7, 2) := by decide +kernel
theorem dL_holds_50 : decode cL_holds 50 = .ok (.iconst 2, 1) := by decide +kernel
theorem dL_holds_51 : decode cL_holds 51 = .ok (.invokevirtual 22, 3) := by decide +kernel
theorem dL_holds_54 : decode cL_holds 54 = .ok (.if_icmp .ne 7, 3) := by decide +kernel
theorem dL_holds_57 : decode cL_holds 57 = .ok (.iconst 1, 1) := by decide +kernel
theorem dL_holds_58 : decode cL_holds 58 = .ok (.goto 4, 3) := by decide +kernel
theorem dL_holds_61 : decode cL_holds 61 = .ok (.iconst 0, 1) := by decide +kernel
theorem dL_holds_62 : decode cL_holds 62 = .ok (.iadd, 1) := by decide +kernel
theorem dL_holds_63 : decode cL_holds 63 = .ok (.istore_n 2, 1) := by decide +kernel
theorem dL_holds_64 : decode cL_holds 64 = .ok (.iload_n 3, 1) := by decide +kernel
theorem dL_holds_65 : decode cL_holds 65 = .ok (.aload_n 0, 1) := by decide +kernel
theorem dL_holds_66 : decode cL_holds 66 = .ok (.iload 7, 2) := by decide +kernel
theorem dL_holds_68 : decode cL_holds 68 = .ok (.bipush 7, 2) := by decide +kernel
theorem dL_holds_70 : decode cL_holds 70 = .ok (.invokevirtual 22, 3) := by decide +kernel
theorem dL_holds_73 : decode cL_holds 73 = .ok (.iadd, 1) := by decide +kernel
theorem dL_holds_74 : decode cL_holds 74 = .ok (.istore_n 3, 1) := by decide +kernel
theorem dL_holds_75 : decode cL_holds 75 = .ok (.iconst 0, 1) := by decide +kernel
theorem dL_holds_76 : decode cL_holds 76 = .ok (.istore 8, 2) := by decide +kernel
theorem dL_holds_78 : decode cL_holds 78 = .ok (.iload 8, 2) := by decide +kernel
theorem dL_holds_80 : decode cL_holds 80 = .ok (.iload 7, 2) := by decide +kernel
theorem dL_holds_82 : decode cL_holds 82 = .ok (.if_icmp .ge 72, 3) := by decide +kernel
theorem dL_holds_85 : decode cL_holds 85 = .ok (.aload_n 0, 1) := by decide +kernel
theorem dL_holds_86 : decode cL_holds 86 = .ok (.iload 7, 2) := by decide +kernel
theorem dL_holds_88 : decode cL_holds 88 = .ok (.iconst 2, 1) := by decide +kernel
theorem dL_holds_89 : decode cL_holds 89 = .ok (.invokevirtual 22, 3) := by decide +kernel
theorem dL_holds_92 : decode cL_holds 92 = .ok (.aload_n 0, 1) := by decide +kernel
theorem dL_holds_93 : decode cL_holds 93 = .ok (.iload 8, 2) := by decide +kernel
theorem dL_holds_95 : decode cL_holds 95 = .ok (.iconst 2, 1) := by decide +kernel
theorem dL_holds_96 : decode cL_holds 96 = .ok (.invokevirtual 22, 3) := by decide +kernel
theorem dL_holds_99 : decode cL_holds 99 = .ok (.ixor, 1) := by decide +kernel
theorem dL_holds_100 : decode cL_holds 100 = .ok (.invokestatic 72, 3) := by decide +kernel
theorem dL_holds_103 : decode cL_holds 103 = .ok (.istore 9, 2) := by decide +kernel
theorem dL_holds_105 : decode cL_holds 105 = .ok (.iload 9, 2) := by decide +kernel
theorem dL_holds_107 : decode cL_holds 107 = .ok (.iload 5, 2) := by decide +kernel
theorem dL_holds_109 : decode cL_holds 109 = .ok (.if_icmp .ge 8, 3) := by decide +kernel
theorem dL_holds_112 : decode cL_holds 112 = .ok (.iload 9, 2) := by decide +kernel
theorem dL_holds_114 : decode cL_holds 114 = .ok (.goto 5, 3) := by decide +kernel
theorem dL_holds_117 : decode cL_holds 117 = .ok (.iload 5, 2) := by decide +kernel
theorem dL_holds_119 : decode cL_holds 119 = .ok (.istore 5, 2) := by decide +kernel
theorem dL_holds_121 : decode cL_holds 121 = .ok (.iload 4, 2) := by decide +kernel
theorem dL_holds_123 : decode cL_holds 123 = .ok (.aload_n 0, 1) := by decide +kernel
theorem dL_holds_124 : decode cL_holds 124 = .ok (.iload 7, 2) := by decide +kernel
theorem dL_holds_126 : decode cL_holds 126 = .ok (.iconst 3, 1) := by decide +kernel
theorem dL_holds_127 : decode cL_holds 127 = .ok (.invokevirtual 22, 3) := by decide +kernel
theorem dL_holds_130 : decode cL_holds 130 = .ok (.aload_n 0, 1) := by decide +kernel
theorem dL_holds_131 : decode cL_holds 131 = .ok (.iload 8, 2) := by decide +kernel
theorem dL_holds_133 : decode cL_holds 133 = .ok (.iconst 3, 1) := by decide +kernel
theorem dL_holds_134 : decode cL_holds 134 = .ok (.invokevirtual 22, 3) := by decide +kernel
theorem dL_holds_137 : decode cL_holds 137 = .ok (.if_icmp .ne 7, 3) := by decide +kernel
theorem dL_holds_140 : decode cL_holds 140 = .ok (.iconst 1, 1) := by decide +kernel
theorem dL_holds_141 : decode cL_holds 141 = .ok (.goto 4, 3) := by decide +kernel
theorem dL_holds_144 : decode cL_holds 144 = .ok (.iconst 0, 1) := by decide +kernel
theorem dL_holds_145 : decode cL_holds 145 = .ok (.iadd, 1) := by decide +kernel
theorem dL_holds_146 : decode cL_holds 146 = .ok (.istore 4, 2) := by decide +kernel
theorem dL_holds_148 : decode cL_holds 148 = .ok (.iinc 8 1, 3) := by decide +kernel
theorem dL_holds_151 : decode cL_holds 151 = .ok (.goto (-73), 3) := by decide +kernel
theorem dL_holds_154 : decode cL_holds 154 = .ok (.iinc 7 1, 3) := by decide +kernel
theorem dL_holds_157 : decode cL_holds 157 = .ok (.goto (-138), 3) := by decide +kernel
theorem dL_holds_160 : decode cL_holds 160 = .ok (.iconst 0, 1) := by decide +kernel
theorem dL_holds_161 : decode cL_holds 161 = .ok (.istore 7, 2) := by decide +kernel
theorem dL_holds_163 : decode cL_holds 163 = .ok (.iconst 0, 1) := by decide +kernel
theorem dL_holds_164 : decode cL_holds 164 = .ok (.istore 8, 2) := by decide +kernel
theorem dL_holds_166 : decode cL_holds 166 = .ok (.iload 8, 2) := by decide +kernel
theorem dL_holds_168 : decode cL_holds 168 = .ok (.bipush 8, 2) := by decide +kernel
theorem dL_holds_170 : decode cL_holds 170 = .ok (.if_icmp .ge 45, 3) := by decide +kernel
theorem dL_holds_173 : decode cL_holds 173 = .ok (.iload 7, 2) := by decide +kernel
theorem dL_holds_175 : decode cL_holds 175 = .ok (.aload_n 0, 1) := by decide +kernel
theorem dL_holds_176 : decode cL_holds 176 = .ok (.iload 8, 2) := by decide +kernel
theorem dL_holds_178 : decode cL_holds 178 = .ok (.iconst 2, 1) := by decide +kernel
theorem dL_holds_179 : decode cL_holds 179 = .ok (.invokevirtual 26, 3) := by decide +kernel
theorem dL_holds_182 : decode cL_holds 182 = .ok (.iadd, 1) := by decide +kernel
theorem dL_holds_183 : decode cL_holds 183 = .ok (.istore 7, 2) := by decide +kernel
theorem dL_holds_185 : decode cL_holds 185 = .ok (.iload 6, 2) := by decide +kernel
theorem dL_holds_187 : decode cL_holds 187 = .ok (.ifCond .eq 19, 3) := by decide +kernel
theorem dL_holds_190 : decode cL_holds 190 = .ok (.aload_n 0, 1) := by decide +kernel
theorem dL_holds_191 : decode cL_holds 191 = .ok (.iload 8, 2) := by decide +kernel
theorem dL_holds_193 : decode cL_holds 193 = .ok (.iconst 0, 1) := by decide +kernel
theorem dL_holds_194 : decode cL_holds 194 = .ok (.invokevirtual 26, 3) := by decide +kernel
theorem dL_holds_197 : decode cL_holds 197 = .ok (.bipush 30, 2) := by decide +kernel
theorem dL_holds_199 : decode cL_holds 199 = .ok (.if_icmp .ge 7, 3) := by decide +kernel
theorem dL_holds_202 : decode cL_holds 202 = .ok (.iconst 1, 1) := by decide +kernel
theorem dL_holds_203 : decode cL_holds 203 = .ok (.goto 4, 3) := by decide +kernel
theorem dL_holds_206 : decode cL_holds 206 = .ok (.iconst 0, 1) := by decide +kernel
theorem dL_holds_207 : decode cL_holds 207 = .ok (.istore 6, 2) := by decide +kernel
theorem dL_holds_209 : decode cL_holds 209 = .ok (.iinc 8 1, 3) := by decide +kernel
theorem dL_holds_212 : decode cL_holds 212 = .ok (.goto (-46), 3) := by decide +kernel
theorem dL_holds_215 : decode cL_holds 215 = .ok (.aload_n 0, 1) := by decide +kernel
theorem dL_holds_216 : decode cL_holds 216 = .ok (.iconst 0, 1) := by decide +kernel
theorem dL_holds_217 : decode cL_holds 217 = .ok (.invokevirtual 13, 3) := by decide +kernel
theorem dL_holds_220 : decode cL_holds 220 = .ok (.iload_n 1, 1) := by decide +kernel
theorem dL_holds_221 : decode cL_holds 221 = .ok (.if_icmp .ne 76, 3) := by decide +kernel
theorem dL_holds_224 : decode cL_holds 224 = .ok (.aload_n 0, 1) := by decide +kernel
theorem dL_holds_225 : decode cL_holds 225 = .ok (.iconst 1, 1) := by decide +kernel
theorem dL_holds_226 : decode cL_holds 226 = .ok (.invokevirtual 13, 3) := by decide +kernel
theorem dL_holds_229 : decode cL_holds 229 = .ok (.iload_n 1, 1) := by decide +kernel
theorem dL_holds_230 : decode cL_holds 230 = .ok (.if_icmp .ne 67, 3) := by decide +kernel
theorem dL_holds_233 : decode cL_holds 233 = .ok (.iload 7, 2) := by decide +kernel
theorem dL_holds_235 : decode cL_holds 235 = .ok (.iload_n 1, 1) := by decide +kernel
theorem dL_holds_236 : decode cL_holds 236 = .ok (.if_icmp .ne 61, 3) := by decide +kernel
theorem dL_holds_239 : decode cL_holds 239 = .ok (.aload_n 0, 1) := by decide +kernel
theorem dL_holds_240 : decode cL_holds 240 = .ok (.iconst 3, 1) := by decide +kernel
theorem dL_holds_241 : decode cL_holds 241 = .ok (.invokevirtual 13, 3) := by decide +kernel
theorem dL_holds_244 : decode cL_holds 244 = .ok (.iload_n 3, 1) := by decide +kernel
theorem dL_holds_245 : decode cL_holds 245 = .ok (.if_icmp .ne 52, 3) := by decide +kernel
theorem dL_holds_248 : decode cL_holds 248 = .ok (.aload_n 0, 1) := by decide +kernel
theorem dL_holds_249 : decode cL_holds 249 = .ok (.iconst 3, 1) := by decide +kernel
theorem dL_holds_250 : decode cL_holds 250 = .ok (.invokevirtual 13, 3) := by decide +kernel
theorem dL_holds_253 : decode cL_holds 253 = .ok (.aload_n 0, 1) := by decide +kernel
theorem dL_holds_254 : decode cL_holds 254 = .ok (.bipush 7, 2) := by decide +kernel
theorem dL_holds_256 : decode cL_holds 256 = .ok (.invokevirtual 19, 3) := by decide +kernel
theorem dL_holds_259 : decode cL_holds 259 = .ok (.if_icmp .lt 38, 3) := by decide +kernel
theorem dL_holds_262 : decode cL_holds 262 = .ok (.aload_n 0, 1) := by decide +kernel
theorem dL_holds_263 : decode cL_holds 263 = .ok (.iconst 4, 1) := by decide +kernel
theorem dL_holds_264 : decode cL_holds 264 = .ok (.invokevirtual 13, 3) := by decide +kernel
theorem dL_holds_267 : decode cL_holds 267 = .ok (.iload_n 2, 1) := by decide +kernel
theorem dL_holds_268 : decode cL_holds 268 = .ok (.if_icmp .ne 29, 3) := by decide +kernel
theorem dL_holds_271 : decode cL_holds 271 = .ok (.aload_n 0, 1) := by decide +kernel
theorem dL_holds_272 : decode cL_holds 272 = .ok (.bipush 7, 2) := by decide +kernel
theorem dL_holds_274 : decode cL_holds 274 = .ok (.invokevirtual 13, 3) := by decide +kernel
theorem dL_holds_277 : decode cL_holds 277 = .ok (.iload 4, 2) := by decide +kernel
theorem dL_holds_279 : decode cL_holds 279 = .ok (.if_icmp .ne 18, 3) := by decide +kernel
theorem dL_holds_282 : decode cL_holds 282 = .ok (.aload_n 0, 1) := by decide +kernel
theorem dL_holds_283 : decode cL_holds 283 = .ok (.bipush 8, 2) := by decide +kernel
theorem dL_holds_285 : decode cL_holds 285 = .ok (.invokevirtual 13, 3) := by decide +kernel
theorem dL_holds_288 : decode cL_holds 288 = .ok (.iload 5, 2) := by decide +kernel
theorem dL_holds_290 : decode cL_holds 290 = .ok (.if_icmp .ne 7, 3) := by decide +kernel
theorem dL_holds_293 : decode cL_holds 293 = .ok (.iconst 1, 1) := by decide +kernel
theorem dL_holds_294 : decode cL_holds 294 = .ok (.goto 4, 3) := by decide +kernel
theorem dL_holds_297 : decode cL_holds 297 = .ok (.iconst 0, 1) := by decide +kernel
theorem dL_holds_298 : decode cL_holds 298 = .ok (.istore 8, 2) := by decide +kernel
theorem dL_holds_300 : decode cL_holds 300 = .ok (.iload 8, 2) := by decide +kernel
theorem dL_holds_302 : decode cL_holds 302 = .ok (.ifCond .eq 42, 3) := by decide +kernel
theorem dL_holds_305 : decode cL_holds 305 = .ok (.aload_n 0, 1) := by decide +kernel
theorem dL_holds_306 : decode cL_holds 306 = .ok (.iconst 0, 1) := by decide +kernel
theorem dL_holds_307 : decode cL_holds 307 = .ok (.invokevirtual 32, 3) := by decide +kernel
theorem dL_holds_310 : decode cL_holds 310 = .ok (.bipush 6, 2) := by decide +kernel
theorem dL_holds_312 : decode cL_holds 312 = .ok (.if_icmp .ne 14, 3) := by decide +kernel
theorem dL_holds_315 : decode cL_holds 315 = .ok (.iload 6, 2) := by decide +kernel
theorem dL_holds_317 : decode cL_holds 317 = .ok (.ifCond .eq 9, 3) := by decide +kernel
theorem dL_holds_320 : decode cL_holds 320 = .ok (.iload_n 2, 1) := by decide +kernel
theorem dL_holds_321 : decode cL_holds 321 = .ok (.bipush 16, 2) := by decide +kernel
theorem dL_holds_323 : decode cL_holds 323 = .ok (.if_icmp .ne 21, 3) := by decide +kernel
theorem dL_holds_326 : decode cL_holds 326 = .ok (.aload_n 0, 1) := by decide +kernel
theorem dL_holds_327 : decode cL_holds 327 = .ok (.invokevirtual 75, 3) := by decide +kernel
theorem dL_holds_330 : decode cL_holds 330 = .ok (.ldc2_w 79, 3) := by decide +kernel
theorem dL_holds_333 : decode cL_holds 333 = .ok (.dmul, 1) := by decide +kernel
theorem dL_holds_334 : decode cL_holds 334 = .ok (.iload_n 2, 1) := by decide +kernel
theorem dL_holds_335 : decode cL_holds 335 = .ok (.i2d, 1) := by decide +kernel
theorem dL_holds_336 : decode cL_holds 336 = .ok (.dcmp .l, 1) := by decide +kernel
theorem dL_holds_337 : decode cL_holds 337 = .ok (.ifCond .ne 7, 3) := by decide +kernel
theorem dL_holds_340 : decode cL_holds 340 = .ok (.iconst 1, 1) := by decide +kernel
theorem dL_holds_341 : decode cL_holds 341 = .ok (.goto 4, 3) := by decide +kernel
theorem dL_holds_344 : decode cL_holds 344 = .ok (.iconst 0, 1) := by decide +kernel
theorem dL_holds_345 : decode cL_holds 345 = .ok (.istore 8, 2) := by decide +kernel
theorem dL_holds_347 : decode cL_holds 347 = .ok (.iconst 0, 1) := by decide +kernel
theorem dL_holds_348 : decode cL_holds 348 = .ok (.istore 9, 2) := by decide +kernel
theorem dL_holds_350 : decode cL_holds 350 = .ok (.iload 9, 2) := by decide +kernel
theorem dL_holds_352 : decode cL_holds 352 = .ok (.bipush 8, 2) := by decide +kernel
theorem dL_holds_354 : decode cL_holds 354 = .ok (.if_icmp .ge 55, 3) := by decide +kernel
theorem dL_holds_357 : decode cL_holds 357 = .ok (.iload 8, 2) := by decide +kernel
theorem dL_holds_359 : decode cL_holds 359 = .ok (.ifCond .eq 41, 3) := by decide +kernel
theorem dL_holds_362 : decode cL_holds 362 = .ok (.aload_n 0, 1) := by decide +kernel
theorem dL_holds_363 : decode cL_holds 363 = .ok (.iload 9, 2) := by decide +kernel
theorem dL_holds_365 : decode cL_holds 365 = .ok (.invokevirtual 29, 3) := by decide +kernel
theorem dL_holds_368 : decode cL_holds 368 = .ok (.iconst (-1), 1) := by decide +kernel
theorem dL_holds_369 : decode cL_holds 369 = .ok (.if_icmp .ne 7, 3) := by decide +kernel
theorem dL_holds_372 : decode cL_holds 372 = .ok (.iconst 1, 1) := by decide +kernel
theorem dL_holds_373 : decode cL_holds 373 = .ok (.goto 4, 3) := by decide +kernel
theorem dL_holds_376 : decode cL_holds 376 = .ok (.iconst 0, 1) := by decide +kernel
theorem dL_holds_377 : decode cL_holds 377 = .ok (.iload 9, 2) := by decide +kernel
theorem dL_holds_379 : decode cL_holds 379 = .ok (.aload_n 0, 1) := by decide +kernel
theorem dL_holds_380 : decode cL_holds 380 = .ok (.bipush 8, 2) := by decide +kernel
theorem dL_holds_382 : decode cL_holds 382 = .ok (.invokevirtual 19, 3) := by decide +kernel
theorem dL_holds_385 : decode cL_holds 385 = .ok (.if_icmp .lt 7, 3) := by decide +kernel
theorem dL_holds_388 : decode cL_holds 388 = .ok (.iconst 1, 1) := by decide +kernel
theorem dL_holds_389 : decode cL_holds 389 = .ok (.goto 4, 3) := by decide +kernel
theorem dL_holds_392 : decode cL_holds 392 = .ok (.iconst 0, 1) := by decide +kernel
theorem dL_holds_393 : decode cL_holds 393 = .ok (.if_icmp .ne 7, 3) := by decide +kernel
theorem dL_holds_396 : decode cL_holds 396 = .ok (.iconst 1, 1) := by decide +kernel
theorem dL_holds_397 : decode cL_holds 397 = .ok (.goto 4, 3) := by decide +kernel
theorem dL_holds_400 : decode cL_holds 400 = .ok (.iconst 0, 1) := by decide +kernel
theorem dL_holds_401 : decode cL_holds 401 = .ok (.istore 8, 2) := by decide +kernel
theorem dL_holds_403 : decode cL_holds 403 = .ok (.iinc 9 1, 3) := by decide +kernel
theorem dL_holds_406 : decode cL_holds 406 = .ok (.goto (-56), 3) := by decide +kernel
theorem dL_holds_409 : decode cL_holds 409 = .ok (.iload 8, 2) := by decide +kernel
theorem dL_holds_411 : decode cL_holds 411 = .ok (.ireturn, 1) := by decide +kernel
set_option maxRecDepth 20000 in
theorem ggL_isAhead_L_looks : GoodIn wsL_isAhead wsL_looks := goodIn_ca (goodIn_ca (goodIn_r _ [4, 5, 6, 7, 8, 9, 10, 11, 12, 13, 14, 15, 16, 17, 18, 19, 20, 21, 22, 23, 24, 25, 26, 27, 28, 29, 30, 31, 32, 33, 34, 35, 36, 37, 38, 39, 40, 41, 42, 43, 44, 45, 46, 47, 48, 49, 50, 51, 52, 53, 54, 55, 56, 57, 58, 59, 60, 61, 62, 63, 64, 65, 66, 67, 68, 69, 70, 71, 72, 73, 74, 75, 76, 77, 78, 79, 80, 81, 82, 83, 84, 85, 86, 87, 88, 89, 90, 91, 92, 93, 94, 95, 96, 97, 98, 99, 100, 101, 102, 103, 104, 105, 106, 107, 108, 109, 110, 111, 112, 113, 114, 115, 116, 117, 118, 119, 120, 121, 122, 123, 124, 125, 126, 127, 128, 129, 130, 131, 132, 133, 134, 135, 136, 137, 138, 139, 140, 141, 142, 143, 144, 145, 146, 147, 148, 149, 150, 151, 262, 263, 264, 265, 266, 267, 268, 269, 270, 271, 272, 273, 274, 275, 276, 277, 278, 279, 280, 281, 282, 283, 284, 285, 286] (by decide +kernel) (by decide +kernel)) (goodIn_sub (fun _ h => List.mem_cons_of_mem _ (List.mem_append_left _ (List.mem_append_left _ (List.mem_append_right _ h)))) (by decide +kernel))) (goodIn_sub (fun _ h => List.mem_cons_of_mem _ (List.mem_append_left _ (List.mem_append_right _ h))) (by decide +kernel))
set_option maxRecDepth 20000 in
theorem gL_isAhead_L_looks : GoodIn wsL_isAhead (va_wsS RL 81 yL_looks wsL_looks) := goodIn_app (goodIn_of _ (by decide +kernel)) ggL_isAhead_L_looks
set_option maxRecDepth 20000 in
theorem ggL_isAhead_X4_keep : GoodIn wsL_isAhead wsX4_keep := goodIn_ca (goodIn_r _ [155, 12, 13, 156, 14, 157, 158, 159, 10, 160, 113, 114, 115, 161, 162, 163, 23, 164, 25, 165, 166, 167, 168, 169, 60, 51, 170, 65, 171, 172, 173, 174, 175, 176, 177, 178, 179, 180, 181, 182, 183, 184, 185, 20, 21, 22, 24, 26, 27, 28, 29, 30, 31, 32, 262, 263, 264, 265, 266, 267, 268, 269, 270, 271, 272, 273, 274, 275, 276, 280, 281, 282, 283, 284, 285, 286] (by decide +kernel) (by decide +kernel)) (goodIn_sub (fun _ h => List.mem_cons_of_mem _ (List.mem_append_left _ (List.mem_append_left _ (List.mem_append_right _ h)))) (by decide +kernel))
set_option maxRecDepth 20000 in
theorem gL_isAhead_X4_keep : GoodIn wsL_isAhead (wsV RL 85 RX4 yX4_keep wsX4_keep) := goodIn_app (goodIn_of _ (by decide +kernel)) ggL_isAhead_X4_keep
set_option maxRecDepth 20000 in
theorem ggL_isAhead_X4_threadOf : GoodIn wsL_isAhead wsX4_threadOf := goodIn_ca (goodIn_ca (goodIn_r _ [105, 106, 107, 12, 13, 14, 108, 17, 109, 110, 111, 10, 112, 113, 114, 115, 116, 41, 42, 117, 118, 119, 23, 120, 25, 80, 81, 82, 83, 51, 76, 77, 78, 79, 47, 48, 49, 50, 52, 53, 54, 55, 56, 57, 58, 59, 60, 61, 62, 63, 64, 65, 66, 27, 28, 29, 30, 31, 32, 121, 262, 263, 264, 265, 266, 267, 268, 269, 270, 271, 272, 273, 274, 275, 276] (by decide +kernel) (by decide +kernel)) (goodIn_sub (fun _ h => List.mem_cons_of_mem _ (List.mem_append_left _ (List.mem_append_right _ h))) (by decide +kernel))) (goodIn_sub (fun _ h => List.mem_cons_of_mem _ (List.mem_append_left _ (List.mem_append_left _ (List.mem_append_right _ h)))) (by decide +kernel))
set_option maxRecDepth 20000 in
theorem gL_isAhead_X4_threadOf : GoodIn wsL_isAhead (wsV RL 22 RX4 yX4_threadOf wsX4_threadOf) := goodIn_app (goodIn_of _ (by decide +kernel)) ggL_isAhead_X4_threadOf
set_option maxRecDepth 20000 in
theorem ggL_isAhead_X4_lastsFor : GoodIn wsL_isAhead wsX4_lastsFor := goodIn_ca (goodIn_r _ [189, 106, 107, 14, 110, 111, 10, 112, 113, 114, 115, 190, 191, 192, 23, 193, 51, 60, 25, 41, 42, 262, 263, 264, 265, 266, 267, 268, 269, 270, 271, 272, 273, 274, 275, 276] (by decide +kernel) (by decide +kernel)) (goodIn_sub (fun _ h => List.mem_cons_of_mem _ (List.mem_append_left _ (List.mem_append_right _ h))) (by decide +kernel))
set_option maxRecDepth 20000 in
theorem gL_isAhead_X4_lastsFor : GoodIn wsL_isAhead (wsV RL 88 RX4 yX4_lastsFor wsX4_lastsFor) := goodIn_app (goodIn_of _ (by decide +kernel)) ggL_isAhead_X4_lastsFor
set_option maxRecDepth 20000 in
theorem ggL_isAhead_X4_count : GoodIn wsL_isAhead wsX4_count := goodIn_ca (goodIn_r _ [11, 12, 13, 14, 15, 16, 17, 18, 19, 20, 21, 22, 23, 24, 25, 26, 27, 28, 29, 30, 31, 32, 33, 34, 35, 36, 37, 38, 39, 40, 41, 10, 42, 43, 44, 45, 46, 47, 48, 49, 50, 51, 52, 53, 54, 55, 56, 57, 58, 59, 60, 61, 62, 63, 64, 65, 66, 67, 68, 69, 70, 71, 72, 73, 74, 75, 76, 77, 78, 79, 80, 81, 82, 83, 84, 85, 86, 87, 88, 89, 90, 262, 263, 264, 265, 266, 267, 268, 269, 270, 271, 272, 273, 274, 275, 276, 277, 278, 279] (by decide +kernel) (by decide +kernel)) (goodIn_sub (fun _ h => List.mem_cons_of_mem _ (List.mem_append_left _ (List.mem_append_left _ (List.mem_append_right _ h)))) (by decide +kernel))
set_option maxRecDepth 20000 in
theorem gL_isAhead_X4_count : GoodIn wsL_isAhead (wsV RL 13 RX4 yX4_count wsX4_count) := goodIn_app (goodIn_of _ (by decide +kernel)) ggL_isAhead_X4_count
set_option maxRecDepth 20000 in
theorem ggL_isAhead_X4_read : GoodIn wsL_isAhead wsX4_read := goodIn_ca (goodIn_r _ [197, 106, 107, 18, 14, 110, 111, 10, 112, 113, 114, 115, 198, 199, 200, 201, 202, 203, 204, 205, 206, 162, 163, 23, 164, 25, 165, 166, 167, 168, 169, 60, 51, 170, 65, 171, 172, 173, 174, 175, 176, 177, 178, 179, 180, 181, 182, 183, 184, 185, 207, 208, 209, 210, 211, 77, 78, 79, 47, 48, 49, 50, 41, 42, 52, 53, 54, 55, 56, 57, 58, 59, 61, 62, 63, 64, 80, 81, 82, 83, 212, 213, 214, 215, 88, 89, 90, 262, 263, 264, 265, 266, 267, 268, 277, 278, 279, 269, 270, 271, 272, 273, 274, 275, 276, 280, 281, 282, 283, 284, 285, 286] (by decide +kernel) (by decide +kernel)) (goodIn_sub (fun _ h => List.mem_cons_of_mem _ (List.mem_append_left _ (List.mem_append_right _ h))) (by decide +kernel))
set_option maxRecDepth 20000 in
theorem gL_isAhead_X4_read : GoodIn wsL_isAhead (wsV RL 55 RX4 yX4_read wsX4_read) := goodIn_app (goodIn_of _ (by decide +kernel)) ggL_isAhead_X4_read
set_option maxRecDepth 20000 in
theorem ggL_isAhead_X4_goBack : GoodIn wsL_isAhead wsX4_goBack := goodIn_ca (goodIn_ca (goodIn_r _ [219, 12, 13, 220, 221, 157, 18, 14, 156, 158, 159, 10, 160, 113, 114, 115, 198, 199, 200, 201, 202, 203, 204, 205, 206, 162, 163, 23, 164, 25, 165, 166, 167, 168, 169, 60, 51, 170, 65, 171, 172, 173, 174, 175, 176, 177, 178, 179, 180, 181, 182, 183, 184, 185, 161, 20, 21, 22, 24, 26, 27, 28, 29, 30, 31, 32, 262, 263, 264, 265, 266, 267, 268, 277, 278, 279, 269, 270, 271, 272, 273, 274, 275, 276, 280, 281, 282, 283, 284, 285, 286] (by decide +kernel) (by decide +kernel)) (goodIn_sub (fun _ h => List.mem_cons_of_mem _ (List.mem_append_left _ (List.mem_append_left _ (List.mem_append_right _ h)))) (by decide +kernel))) (goodIn_sub (fun _ h => List.mem_cons_of_mem _ (List.mem_append_right _ h)) (by decide +kernel))
set_option maxRecDepth 20000 in
theorem gL_isAhead_X4_goBack : GoodIn wsL_isAhead (wsV RL 65 RX4 yX4_goBack wsX4_goBack) := goodIn_app (goodIn_of _ (by decide +kernel)) ggL_isAhead_X4_goBack
set_option maxRecDepth 20000 in
theorem ggL_isAhead_X4_bestGuard : GoodIn wsL_isAhead wsX4_bestGuard := goodIn_r _ [225, 226, 14, 17, 161, 162, 163, 23, 164, 25, 165, 166, 167, 168, 169, 60, 51, 170, 65, 171, 172, 173, 174, 175, 176, 177, 178, 179, 180, 181, 182, 183, 184, 185, 116, 41, 10, 42, 43, 44, 45, 46, 47, 48, 49, 50, 52, 53, 54, 55, 56, 57, 58, 59, 61, 62, 63, 64, 262, 263, 264, 265, 266, 267, 268, 269, 270, 271, 272, 273, 274, 275, 276, 280, 281, 282, 283, 284, 285, 286] (by decide +kernel) (by decide +kernel)
set_option maxRecDepth 20000 in
theorem gL_isAhead_X4_bestGuard : GoodIn wsL_isAhead (wsV RL 91 RX4 yX4_bestGuard wsX4_bestGuard) := goodIn_app (goodIn_of _ (by decide +kernel)) ggL_isAhead_X4_bestGuard
set_option maxRecDepth 20000 in
theorem ggL_isAhead_X4_guard : GoodIn wsL_isAhead wsX4_guard := goodIn_ca (goodIn_r _ [230, 106, 107, 18, 14, 17, 110, 111, 10, 112, 113, 114, 115, 198, 199, 200, 201, 202, 203, 204, 205, 206, 162, 163, 23, 164, 25, 165, 166, 167, 168, 169, 60, 51, 170, 65, 171, 172, 173, 174, 175, 176, 177, 178, 179, 180, 181, 182, 183, 184, 185, 116, 41, 42, 262, 263, 264, 265, 266, 267, 268, 269, 270, 271, 272, 273, 274, 275, 276, 277, 278, 279, 280, 281, 282, 283, 284, 285, 286] (by decide +kernel) (by decide +kernel)) (goodIn_sub (fun _ h => List.mem_cons_of_mem _ (List.mem_append_left _ (List.mem_append_right _ h))) (by decide +kernel))
set_option maxRecDepth 20000 in
theorem gL_isAhead_X4_guard : GoodIn wsL_isAhead (wsV RL 46 RX4 yX4_guard wsX4_guard) := goodIn_app (goodIn_of _ (by decide +kernel)) ggL_isAhead_X4_guard
set_option maxRecDepth 20000 in
theorem ggL_isAhead_X4_ifGone : GoodIn wsL_isAhead wsX4_ifGone := goodIn_ca (goodIn_r _ [234, 12, 13, 226, 14, 95, 97, 96, 101, 113, 114, 10, 115, 161, 162, 163, 23, 164, 25, 165, 166, 167, 168, 169, 60, 51, 170, 65, 171, 172, 173, 174, 175, 176, 177, 178, 179, 180, 181, 182, 183, 184, 185, 235, 236, 237, 238, 239, 240, 241, 208, 209, 210, 211, 77, 78, 79, 47, 48, 49, 50, 41, 42, 52, 53, 54, 55, 56, 57, 58, 59, 61, 62, 63, 64, 80, 81, 82, 83, 212, 213, 214, 215, 88, 89, 90, 242, 243, 244, 245, 246, 247, 248, 249, 262, 263, 264, 265, 266, 267, 268, 269, 270, 271, 272, 273, 274, 275, 276, 280, 281, 282, 283, 284, 285, 286] (by decide +kernel) (by decide +kernel)) (goodIn_sub (fun _ h => List.mem_cons_of_mem _ (List.mem_append_left _ (List.mem_append_left _ (List.mem_append_right _ h)))) (by decide +kernel))
set_option maxRecDepth 20000 in
theorem gL_isAhead_X4_ifGone : GoodIn wsL_isAhead (wsV RL 94 RX4 yX4_ifGone wsX4_ifGone) := goodIn_app (goodIn_of _ (by decide +kernel)) ggL_isAhead_X4_ifGone
set_option maxRecDepth 20000 in
theorem ggL_isAhead_X4_go : GoodIn wsL_isAhead wsX4_go := goodIn_ca (goodIn_r _ [253, 12, 13, 18, 14, 113, 114, 10, 115, 198, 199, 200, 201, 202, 203, 204, 205, 206, 162, 163, 23, 164, 25, 165, 166, 167, 168, 169, 60, 51, 170, 65, 171, 172, 173, 174, 175, 176, 177, 178, 179, 180, 181, 182, 183, 184, 185, 235, 236, 237, 238, 239, 240, 241, 208, 209, 210, 211, 77, 78, 79, 47, 48, 49, 50, 41, 42, 52, 53, 54, 55, 56, 57, 58, 59, 61, 62, 63, 64, 80, 81, 82, 83, 212, 213, 214, 215, 88, 89, 90, 242, 243, 244, 245, 246, 247, 248, 249, 262, 263, 264, 265, 266, 267, 268, 277, 278, 279, 269, 270, 271, 272, 273, 274, 275, 276, 280, 281, 282, 283, 284, 285, 286] (by decide +kernel) (by decide +kernel)) (goodIn_sub (fun _ h => List.mem_cons_of_mem _ (List.mem_append_left _ (List.mem_append_left _ (List.mem_append_right _ h)))) (by decide +kernel))
set_option maxRecDepth 20000 in
theorem gL_isAhead_X4_go : GoodIn wsL_isAhead (wsV RL 62 RX4 yX4_go wsX4_go) := goodIn_app (goodIn_of _ (by decide +kernel)) ggL_isAhead_X4_go
set_option maxRecDepth 20000 in
theorem ggL_isAhead_X4_machine : GoodIn wsL_isAhead wsX4_machine := goodIn_ca (goodIn_r _ [94, 12, 13, 14, 95, 96, 97, 98, 99, 100, 101, 262, 263, 264, 265, 266, 267, 268, 269, 270, 271, 272, 273, 274, 275, 276, 280, 281, 282, 283, 284, 285, 286] (by decide +kernel) (by decide +kernel)) (goodIn_sub (fun _ h => List.mem_cons_of_mem _ (List.mem_append_left _ (List.mem_append_left _ (List.mem_append_right _ h)))) (by decide +kernel))
set_option maxRecDepth 20000 in
theorem gL_isAhead_X4_machine : GoodIn wsL_isAhead (wsV RL 19 RX4 yX4_machine wsX4_machine) := goodIn_app (goodIn_of _ (by decide +kernel)) ggL_isAhead_X4_machine
set_option maxRecDepth 20000 in
theorem ggL_isAhead_X4_undo : GoodIn wsL_isAhead wsX4_undo := goodIn_ca (goodIn_r _ [257, 220, 221, 18, 19, 14, 258, 259, 260, 201, 261, 205, 203, 204, 206, 162, 163, 23, 164, 25, 165, 166, 167, 168, 169, 60, 51, 170, 65, 171, 172, 173, 174, 175, 176, 177, 178, 179, 180, 181, 182, 183, 184, 185, 262, 263, 264, 265, 266, 267, 268, 277, 278, 279, 269, 270, 271, 272, 273, 274, 275, 276, 280, 281, 282, 283, 284, 285, 286] (by decide +kernel) (by decide +kernel)) (goodIn_sub (fun _ h => List.mem_cons_of_mem _ (List.mem_append_right _ h)) (by decide +kernel))
set_option maxRecDepth 20000 in
theorem gL_isAhead_X4_undo : GoodIn wsL_isAhead (wsV RL 97 RX4 yX4_undo wsX4_undo) := goodIn_app (goodIn_of _ (by decide +kernel)) ggL_isAhead_X4_undo
theorem dL_isAhead_0 : decode cL_isAhead 0 = .ok (.aload_n 0, 1) := by decide +kernel
theorem dL_isAhead_1 : decode cL_isAhead 1 = .ok (.invokestatic 81, 3) := by decide +kernel
theorem dL_isAhead_4 : decode cL_isAhead 4 = .ok (.lstore_n 3, 1) := by decide +kernel
theorem dL_isAhead_5 : decode cL_isAhead 5 = .ok (.aload_n 0, 1) := by decide +kernel
theorem dL_isAhead_6 : decode cL_isAhead 6 = .ok (.iconst 1, 1) := by decide +kernel
theorem dL_isAhead_7 : decode cL_isAhead 7 = .ok (.invokevirtual 85, 3) := by decide +kernel
theorem dL_isAhead_10 : decode cL_isAhead 10 = .ok (.istore 5, 2) := by decide +kernel
theorem dL_isAhead_12 : decode cL_isAhead 12 = .ok (.aload_n 0, 1) := by decide +kernel
theorem dL_isAhead_13 : decode cL_isAhead 13 = .ok (.iload_n 1, 1) := by decide +kernel
theorem dL_isAhead_14 : decode cL_isAhead 14 = .ok (.iconst 3, 1) := by decide +kernel
theorem dL_isAhead_15 : decode cL_isAhead 15 = .ok (.invokevirtual 22, 3) := by decide +kernel
theorem dL_isAhead_18 : decode cL_isAhead 18 = .ok (.istore 6, 2) := by decide +kernel
theorem dL_isAhead_20 : decode cL_isAhead 20 = .ok (.aload_n 0, 1) := by decide +kernel
theorem dL_isAhead_21 : decode cL_isAhead 21 = .ok (.iload_n 1, 1) := by decide +kernel
theorem dL_isAhead_22 : decode cL_isAhead 22 = .ok (.invokevirtual 88, 3) := by decide +kernel
theorem dL_isAhead_25 : decode cL_isAhead 25 = .ok (.istore 7, 2) := by decide +kernel
theorem dL_isAhead_27 : decode cL_isAhead 27 = .ok (.iconst 0, 1) := by decide +kernel
theorem dL_isAhead_28 : decode cL_isAhead 28 = .ok (.istore 8, 2) := by decide +kernel
theorem dL_isAhead_30 : decode cL_isAhead 30 = .ok (.iload 5, 2) := by decide +kernel
theorem dL_isAhead_32 : decode cL_isAhead 32 = .ok (.aload_n 0, 1) := by decide +kernel
theorem dL_isAhead_33 : decode cL_isAhead 33 = .ok (.iconst 0, 1) := by decide +kernel
theorem dL_isAhead_34 : decode cL_isAhead 34 = .ok (.invokevirtual 13, 3) := by decide +kernel
theorem dL_isAhead_37 : decode cL_isAhead 37 = .ok (.if_icmp .ne 7, 3) := by decide +kernel
theorem dL_isAhead_40 : decode cL_isAhead 40 = .ok (.iconst 1, 1) := by decide +kernel
theorem dL_isAhead_41 : decode cL_isAhead 41 = .ok (.goto 4, 3) := by decide +kernel
theorem dL_isAhead_44 : decode cL_isAhead 44 = .ok (.iconst 0, 1) := by decide +kernel
theorem dL_isAhead_45 : decode cL_isAhead 45 = .ok (.istore 9, 2) := by decide +kernel
theorem dL_isAhead_47 : decode cL_isAhead 47 = .ok (.iload 8, 2) := by decide +kernel
theorem dL_isAhead_49 : decode cL_isAhead 49 = .ok (.bipush 99, 2) := by decide +kernel
theorem dL_isAhead_51 : decode cL_isAhead 51 = .ok (.if_icmp .ge 42, 3) := by decide +kernel
theorem dL_isAhead_54 : decode cL_isAhead 54 = .ok (.aload_n 0, 1) := by decide +kernel
theorem dL_isAhead_55 : decode cL_isAhead 55 = .ok (.iload_n 1, 1) := by decide +kernel
theorem dL_isAhead_56 : decode cL_isAhead 56 = .ok (.iconst 3, 1) := by decide +kernel
theorem dL_isAhead_57 : decode cL_isAhead 57 = .ok (.invokevirtual 22, 3) := by decide +kernel
theorem dL_isAhead_60 : decode cL_isAhead 60 = .ok (.iload 6, 2) := by decide +kernel
theorem dL_isAhead_62 : decode cL_isAhead 62 = .ok (.if_icmp .ne 31, 3) := by decide +kernel
theorem dL_isAhead_65 : decode cL_isAhead 65 = .ok (.iload 9, 2) := by decide +kernel
theorem dL_isAhead_67 : decode cL_isAhead 67 = .ok (.ifCond .eq 26, 3) := by decide +kernel
theorem dL_isAhead_70 : decode cL_isAhead 70 = .ok (.aload_n 0, 1) := by decide +kernel
theorem dL_isAhead_71 : decode cL_isAhead 71 = .ok (.iload_n 1, 1) := by decide +kernel
theorem dL_isAhead_72 : decode cL_isAhead 72 = .ok (.invokevirtual 55, 3) := by decide +kernel
theorem dL_isAhead_75 : decode cL_isAhead 75 = .ok (.iload 6, 2) := by decide +kernel
theorem dL_isAhead_77 : decode cL_isAhead 77 = .ok (.if_icmp .ne 7, 3) := by decide +kernel
theorem dL_isAhead_80 : decode cL_isAhead 80 = .ok (.iconst 1, 1) := by decide +kernel
theorem dL_isAhead_81 : decode cL_isAhead 81 = .ok (.goto 4, 3) := by decide +kernel
theorem dL_isAhead_84 : decode cL_isAhead 84 = .ok (.iconst 0, 1) := by decide +kernel
theorem dL_isAhead_85 : decode cL_isAhead 85 = .ok (.istore 9, 2) := by decide +kernel
theorem dL_isAhead_87 : decode cL_isAhead 87 = .ok (.iinc 8 1, 3) := by decide +kernel
theorem dL_isAhead_90 : decode cL_isAhead 90 = .ok (.goto (-43), 3) := by decide +kernel
theorem dL_isAhead_93 : decode cL_isAhead 93 = .ok (.iload 9, 2) := by decide +kernel
theorem dL_isAhead_95 : decode cL_isAhead 95 = .ok (.ifCond .eq 53, 3) := by decide +kernel
theorem dL_isAhead_98 : decode cL_isAhead 98 = .ok (.aload_n 0, 1) := by decide +kernel
theorem dL_isAhead_99 : decode cL_isAhead 99 = .ok (.iload_n 1, 1) := by decide +kernel
theorem dL_isAhead_100 : decode cL_isAhead 100 = .ok (.iconst 3, 1) := by decide +kernel
theorem dL_isAhead_101 : decode cL_isAhead 101 = .ok (.invokevirtual 22, 3) := by decide +kernel
theorem dL_isAhead_104 : decode cL_isAhead 104 = .ok (.iload 6, 2) := by decide +kernel
theorem dL_isAhead_106 : decode cL_isAhead 106 = .ok (.if_icmp .ne 12, 3) := by decide +kernel
theorem dL_isAhead_109 : decode cL_isAhead 109 = .ok (.iload 7, 2) := by decide +kernel
theorem dL_isAhead_111 : decode cL_isAhead 111 = .ok (.iconst (-1), 1) := by decide +kernel
theorem dL_isAhead_112 : decode cL_isAhead 112 = .ok (.if_icmp .ne 36, 3) := by decide +kernel
theorem dL_isAhead_115 : decode cL_isAhead 115 = .ok (.goto 10, 3) := by decide +kernel
theorem dL_isAhead_118 : decode cL_isAhead 118 = .ok (.iload 7, 2) := by decide +kernel
theorem dL_isAhead_120 : decode cL_isAhead 120 = .ok (.iload 8, 2) := by decide +kernel
theorem dL_isAhead_122 : decode cL_isAhead 122 = .ok (.if_icmp .ne 26, 3) := by decide +kernel
theorem dL_isAhead_125 : decode cL_isAhead 125 = .ok (.aload_n 0, 1) := by decide +kernel
theorem dL_isAhead_126 : decode cL_isAhead 126 = .ok (.iconst 1, 1) := by decide +kernel
theorem dL_isAhead_127 : decode cL_isAhead 127 = .ok (.invokevirtual 65, 3) := by decide +kernel
theorem dL_isAhead_130 : decode cL_isAhead 130 = .ok (.iload 5, 2) := by decide +kernel
theorem dL_isAhead_132 : decode cL_isAhead 132 = .ok (.if_icmp .ne 16, 3) := by decide +kernel
theorem dL_isAhead_135 : decode cL_isAhead 135 = .ok (.aload_n 0, 1) := by decide +kernel
theorem dL_isAhead_136 : decode cL_isAhead 136 = .ok (.invokestatic 81, 3) := by decide +kernel
theorem dL_isAhead_139 : decode cL_isAhead 139 = .ok (.lload_n 3, 1) := by decide +kernel
theorem dL_isAhead_140 : decode cL_isAhead 140 = .ok (.lcmp, 1) := by decide +kernel
theorem dL_isAhead_141 : decode cL_isAhead 141 = .ok (.ifCond .ne 7, 3) := by decide +kernel
theorem dL_isAhead_144 : decode cL_isAhead 144 = .ok (.iconst 1, 1) := by decide +kernel
theorem dL_isAhead_145 : decode cL_isAhead 145 = .ok (.goto 4, 3) := by decide +kernel
theorem dL_isAhead_148 : decode cL_isAhead 148 = .ok (.iconst 0, 1) := by decide +kernel
theorem dL_isAhead_149 : decode cL_isAhead 149 = .ok (.istore 9, 2) := by decide +kernel
theorem dL_isAhead_151 : decode cL_isAhead 151 = .ok (.aload_n 0, 1) := by decide +kernel
theorem dL_isAhead_152 : decode cL_isAhead 152 = .ok (.invokevirtual 91, 3) := by decide +kernel
theorem dL_isAhead_155 : decode cL_isAhead 155 = .ok (.istore 10, 2) := by decide +kernel
theorem dL_isAhead_157 : decode cL_isAhead 157 = .ok (.aload_n 0, 1) := by decide +kernel
theorem dL_isAhead_158 : decode cL_isAhead 158 = .ok (.iconst 5, 1) := by decide +kernel
theorem dL_isAhead_159 : decode cL_isAhead 159 = .ok (.invokevirtual 13, 3) := by decide +kernel
theorem dL_isAhead_162 : decode cL_isAhead 162 = .ok (.istore 11, 2) := by decide +kernel
theorem dL_isAhead_164 : decode cL_isAhead 164 = .ok (.iload 10, 2) := by decide +kernel
theorem dL_isAhead_166 : decode cL_isAhead 166 = .ok (.ifCond .ge 7, 3) := by decide +kernel
theorem dL_isAhead_169 : decode cL_isAhead 169 = .ok (.iconst 0, 1) := by decide +kernel
theorem dL_isAhead_170 : decode cL_isAhead 170 = .ok (.goto 15, 3) := by decide +kernel
theorem dL_isAhead_173 : decode cL_isAhead 173 = .ok (.aload_n 0, 1) := by decide +kernel
theorem dL_isAhead_174 : decode cL_isAhead 174 = .ok (.iload 10, 2) := by decide +kernel
theorem dL_isAhead_176 : decode cL_isAhead 176 = .ok (.invokevirtual 46, 3) := by decide +kernel
theorem dL_isAhead_179 : decode cL_isAhead 179 = .ok (.aload_n 0, 1) := by decide +kernel
theorem dL_isAhead_180 : decode cL_isAhead 180 = .ok (.iconst 4, 1) := by decide +kernel
theorem dL_isAhead_181 : decode cL_isAhead 181 = .ok (.invokevirtual 13, 3) := by decide +kernel
theorem dL_isAhead_184 : decode cL_isAhead 184 = .ok (.imul, 1) := by decide +kernel
theorem dL_isAhead_185 : decode cL_isAhead 185 = .ok (.istore 12, 2) := by decide +kernel
theorem dL_isAhead_187 : decode cL_isAhead 187 = .ok (.iload 9, 2) := by decide +kernel
theorem dL_isAhead_189 : decode cL_isAhead 189 = .ok (.ifCond .eq 42, 3) := by decide +kernel
theorem dL_isAhead_192 : decode cL_isAhead 192 = .ok (.iload 10, 2) := by decide +kernel
theorem dL_isAhead_194 : decode cL_isAhead 194 = .ok (.ifCond .ge 7, 3) := by decide +kernel
theorem dL_isAhead_197 : decode cL_isAhead 197 = .ok (.iconst 1, 1) := by decide +kernel
theorem dL_isAhead_198 : decode cL_isAhead 198 = .ok (.goto 4, 3) := by decide +kernel
theorem dL_isAhead_201 : decode cL_isAhead 201 = .ok (.iconst 0, 1) := by decide +kernel
theorem dL_isAhead_202 : decode cL_isAhead 202 = .ok (.iload 11, 2) := by decide +kernel
theorem dL_isAhead_204 : decode cL_isAhead 204 = .ok (.bipush 16, 2) := by decide +kernel
theorem dL_isAhead_206 : decode cL_isAhead 206 = .ok (.if_icmp .ne 7, 3) := by decide +kernel
theorem dL_isAhead_209 : decode cL_isAhead 209 = .ok (.iconst 1, 1) := by decide +kernel
theorem dL_isAhead_210 : decode cL_isAhead 210 = .ok (.goto 4, 3) := by decide +kernel
theorem dL_isAhead_213 : decode cL_isAhead 213 = .ok (.iconst 0, 1) := by decide +kernel
theorem dL_isAhead_214 : decode cL_isAhead 214 = .ok (.if_icmp .ne 17, 3) := by decide +kernel
theorem dL_isAhead_217 : decode cL_isAhead 217 = .ok (.aload_n 0, 1) := by decide +kernel
theorem dL_isAhead_218 : decode cL_isAhead 218 = .ok (.iconst 1, 1) := by decide +kernel
theorem dL_isAhead_219 : decode cL_isAhead 219 = .ok (.invokevirtual 65, 3) := by decide +kernel
theorem dL_isAhead_222 : decode cL_isAhead 222 = .ok (.iload 5, 2) := by decide +kernel
theorem dL_isAhead_224 : decode cL_isAhead 224 = .ok (.if_icmp .ne 7, 3) := by decide +kernel
theorem dL_isAhead_227 : decode cL_isAhead 227 = .ok (.iconst 1, 1) := by decide +kernel
theorem dL_isAhead_228 : decode cL_isAhead 228 = .ok (.goto 4, 3) := by decide +kernel
theorem dL_isAhead_231 : decode cL_isAhead 231 = .ok (.iconst 0, 1) := by decide +kernel
theorem dL_isAhead_232 : decode cL_isAhead 232 = .ok (.istore 9, 2) := by decide +kernel
theorem dL_isAhead_234 : decode cL_isAhead 234 = .ok (.iconst 0, 1) := by decide +kernel
theorem dL_isAhead_235 : decode cL_isAhead 235 = .ok (.istore 13, 2) := by decide +kernel
theorem dL_isAhead_237 : decode cL_isAhead 237 = .ok (.iload 13, 2) := by decide +kernel
theorem dL_isAhead_239 : decode cL_isAhead 239 = .ok (.bipush 16, 2) := by decide +kernel
theorem dL_isAhead_241 : decode cL_isAhead 241 = .ok (.if_icmp .ge 86, 3) := by decide +kernel
theorem dL_isAhead_244 : decode cL_isAhead 244 = .ok (.iload 9, 2) := by decide +kernel
theorem dL_isAhead_246 : decode cL_isAhead 246 = .ok (.ifCond .eq 81, 3) := by decide +kernel
theorem dL_isAhead_249 : decode cL_isAhead 249 = .ok (.iload 10, 2) := by decide +kernel
theorem dL_isAhead_251 : decode cL_isAhead 251 = .ok (.ifCond .lt 76, 3) := by decide +kernel
theorem dL_isAhead_254 : decode cL_isAhead 254 = .ok (.aload_n 0, 1) := by decide +kernel
theorem dL_isAhead_255 : decode cL_isAhead 255 = .ok (.iload 13, 2) := by decide +kernel
theorem dL_isAhead_257 : decode cL_isAhead 257 = .ok (.iconst 1, 1) := by decide +kernel
theorem dL_isAhead_258 : decode cL_isAhead 258 = .ok (.invokevirtual 22, 3) := by decide +kernel
theorem dL_isAhead_261 : decode cL_isAhead 261 = .ok (.ifCond .ne 60, 3) := by decide +kernel
theorem dL_isAhead_264 : decode cL_isAhead 264 = .ok (.aload_n 0, 1) := by decide +kernel
theorem dL_isAhead_265 : decode cL_isAhead 265 = .ok (.iload 13, 2) := by decide +kernel
theorem dL_isAhead_267 : decode cL_isAhead 267 = .ok (.invokevirtual 46, 3) := by decide +kernel
theorem dL_isAhead_270 : decode cL_isAhead 270 = .ok (.iconst 1, 1) := by decide +kernel
theorem dL_isAhead_271 : decode cL_isAhead 271 = .ok (.if_icmp .ne 47, 3) := by decide +kernel
theorem dL_isAhead_274 : decode cL_isAhead 274 = .ok (.iload 13, 2) := by decide +kernel
theorem dL_isAhead_276 : decode cL_isAhead 276 = .ok (.iload 10, 2) := by decide +kernel
theorem dL_isAhead_278 : decode cL_isAhead 278 = .ok (.if_icmp .ge 16, 3) := by decide +kernel
theorem dL_isAhead_281 : decode cL_isAhead 281 = .ok (.aload_n 0, 1) := by decide +kernel
theorem dL_isAhead_282 : decode cL_isAhead 282 = .ok (.iconst 4, 1) := by decide +kernel
theorem dL_isAhead_283 : decode cL_isAhead 283 = .ok (.invokevirtual 13, 3) := by decide +kernel
theorem dL_isAhead_286 : decode cL_isAhead 286 = .ok (.iload 12, 2) := by decide +kernel
theorem dL_isAhead_288 : decode cL_isAhead 288 = .ok (.if_icmp .ge 30, 3) := by decide +kernel
theorem dL_isAhead_291 : decode cL_isAhead 291 = .ok (.goto 13, 3) := by decide +kernel
theorem dL_isAhead_294 : decode cL_isAhead 294 = .ok (.aload_n 0, 1) := by decide +kernel
theorem dL_isAhead_295 : decode cL_isAhead 295 = .ok (.iconst 4, 1) := by decide +kernel
theorem dL_isAhead_296 : decode cL_isAhead 296 = .ok (.invokevirtual 13, 3) := by decide +kernel
theorem dL_isAhead_299 : decode cL_isAhead 299 = .ok (.iload 12, 2) := by decide +kernel
theorem dL_isAhead_301 : decode cL_isAhead 301 = .ok (.if_icmp .gt 17, 3) := by decide +kernel
theorem dL_isAhead_304 : decode cL_isAhead 304 = .ok (.aload_n 0, 1) := by decide +kernel
theorem dL_isAhead_305 : decode cL_isAhead 305 = .ok (.iconst 1, 1) := by decide +kernel
theorem dL_isAhead_306 : decode cL_isAhead 306 = .ok (.invokevirtual 65, 3) := by decide +kernel
theorem dL_isAhead_309 : decode cL_isAhead 309 = .ok (.iload 5, 2) := by decide +kernel
theorem dL_isAhead_311 : decode cL_isAhead 311 = .ok (.if_icmp .ne 7, 3) := by decide +kernel
theorem dL_isAhead_314 : decode cL_isAhead 314 = .ok (.iconst 1, 1) := by decide +kernel
theorem dL_isAhead_315 : decode cL_isAhead 315 = .ok (.goto 4, 3) := by decide +kernel
theorem dL_isAhead_318 : decode cL_isAhead 318 = .ok (.iconst 0, 1) := by decide +kernel
theorem dL_isAhead_319 : decode cL_isAhead 319 = .ok (.istore 9, 2) := by decide +kernel
theorem dL_isAhead_321 : decode cL_isAhead 321 = .ok (.iinc 13 1, 3) := by decide +kernel
theorem dL_isAhead_324 : decode cL_isAhead 324 = .ok (.goto (-87), 3) := by decide +kernel
theorem dL_isAhead_327 : decode cL_isAhead 327 = .ok (.aload_n 0, 1) := by decide +kernel
theorem dL_isAhead_328 : decode cL_isAhead 328 = .ok (.iload_n 2, 1) := by decide +kernel
theorem dL_isAhead_329 : decode cL_isAhead 329 = .ok (.iconst 0, 1) := by decide +kernel
theorem dL_isAhead_330 : decode cL_isAhead 330 = .ok (.invokevirtual 94, 3) := by decide +kernel
theorem dL_isAhead_333 : decode cL_isAhead 333 = .ok (.istore 13, 2) := by decide +kernel
theorem dL_isAhead_335 : decode cL_isAhead 335 = .ok (.aload_n 0, 1) := by decide +kernel
theorem dL_isAhead_336 : decode cL_isAhead 336 = .ok (.iload_n 2, 1) := by decide +kernel
theorem dL_isAhead_337 : decode cL_isAhead 337 = .ok (.iconst 1, 1) := by decide +kernel
theorem dL_isAhead_338 : decode cL_isAhead 338 = .ok (.invokevirtual 94, 3) := by decide +kernel
theorem dL_isAhead_341 : decode cL_isAhead 341 = .ok (.istore 14, 2) := by decide +kernel
theorem dL_isAhead_343 : decode cL_isAhead 343 = .ok (.aload_n 0, 1) := by decide +kernel
theorem dL_isAhead_344 : decode cL_isAhead 344 = .ok (.iload_n 2, 1) := by decide +kernel
theorem dL_isAhead_345 : decode cL_isAhead 345 = .ok (.iconst 2, 1) := by decide +kernel
theorem dL_isAhead_346 : decode cL_isAhead 346 = .ok (.invokevirtual 94, 3) := by decide +kernel
theorem dL_isAhead_349 : decode cL_isAhead 349 = .ok (.istore 15, 2) := by decide +kernel
theorem dL_isAhead_351 : decode cL_isAhead 351 = .ok (.iload 9, 2) := by decide +kernel
theorem dL_isAhead_353 : decode cL_isAhead 353 = .ok (.ifCond .eq 68, 3) := by decide +kernel
theorem dL_isAhead_356 : decode cL_isAhead 356 = .ok (.aload_n 0, 1) := by decide +kernel
theorem dL_isAhead_357 : decode cL_isAhead 357 = .ok (.iload_n 2, 1) := by decide +kernel
theorem dL_isAhead_358 : decode cL_isAhead 358 = .ok (.invokevirtual 62, 3) := by decide +kernel
theorem dL_isAhead_361 : decode cL_isAhead 361 = .ok (.iload 13, 2) := by decide +kernel
theorem dL_isAhead_363 : decode cL_isAhead 363 = .ok (.if_icmp .ne 58, 3) := by decide +kernel
theorem dL_isAhead_366 : decode cL_isAhead 366 = .ok (.aload_n 0, 1) := by decide +kernel
theorem dL_isAhead_367 : decode cL_isAhead 367 = .ok (.iconst 1, 1) := by decide +kernel
theorem dL_isAhead_368 : decode cL_isAhead 368 = .ok (.invokevirtual 19, 3) := by decide +kernel
theorem dL_isAhead_371 : decode cL_isAhead 371 = .ok (.iload 14, 2) := by decide +kernel
theorem dL_isAhead_373 : decode cL_isAhead 373 = .ok (.if_icmp .ne 48, 3) := by decide +kernel
theorem dL_isAhead_376 : decode cL_isAhead 376 = .ok (.aload_n 0, 1) := by decide +kernel
theorem dL_isAhead_377 : decode cL_isAhead 377 = .ok (.iconst 0, 1) := by decide +kernel
theorem dL_isAhead_378 : decode cL_isAhead 378 = .ok (.invokevirtual 19, 3) := by decide +kernel
theorem dL_isAhead_381 : decode cL_isAhead 381 = .ok (.iload 15, 2) := by decide +kernel
theorem dL_isAhead_383 : decode cL_isAhead 383 = .ok (.if_icmp .ne 38, 3) := by decide +kernel
theorem dL_isAhead_386 : decode cL_isAhead 386 = .ok (.iload 13, 2) := by decide +kernel
theorem dL_isAhead_388 : decode cL_isAhead 388 = .ok (.iload_n 2, 1) := by decide +kernel
theorem dL_isAhead_389 : decode cL_isAhead 389 = .ok (.if_icmp .eq 12, 3) := by decide +kernel
theorem dL_isAhead_392 : decode cL_isAhead 392 = .ok (.aload_n 0, 1) := by decide +kernel
theorem dL_isAhead_393 : decode cL_isAhead 393 = .ok (.bipush 6, 2) := by decide +kernel
theorem dL_isAhead_395 : decode cL_isAhead 395 = .ok (.invokevirtual 19, 3) := by decide +kernel
theorem dL_isAhead_398 : decode cL_isAhead 398 = .ok (.ifCond .ne 23, 3) := by decide +kernel
theorem dL_isAhead_401 : decode cL_isAhead 401 = .ok (.aload_n 0, 1) := by decide +kernel
theorem dL_isAhead_402 : decode cL_isAhead 402 = .ok (.invokevirtual 97, 3) := by decide +kernel
theorem dL_isAhead_405 : decode cL_isAhead 405 = .ok (.ifCond .lt 16, 3) := by decide +kernel
theorem dL_isAhead_408 : decode cL_isAhead 408 = .ok (.aload_n 0, 1) := by decide +kernel
theorem dL_isAhead_409 : decode cL_isAhead 409 = .ok (.invokestatic 81, 3) := by decide +kernel
theorem dL_isAhead_412 : decode cL_isAhead 412 = .ok (.lload_n 3, 1) := by decide +kernel
theorem dL_isAhead_413 : decode cL_isAhead 413 = .ok (.lcmp, 1) := by decide +kernel
theorem dL_isAhead_414 : decode cL_isAhead 414 = .ok (.ifCond .ne 7, 3) := by decide +kernel
theorem dL_isAhead_417 : decode cL_isAhead 417 = .ok (.iconst 1, 1) := by decide +kernel
theorem dL_isAhead_418 : decode cL_isAhead 418 = .ok (.goto 4, 3) := by decide +kernel
theorem dL_isAhead_421 : decode cL_isAhead 421 = .ok (.iconst 0, 1) := by decide +kernel
theorem dL_isAhead_422 : decode cL_isAhead 422 = .ok (.ireturn, 1) := by decide +kernel
