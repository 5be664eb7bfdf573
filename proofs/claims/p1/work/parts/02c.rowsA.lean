theorem dX4_set_71 : decode cX4_set 71 = .ok (.iload_n 1, 1) := by decide +kernel
theorem dX4_set_72 : decode cX4_set 72 = .ok (.iaload, 1) := by decide +kernel
theorem dX4_set_73 : decode cX4_set 73 = .ok (.istore_n 3, 1) := by decide +kernel
theorem dX4_set_74 : decode cX4_set 74 = .ok (.aload_n 0, 1) := by decide +kernel
theorem dX4_set_75 : decode cX4_set 75 = .ok (.getfield 10, 3) := by decide +kernel
theorem dX4_set_78 : decode cX4_set 78 = .ok (.getfield 104, 3) := by decide +kernel
theorem dX4_set_81 : decode cX4_set 81 = .ok (.iload_n 1, 1) := by decide +kernel
theorem dX4_set_82 : decode cX4_set 82 = .ok (.iload_n 2, 1) := by decide +kernel
theorem dX4_set_83 : decode cX4_set 83 = .ok (.iastore, 1) := by decide +kernel
theorem dX4_set_84 : decode cX4_set 84 = .ok (.iload_n 3, 1) := by decide +kernel
theorem dX4_set_85 : decode cX4_set 85 = .ok (.ireturn, 1) := by decide +kernel
set_option maxRecDepth 20000 in
theorem ggX4_read_X4_isThread : GoodIn wsX4_read wsX4_isThread := goodIn_r _ [8, 9, 10, 7, 11] (by decide +kernel) (by decide +kernel)
set_option maxRecDepth 20000 in
theorem gX4_read_X4_isThread : GoodIn wsX4_read (va_wsS RX4 45 yX4_isThread wsX4_isThread) := goodIn_app (goodIn_of _ (by decide +kernel)) ggX4_read_X4_isThread
set_option maxRecDepth 20000 in
theorem ggX4_read_X1_push : GoodIn wsX4_read wsX1_push := goodIn_r _ [16, 17, 18, 19, 20, 21, 22, 23, 24, 25, 26, 27, 28, 29, 30, 31, 32, 33, 34, 35, 36, 37, 38, 39, 40, 41, 42, 43, 44, 45, 46, 47, 48, 49, 94, 95, 96, 97, 98, 99, 100, 101, 102, 103, 104, 105, 106, 107, 108, 109, 110, 111] (by decide +kernel) (by decide +kernel)
set_option maxRecDepth 20000 in
theorem gX4_read_X1_push : GoodIn wsX4_read (wsV RX4 59 RX1 yX1_push wsX1_push) := goodIn_app (goodIn_of _ (by decide +kernel)) ggX4_read_X1_push
set_option maxRecDepth 20000 in
theorem ggX4_read_X2_takeReading : GoodIn wsX4_read wsX2_takeReading := goodIn_r _ [53, 25, 30, 36, 54, 55, 56, 23, 57, 58, 59, 60, 61, 32, 62, 7, 63, 64, 65, 66, 67, 68, 69, 70, 71, 31, 72, 73, 74, 75, 34, 76, 77, 78, 79, 80, 81, 82, 83, 84, 85, 86, 97, 98, 99, 100, 101, 102, 103, 104] (by decide +kernel) (by decide +kernel)
set_option maxRecDepth 20000 in
theorem gX4_read_X2_takeReading : GoodIn wsX4_read (wsV RX4 107 RX2 yX2_takeReading wsX2_takeReading) := goodIn_app (goodIn_of _ (by decide +kernel)) ggX4_read_X2_takeReading
theorem dX4_read_0 : decode cX4_read 0 = .ok (.iload_n 1, 1) := by decide +kernel
theorem dX4_read_1 : decode cX4_read 1 = .ok (.invokestatic 45, 3) := by decide +kernel
theorem dX4_read_4 : decode cX4_read 4 = .ok (.ifCond .ne 13, 3) := by decide +kernel
theorem dX4_read_7 : decode cX4_read 7 = .ok (.new 52, 3) := by decide +kernel
theorem dX4_read_10 : decode cX4_read 10 = .ok (.dup, 1) := by decide +kernel
theorem dX4_read_11 : decode cX4_read 11 = .ok (.ldc 73, 2) := by decide +kernel
theorem dX4_read_13 : decode cX4_read 13 = .ok (.invokespecial 56, 3) := by decide +kernel
theorem dX4_read_16 : decode cX4_read 16 = .ok (.athrow, 1) := by decide +kernel
theorem dX4_read_17 : decode cX4_read 17 = .ok (.aload_n 0, 1) := by decide +kernel
theorem dX4_read_18 : decode cX4_read 18 = .ok (.getfield 22, 3) := by decide +kernel
theorem dX4_read_21 : decode cX4_read 21 = .ok (.aload_n 0, 1) := by decide +kernel
theorem dX4_read_22 : decode cX4_read 22 = .ok (.getfield 10, 3) := by decide +kernel
theorem dX4_read_25 : decode cX4_read 25 = .ok (.invokevirtual 59, 3) := by decide +kernel
theorem dX4_read_28 : decode cX4_read 28 = .ok (.aload_n 0, 1) := by decide +kernel
theorem dX4_read_29 : decode cX4_read 29 = .ok (.getfield 10, 3) := by decide +kernel
theorem dX4_read_32 : decode cX4_read 32 = .ok (.iload_n 1, 1) := by decide +kernel
theorem dX4_read_33 : decode cX4_read 33 = .ok (.invokevirtual 107, 3) := by decide +kernel
theorem dX4_read_36 : decode cX4_read 36 = .ok (.ireturn, 1) := by decide +kernel
set_option maxRecDepth 20000 in
theorem ggX4_start_X1_push : GoodIn wsX4_start wsX1_push := goodIn_r _ [9, 10, 11, 12, 13, 14, 15, 16, 17, 18, 19, 20, 21, 22, 23, 24, 25, 26, 27, 28, 29, 30, 31, 32, 33, 34, 35, 36, 37, 38, 39, 40, 41, 42, 69, 70, 71, 54, 55, 56, 57, 58, 59, 60, 61, 62, 63, 64, 65, 66, 67, 68] (by decide +kernel) (by decide +kernel)
set_option maxRecDepth 20000 in
theorem gX4_start_X1_push : GoodIn wsX4_start (wsV RX4 59 RX1 yX1_push wsX1_push) := goodIn_app (goodIn_of _ (by decide +kernel)) ggX4_start_X1_push
set_option maxRecDepth 20000 in
theorem ggX4_start_X0_begin : GoodIn wsX4_start wsX0_begin := goodIn_r _ [46, 35, 37, 38, 39, 40, 41, 42, 62, 63, 64, 65, 66, 67, 68] (by decide +kernel) (by decide +kernel)
set_option maxRecDepth 20000 in
theorem gX4_start_X0_begin : GoodIn wsX4_start (wsV RX4 119 RX0 yX0_begin wsX0_begin) := goodIn_app (goodIn_of _ (by decide +kernel)) ggX4_start_X0_begin
theorem dX4_start_0 : decode cX4_start 0 = .ok (.aload_n 0, 1) := by decide +kernel
theorem dX4_start_1 : decode cX4_start 1 = .ok (.getfield 22, 3) := by decide +kernel
theorem dX4_start_4 : decode cX4_start 4 = .ok (.aload_n 0, 1) := by decide +kernel
theorem dX4_start_5 : decode cX4_start 5 = .ok (.getfield 10, 3) := by decide +kernel
theorem dX4_start_8 : decode cX4_start 8 = .ok (.invokevirtual 59, 3) := by decide +kernel
theorem dX4_start_11 : decode cX4_start 11 = .ok (.aload_n 0, 1) := by decide +kernel
theorem dX4_start_12 : decode cX4_start 12 = .ok (.getfield 10, 3) := by decide +kernel
theorem dX4_start_15 : decode cX4_start 15 = .ok (.getfield 110, 3) := by decide +kernel
theorem dX4_start_18 : decode cX4_start 18 = .ok (.getfield 114, 3) := by decide +kernel
theorem dX4_start_21 : decode cX4_start 21 = .ok (.istore_n 1, 1) := by decide +kernel
theorem dX4_start_22 : decode cX4_start 22 = .ok (.aload_n 0, 1) := by decide +kernel
theorem dX4_start_23 : decode cX4_start 23 = .ok (.getfield 10, 3) := by decide +kernel
theorem dX4_start_26 : decode cX4_start 26 = .ok (.getfield 110, 3) := by decide +kernel
theorem dX4_start_29 : decode cX4_start 29 = .ok (.invokevirtual 119, 3) := by decide +kernel
theorem dX4_start_32 : decode cX4_start 32 = .ok (.iload_n 1, 1) := by decide +kernel
theorem dX4_start_33 : decode cX4_start 33 = .ok (.ireturn, 1) := by decide +kernel
set_option maxRecDepth 20000 in
theorem ggX4_go_X4_isWithin : GoodIn wsX4_go wsX4_isWithin := goodIn_r _ [8] (by decide +kernel) (by decide +kernel)
set_option maxRecDepth 20000 in
theorem gX4_go_X4_isWithin : GoodIn wsX4_go (va_wsS RX4 75 yX4_isWithin wsX4_isWithin) := goodIn_app (goodIn_of _ (by decide +kernel)) ggX4_go_X4_isWithin
set_option maxRecDepth 20000 in
theorem ggX4_go_X1_push : GoodIn wsX4_go wsX1_push := goodIn_r _ [13, 14, 15, 16, 17, 18, 19, 20, 21, 22, 23, 24, 25, 26, 27, 28, 29, 30, 31, 32, 33, 34, 35, 36, 37, 38, 39, 40, 41, 42, 43, 44, 45, 46, 105, 106, 107, 108, 109, 110, 111, 112, 113, 114, 115, 116, 117, 118, 119, 120, 121, 122] (by decide +kernel) (by decide +kernel)
set_option maxRecDepth 20000 in
theorem gX4_go_X1_push : GoodIn wsX4_go (wsV RX4 59 RX1 yX1_push wsX1_push) := goodIn_app (goodIn_of _ (by decide +kernel)) ggX4_go_X1_push
set_option maxRecDepth 20000 in
theorem ggX4_go_X2_run : GoodIn wsX4_go wsX2_run := goodIn_r _ [50, 30, 51, 52, 53, 54, 55, 20, 56, 22, 27, 33, 57, 58, 59, 60, 61, 62, 63, 64, 29, 65, 7, 66, 67, 68, 69, 70, 71, 72, 73, 74, 28, 75, 76, 77, 78, 31, 79, 80, 81, 82, 83, 84, 85, 86, 87, 88, 89, 90, 91, 92, 37, 93, 45, 42, 44, 43, 39, 94, 95, 96, 97, 41, 46, 108, 109, 110, 111, 112, 113, 114, 115, 116, 117, 118, 119, 120, 121, 122] (by decide +kernel) (by decide +kernel)
set_option maxRecDepth 20000 in
theorem gX4_go_X2_run : GoodIn wsX4_go (wsV RX4 124 RX2 yX2_run wsX2_run) := goodIn_app (goodIn_of _ (by decide +kernel)) ggX4_go_X2_run
theorem dX4_go_0 : decode cX4_go 0 = .ok (.iload_n 1, 1) := by decide +kernel
theorem dX4_go_1 : decode cX4_go 1 = .ok (.iconst 1, 1) := by decide +kernel
theorem dX4_go_2 : decode cX4_go 2 = .ok (.bipush 99, 2) := by decide +kernel
theorem dX4_go_4 : decode cX4_go 4 = .ok (.invokestatic 75, 3) := by decide +kernel
theorem dX4_go_7 : decode cX4_go 7 = .ok (.ifCond .ne 13, 3) := by decide +kernel
theorem dX4_go_10 : decode cX4_go 10 = .ok (.new 79, 3) := by decide +kernel
theorem dX4_go_13 : decode cX4_go 13 = .ok (.dup, 1) := by decide +kernel
theorem dX4_go_14 : decode cX4_go 14 = .ok (.ldc 122, 2) := by decide +kernel
theorem dX4_go_16 : decode cX4_go 16 = .ok (.invokespecial 83, 3) := by decide +kernel
theorem dX4_go_19 : decode cX4_go 19 = .ok (.athrow, 1) := by decide +kernel
theorem dX4_go_20 : decode cX4_go 20 = .ok (.aload_n 0, 1) := by decide +kernel
theorem dX4_go_21 : decode cX4_go 21 = .ok (.getfield 22, 3) := by decide +kernel
theorem dX4_go_24 : decode cX4_go 24 = .ok (.aload_n 0, 1) := by decide +kernel
theorem dX4_go_25 : decode cX4_go 25 = .ok (.getfield 10, 3) := by decide +kernel
theorem dX4_go_28 : decode cX4_go 28 = .ok (.invokevirtual 59, 3) := by decide +kernel
theorem dX4_go_31 : decode cX4_go 31 = .ok (.aload_n 0, 1) := by decide +kernel
theorem dX4_go_32 : decode cX4_go 32 = .ok (.getfield 10, 3) := by decide +kernel
theorem dX4_go_35 : decode cX4_go 35 = .ok (.iload_n 1, 1) := by decide +kernel
theorem dX4_go_36 : decode cX4_go 36 = .ok (.invokevirtual 124, 3) := by decide +kernel
theorem dX4_go_39 : decode cX4_go 39 = .ok (.ireturn, 1) := by decide +kernel
set_option maxRecDepth 20000 in
theorem ggX4_append_X4_isWithin : GoodIn wsX4_append wsX4_isWithin := goodIn_r _ [10] (by decide +kernel) (by decide +kernel)
set_option maxRecDepth 20000 in
theorem gX4_append_X4_isWithin : GoodIn wsX4_append (va_wsS RX4 75 yX4_isWithin wsX4_isWithin) := goodIn_app (goodIn_of _ (by decide +kernel)) ggX4_append_X4_isWithin
set_option maxRecDepth 20000 in
theorem ggX4_append_X3_put : GoodIn wsX4_append wsX3_put := goodIn_r _ [15, 16, 17, 25, 26, 27, 28, 29] (by decide +kernel) (by decide +kernel)
set_option maxRecDepth 20000 in
theorem gX4_append_X3_put : GoodIn wsX4_append (wsV RX4 137 RX3 yX3_put wsX3_put) := goodIn_app (goodIn_of _ (by decide +kernel)) ggX4_append_X3_put
theorem dX4_append_0 : decode cX4_append 0 = .ok (.iload_n 1, 1) := by decide +kernel
theorem dX4_append_1 : decode cX4_append 1 = .ok (.bipush 33, 2) := by decide +kernel
theorem dX4_append_3 : decode cX4_append 3 = .ok (.bipush 126, 2) := by decide +kernel
theorem dX4_append_5 : decode cX4_append 5 = .ok (.invokestatic 75, 3) := by decide +kernel
theorem dX4_append_8 : decode cX4_append 8 = .ok (.ifCond .ne 13, 3) := by decide +kernel
theorem dX4_append_11 : decode cX4_append 11 = .ok (.new 79, 3) := by decide +kernel
theorem dX4_append_14 : decode cX4_append 14 = .ok (.dup, 1) := by decide +kernel
theorem dX4_append_15 : decode cX4_append 15 = .ok (.ldc 127, 2) := by decide +kernel
theorem dX4_append_17 : decode cX4_append 17 = .ok (.invokespecial 83, 3) := by decide +kernel
theorem dX4_append_20 : decode cX4_append 20 = .ok (.athrow, 1) := by decide +kernel
theorem dX4_append_21 : decode cX4_append 21 = .ok (.aload_n 0, 1) := by decide +kernel
theorem dX4_append_22 : decode cX4_append 22 = .ok (.getfield 37, 3) := by decide +kernel
theorem dX4_append_25 : decode cX4_append 25 = .ok (.getfield 129, 3) := by decide +kernel
theorem dX4_append_28 : decode cX4_append 28 = .ok (.bipush 60, 2) := by decide +kernel
theorem dX4_append_30 : decode cX4_append 30 = .ok (.if_icmp .lt 13, 3) := by decide +kernel
theorem dX4_append_33 : decode cX4_append 33 = .ok (.new 132, 3) := by decide +kernel
theorem dX4_append_36 : decode cX4_append 36 = .ok (.dup, 1) := by decide +kernel
theorem dX4_append_37 : decode cX4_append 37 = .ok (.ldc 134, 2) := by decide +kernel
theorem dX4_append_39 : decode cX4_append 39 = .ok (.invokespecial 136, 3) := by decide +kernel
theorem dX4_append_42 : decode cX4_append 42 = .ok (.athrow, 1) := by decide +kernel
theorem dX4_append_43 : decode cX4_append 43 = .ok (.aload_n 0, 1) := by decide +kernel
theorem dX4_append_44 : decode cX4_append 44 = .ok (.getfield 37, 3) := by decide +kernel
theorem dX4_append_47 : decode cX4_append 47 = .ok (.iload_n 1, 1) := by decide +kernel
theorem dX4_append_48 : decode cX4_append 48 = .ok (.invokevirtual 137, 3) := by decide +kernel
theorem dX4_append_51 : decode cX4_append 51 = .ok (.aload_n 0, 1) := by decide +kernel
theorem dX4_append_52 : decode cX4_append 52 = .ok (.getfield 37, 3) := by decide +kernel
theorem dX4_append_55 : decode cX4_append 55 = .ok (.getfield 129, 3) := by decide +kernel
theorem dX4_append_58 : decode cX4_append 58 = .ok (.ireturn, 1) := by decide +kernel
theorem dX4_clearBuffer_0 : decode cX4_clearBuffer 0 = .ok (.aload_n 0, 1) := by decide +kernel
theorem dX4_clearBuffer_1 : decode cX4_clearBuffer 1 = .ok (.getfield 37, 3) := by decide +kernel
theorem dX4_clearBuffer_4 : decode cX4_clearBuffer 4 = .ok (.getfield 129, 3) := by decide +kernel
theorem dX4_clearBuffer_7 : decode cX4_clearBuffer 7 = .ok (.istore_n 1, 1) := by decide +kernel
theorem dX4_clearBuffer_8 : decode cX4_clearBuffer 8 = .ok (.aload_n 0, 1) := by decide +kernel
theorem dX4_clearBuffer_9 : decode cX4_clearBuffer 9 = .ok (.getfield 37, 3) := by decide +kernel
theorem dX4_clearBuffer_12 : decode cX4_clearBuffer 12 = .ok (.iconst 0, 1) := by decide +kernel
theorem dX4_clearBuffer_13 : decode cX4_clearBuffer 13 = .ok (.putfield 129, 3) := by decide +kernel
theorem dX4_clearBuffer_16 : decode cX4_clearBuffer 16 = .ok (.iload_n 1, 1) := by decide +kernel
theorem dX4_clearBuffer_17 : decode cX4_clearBuffer 17 = .ok (.ireturn, 1) := by decide +kernel
set_option maxRecDepth 20000 in
theorem ggX4_firstError_X3_parse : GoodIn wsX4_firstError wsX3_parse := goodIn_r _ [6, 7, 8, 9, 10, 11, 12, 13, 5, 14, 15, 16, 17, 18, 26, 27, 28, 29, 30] (by decide +kernel) (by decide +kernel)
set_option maxRecDepth 20000 in
theorem gX4_firstError_X3_parse : GoodIn wsX4_firstError (wsV RX4 141 RX3 yX3_parse wsX3_parse) := goodIn_app (goodIn_of _ (by decide +kernel)) ggX4_firstError_X3_parse
theorem dX4_firstError_0 : decode cX4_firstError 0 = .ok (.aload_n 0, 1) := by decide +kernel
theorem dX4_firstError_1 : decode cX4_firstError 1 = .ok (.getfield 37, 3) := by decide +kernel
theorem dX4_firstError_4 : decode cX4_firstError 4 = .ok (.invokevirtual 141, 3) := by decide +kernel
theorem dX4_firstError_7 : decode cX4_firstError 7 = .ok (.ireturn, 1) := by decide +kernel
set_option maxRecDepth 20000 in
theorem ggX4_load_X4_isThread : GoodIn wsX4_load wsX4_isThread := goodIn_r _ [14, 15, 16, 13, 17] (by decide +kernel) (by decide +kernel)
set_option maxRecDepth 20000 in
theorem gX4_load_X4_isThread : GoodIn wsX4_load (va_wsS RX4 45 yX4_isThread wsX4_isThread) := goodIn_app (goodIn_of _ (by decide +kernel)) ggX4_load_X4_isThread
set_option maxRecDepth 20000 in
theorem ggX4_load_X3_tellsProgram : GoodIn wsX4_load wsX3_tellsProgram := goodIn_r _ [22, 23, 24, 25, 26, 27, 21, 28, 29, 30, 31, 32, 33, 34, 35, 36, 37, 38, 109, 110, 111, 112, 113] (by decide +kernel) (by decide +kernel)
set_option maxRecDepth 20000 in
theorem gX4_load_X3_tellsProgram : GoodIn wsX4_load (wsV RX4 145 RX3 yX3_tellsProgram wsX3_tellsProgram) := goodIn_app (goodIn_of _ (by decide +kernel)) ggX4_load_X3_tellsProgram
set_option maxRecDepth 20000 in
theorem ggX4_load_X1_push : GoodIn wsX4_load wsX1_push := goodIn_r _ [43, 44, 45, 46, 47, 48, 49, 50, 51, 52, 53, 54, 55, 56, 57, 58, 59, 60, 61, 62, 63, 64, 65, 66, 67, 68, 69, 70, 71, 72, 73, 74, 75, 76, 114, 115, 116, 117, 118, 119, 120, 121, 122, 123, 124, 125, 126, 127, 128, 129, 130, 131] (by decide +kernel) (by decide +kernel)
set_option maxRecDepth 20000 in
theorem gX4_load_X1_push : GoodIn wsX4_load (wsV RX4 59 RX1 yX1_push wsX1_push) := goodIn_app (goodIn_of _ (by decide +kernel)) ggX4_load_X1_push
set_option maxRecDepth 20000 in
theorem ggX4_load_X2_asWord : GoodIn wsX4_load wsX2_asWord := goodIn_r _ [80, 59, 117, 118, 119, 120, 121, 122, 123, 124] (by decide +kernel) (by decide +kernel)
set_option maxRecDepth 20000 in
theorem gX4_load_X2_asWord : GoodIn wsX4_load (wsV RX4 84 RX2 yX2_asWord wsX2_asWord) := goodIn_app (goodIn_of _ (by decide +kernel)) ggX4_load_X2_asWord
set_option maxRecDepth 20000 in
theorem ggX4_load_X2_layThrough : GoodIn wsX4_load wsX2_layThrough := goodIn_r _ [84, 52, 62, 85, 86, 87, 50, 88, 58, 89, 90, 91, 92, 93, 13, 94, 95, 96, 97, 98, 99, 100, 101, 117, 118, 119, 120, 121, 122, 123, 124] (by decide +kernel) (by decide +kernel)
set_option maxRecDepth 20000 in
theorem gX4_load_X2_layThrough : GoodIn wsX4_load (wsV RX4 66 RX2 yX2_layThrough wsX2_layThrough) := goodIn_app (goodIn_of _ (by decide +kernel)) ggX4_load_X2_layThrough
theorem dX4_load_0 : decode cX4_load 0 = .ok (.iload_n 1, 1) := by decide +kernel
theorem dX4_load_1 : decode cX4_load 1 = .ok (.invokestatic 45, 3) := by decide +kernel
theorem dX4_load_4 : decode cX4_load 4 = .ok (.ifCond .ne 13, 3) := by decide +kernel
theorem dX4_load_7 : decode cX4_load 7 = .ok (.new 52, 3) := by decide +kernel
theorem dX4_load_10 : decode cX4_load 10 = .ok (.dup, 1) := by decide +kernel
theorem dX4_load_11 : decode cX4_load 11 = .ok (.ldc 73, 2) := by decide +kernel
theorem dX4_load_13 : decode cX4_load 13 = .ok (.invokespecial 56, 3) := by decide +kernel
theorem dX4_load_16 : decode cX4_load 16 = .ok (.athrow, 1) := by decide +kernel
theorem dX4_load_17 : decode cX4_load 17 = .ok (.aload_n 0, 1) := by decide +kernel
theorem dX4_load_18 : decode cX4_load 18 = .ok (.getfield 37, 3) := by decide +kernel
theorem dX4_load_21 : decode cX4_load 21 = .ok (.invokevirtual 145, 3) := by decide +kernel
theorem dX4_load_24 : decode cX4_load 24 = .ok (.ifCond .ne 13, 3) := by decide +kernel
theorem dX4_load_27 : decode cX4_load 27 = .ok (.new 79, 3) := by decide +kernel
theorem dX4_load_30 : decode cX4_load 30 = .ok (.dup, 1) := by decide +kernel
theorem dX4_load_31 : decode cX4_load 31 = .ok (.ldc 149, 2) := by decide +kernel
theorem dX4_load_33 : decode cX4_load 33 = .ok (.invokespecial 83, 3) := by decide +kernel
theorem dX4_load_36 : decode cX4_load 36 = .ok (.athrow, 1) := by decide +kernel
theorem dX4_load_37 : decode cX4_load 37 = .ok (.aload_n 0, 1) := by decide +kernel
theorem dX4_load_38 : decode cX4_load 38 = .ok (.getfield 22, 3) := by decide +kernel
theorem dX4_load_41 : decode cX4_load 41 = .ok (.aload_n 0, 1) := by decide +kernel
theorem dX4_load_42 : decode cX4_load 42 = .ok (.getfield 10, 3) := by decide +kernel
theorem dX4_load_45 : decode cX4_load 45 = .ok (.invokevirtual 59, 3) := by decide +kernel
theorem dX4_load_48 : decode cX4_load 48 = .ok (.iconst 0, 1) := by decide +kernel
theorem dX4_load_49 : decode cX4_load 49 = .ok (.istore_n 2, 1) := by decide +kernel
theorem dX4_load_50 : decode cX4_load 50 = .ok (.iconst 0, 1) := by decide +kernel
theorem dX4_load_51 : decode cX4_load 51 = .ok (.istore_n 3, 1) := by decide +kernel
theorem dX4_load_52 : decode cX4_load 52 = .ok (.iload_n 3, 1) := by decide +kernel
theorem dX4_load_53 : decode cX4_load 53 = .ok (.aload_n 0, 1) := by decide +kernel
theorem dX4_load_54 : decode cX4_load 54 = .ok (.getfield 37, 3) := by decide +kernel
theorem dX4_load_57 : decode cX4_load 57 = .ok (.getfield 151, 3) := by decide +kernel
theorem dX4_load_60 : decode cX4_load 60 = .ok (.if_icmp .ge 41, 3) := by decide +kernel
theorem dX4_load_63 : decode cX4_load 63 = .ok (.iload_n 2, 1) := by decide +kernel
theorem dX4_load_64 : decode cX4_load 64 = .ok (.aload_n 0, 1) := by decide +kernel
theorem dX4_load_65 : decode cX4_load 65 = .ok (.getfield 10, 3) := by decide +kernel
theorem dX4_load_68 : decode cX4_load 68 = .ok (.iload_n 1, 1) := by decide +kernel
theorem dX4_load_69 : decode cX4_load 69 = .ok (.iload_n 3, 1) := by decide +kernel
theorem dX4_load_70 : decode cX4_load 70 = .ok (.iadd, 1) := by decide +kernel
theorem dX4_load_71 : decode cX4_load 71 = .ok (.bipush 16, 2) := by decide +kernel
theorem dX4_load_73 : decode cX4_load 73 = .ok (.irem, 1) := by decide +kernel
theorem dX4_load_74 : decode cX4_load 74 = .ok (.aload_n 0, 1) := by decide +kernel
theorem dX4_load_75 : decode cX4_load 75 = .ok (.getfield 10, 3) := by decide +kernel
theorem dX4_load_78 : decode cX4_load 78 = .ok (.aload_n 0, 1) := by decide +kernel
theorem dX4_load_79 : decode cX4_load 79 = .ok (.getfield 37, 3) := by decide +kernel
theorem dX4_load_82 : decode cX4_load 82 = .ok (.getfield 154, 3) := by decide +kernel
theorem dX4_load_85 : decode cX4_load 85 = .ok (.iload_n 3, 1) := by decide +kernel
theorem dX4_load_86 : decode cX4_load 86 = .ok (.iaload, 1) := by decide +kernel
theorem dX4_load_87 : decode cX4_load 87 = .ok (.invokevirtual 84, 3) := by decide +kernel
theorem dX4_load_90 : decode cX4_load 90 = .ok (.invokevirtual 66, 3) := by decide +kernel
theorem dX4_load_93 : decode cX4_load 93 = .ok (.iadd, 1) := by decide +kernel
theorem dX4_load_94 : decode cX4_load 94 = .ok (.istore_n 2, 1) := by decide +kernel
theorem dX4_load_95 : decode cX4_load 95 = .ok (.iinc 3 1, 3) := by decide +kernel
theorem dX4_load_98 : decode cX4_load 98 = .ok (.goto (-46), 3) := by decide +kernel
theorem dX4_load_101 : decode cX4_load 101 = .ok (.aload_n 0, 1) := by decide +kernel
theorem dX4_load_102 : decode cX4_load 102 = .ok (.getfield 37, 3) := by decide +kernel
theorem dX4_load_105 : decode cX4_load 105 = .ok (.iconst 0, 1) := by decide +kernel
theorem dX4_load_106 : decode cX4_load 106 = .ok (.putfield 129, 3) := by decide +kernel
theorem dX4_load_109 : decode cX4_load 109 = .ok (.iload_n 2, 1) := by decide +kernel
theorem dX4_load_110 : decode cX4_load 110 = .ok (.ireturn, 1) := by decide +kernel
set_option maxRecDepth 20000 in
theorem ggX4_write_X4_isThread : GoodIn wsX4_write wsX4_isThread := goodIn_r _ [9, 10, 11, 8, 12] (by decide +kernel) (by decide +kernel)
set_option maxRecDepth 20000 in
theorem gX4_write_X4_isThread : GoodIn wsX4_write (va_wsS RX4 45 yX4_isThread wsX4_isThread) := goodIn_app (goodIn_of _ (by decide +kernel)) ggX4_write_X4_isThread
set_option maxRecDepth 20000 in
theorem ggX4_write_X2_tells : GoodIn wsX4_write wsX2_tells := goodIn_r _ [17, 18, 19, 20, 16, 21, 22, 23, 24, 8, 25, 26, 27, 28, 29, 30, 31, 32, 33, 34, 35, 36, 37, 38, 39, 40, 41, 42, 43, 70, 71, 72, 73, 74, 75, 76, 77] (by decide +kernel) (by decide +kernel)
set_option maxRecDepth 20000 in
theorem gX4_write_X2_tells : GoodIn wsX4_write (wsV RX4 159 RX2 yX2_tells wsX2_tells) := goodIn_app (goodIn_of _ (by decide +kernel)) ggX4_write_X2_tells
set_option maxRecDepth 20000 in
theorem ggX4_write_X3_putWord : GoodIn wsX4_write wsX3_putWord := goodIn_r _ [48, 49, 50, 47, 51, 52, 53, 54, 55, 56, 57, 65, 66, 67, 68, 69] (by decide +kernel) (by decide +kernel)
set_option maxRecDepth 20000 in
theorem gX4_write_X3_putWord : GoodIn wsX4_write (wsV RX4 162 RX3 yX3_putWord wsX3_putWord) := goodIn_app (goodIn_of _ (by decide +kernel)) ggX4_write_X3_putWord
theorem dX4_write_0 : decode cX4_write 0 = .ok (.iload_n 1, 1) := by decide +kernel
theorem dX4_write_1 : decode cX4_write 1 = .ok (.invokestatic 45, 3) := by decide +kernel
theorem dX4_write_4 : decode cX4_write 4 = .ok (.ifCond .eq 15, 3) := by decide +kernel
theorem dX4_write_7 : decode cX4_write 7 = .ok (.iload_n 2, 1) := by decide +kernel
theorem dX4_write_8 : decode cX4_write 8 = .ok (.invokestatic 45, 3) := by decide +kernel
theorem dX4_write_11 : decode cX4_write 11 = .ok (.ifCond .eq 8, 3) := by decide +kernel
theorem dX4_write_14 : decode cX4_write 14 = .ok (.iload_n 2, 1) := by decide +kernel
theorem dX4_write_15 : decode cX4_write 15 = .ok (.iload_n 1, 1) := by decide +kernel
theorem dX4_write_16 : decode cX4_write 16 = .ok (.if_icmp .ge 13, 3) := by decide +kernel
theorem dX4_write_19 : decode cX4_write 19 = .ok (.new 52, 3) := by decide +kernel
theorem dX4_write_22 : decode cX4_write 22 = .ok (.dup, 1) := by decide +kernel
theorem dX4_write_23 : decode cX4_write 23 = .ok (.ldc 157, 2) := by decide +kernel
theorem dX4_write_25 : decode cX4_write 25 = .ok (.invokespecial 56, 3) := by decide +kernel
theorem dX4_write_28 : decode cX4_write 28 = .ok (.athrow, 1) := by decide +kernel
theorem dX4_write_29 : decode cX4_write 29 = .ok (.aload_n 0, 1) := by decide +kernel
theorem dX4_write_30 : decode cX4_write 30 = .ok (.getfield 37, 3) := by decide +kernel
theorem dX4_write_33 : decode cX4_write 33 = .ok (.iconst 0, 1) := by decide +kernel
theorem dX4_write_34 : decode cX4_write 34 = .ok (.putfield 129, 3) := by decide +kernel
theorem dX4_write_37 : decode cX4_write 37 = .ok (.iload_n 1, 1) := by decide +kernel
theorem dX4_write_38 : decode cX4_write 38 = .ok (.istore_n 3, 1) := by decide +kernel
theorem dX4_write_39 : decode cX4_write 39 = .ok (.iload_n 3, 1) := by decide +kernel
theorem dX4_write_40 : decode cX4_write 40 = .ok (.iload_n 2, 1) := by decide +kernel
theorem dX4_write_41 : decode cX4_write 41 = .ok (.if_icmp .gt 24, 3) := by decide +kernel
theorem dX4_write_44 : decode cX4_write 44 = .ok (.aload_n 0, 1) := by decide +kernel
theorem dX4_write_45 : decode cX4_write 45 = .ok (.getfield 37, 3) := by decide +kernel
theorem dX4_write_48 : decode cX4_write 48 = .ok (.aload_n 0, 1) := by decide +kernel
theorem dX4_write_49 : decode cX4_write 49 = .ok (.getfield 10, 3) := by decide +kernel
theorem dX4_write_52 : decode cX4_write 52 = .ok (.iload_n 3, 1) := by decide +kernel
theorem dX4_write_53 : decode cX4_write 53 = .ok (.invokevirtual 159, 3) := by decide +kernel
theorem dX4_write_56 : decode cX4_write 56 = .ok (.invokevirtual 162, 3) := by decide +kernel
theorem dX4_write_59 : decode cX4_write 59 = .ok (.iinc 3 1, 3) := by decide +kernel
theorem dX4_write_62 : decode cX4_write 62 = .ok (.goto (-23), 3) := by decide +kernel
theorem dX4_write_65 : decode cX4_write 65 = .ok (.aload_n 0, 1) := by decide +kernel
theorem dX4_write_66 : decode cX4_write 66 = .ok (.getfield 37, 3) := by decide +kernel
theorem dX4_write_69 : decode cX4_write 69 = .ok (.getfield 129, 3) := by decide +kernel
theorem dX4_write_72 : decode cX4_write 72 = .ok (.ireturn, 1) := by decide +kernel
set_option maxRecDepth 20000 in
theorem ggX4_keep_X4_isSlot : GoodIn wsX4_keep wsX4_isSlot := goodIn_r _ [9, 10, 11, 8, 12] (by decide +kernel) (by decide +kernel)
set_option maxRecDepth 20000 in
theorem gX4_keep_X4_isSlot : GoodIn wsX4_keep (va_wsS RX4 165 yX4_isSlot wsX4_isSlot) := goodIn_app (goodIn_of _ (by decide +kernel)) ggX4_keep_X4_isSlot
set_option maxRecDepth 20000 in
theorem ggX4_keep_X2_become : GoodIn wsX4_keep wsX2_become := goodIn_r _ [17, 18, 19, 20, 21, 22, 23, 24, 25, 26, 27, 28, 29, 30, 31, 32, 33, 34, 35, 36, 37, 38, 39, 40, 41, 42, 61, 62, 63, 64, 65, 66, 67, 68, 69, 70, 71, 72, 73, 74, 75] (by decide +kernel) (by decide +kernel)
set_option maxRecDepth 20000 in
theorem gX4_keep_X2_become : GoodIn wsX4_keep (wsV RX4 170 RX2 yX2_become wsX2_become) := goodIn_app (goodIn_of _ (by decide +kernel)) ggX4_keep_X2_become
set_option maxRecDepth 20000 in
theorem ggX4_keep_X2_crossingsByThreads : GoodIn wsX4_keep wsX2_crossingsByThreads := goodIn_r _ [46, 18, 47, 48, 49, 50, 51, 52, 53, 61, 62, 63, 64, 65, 66, 67, 68] (by decide +kernel) (by decide +kernel)
set_option maxRecDepth 20000 in
theorem gX4_keep_X2_crossingsByThreads : GoodIn wsX4_keep (wsV RX4 173 RX2 yX2_crossingsByThreads wsX2_crossingsByThreads) := goodIn_app (goodIn_of _ (by decide +kernel)) ggX4_keep_X2_crossingsByThreads
theorem dX4_keep_0 : decode cX4_keep 0 = .ok (.iload_n 1, 1) := by decide +kernel
theorem dX4_keep_1 : decode cX4_keep 1 = .ok (.invokestatic 165, 3) := by decide +kernel
theorem dX4_keep_4 : decode cX4_keep 4 = .ok (.ifCond .ne 13, 3) := by decide +kernel
theorem dX4_keep_7 : decode cX4_keep 7 = .ok (.new 79, 3) := by decide +kernel
theorem dX4_keep_10 : decode cX4_keep 10 = .ok (.dup, 1) := by decide +kernel
theorem dX4_keep_11 : decode cX4_keep 11 = .ok (.ldc 168, 2) := by decide +kernel
theorem dX4_keep_13 : decode cX4_keep 13 = .ok (.invokespecial 83, 3) := by decide +kernel
theorem dX4_keep_16 : decode cX4_keep 16 = .ok (.athrow, 1) := by decide +kernel
theorem dX4_keep_17 : decode cX4_keep 17 = .ok (.aload_n 0, 1) := by decide +kernel
theorem dX4_keep_18 : decode cX4_keep 18 = .ok (.getfield 26, 3) := by decide +kernel
theorem dX4_keep_21 : decode cX4_keep 21 = .ok (.iload_n 1, 1) := by decide +kernel
theorem dX4_keep_22 : decode cX4_keep 22 = .ok (.aaload, 1) := by decide +kernel
theorem dX4_keep_23 : decode cX4_keep 23 = .ok (.aload_n 0, 1) := by decide +kernel
theorem dX4_keep_24 : decode cX4_keep 24 = .ok (.getfield 10, 3) := by decide +kernel
theorem dX4_keep_27 : decode cX4_keep 27 = .ok (.invokevirtual 170, 3) := by decide +kernel
theorem dX4_keep_30 : decode cX4_keep 30 = .ok (.aload_n 0, 1) := by decide +kernel
theorem dX4_keep_31 : decode cX4_keep 31 = .ok (.getfield 30, 3) := by decide +kernel
theorem dX4_keep_34 : decode cX4_keep 34 = .ok (.iload_n 1, 1) := by decide +kernel
theorem dX4_keep_35 : decode cX4_keep 35 = .ok (.iconst 1, 1) := by decide +kernel
theorem dX4_keep_36 : decode cX4_keep 36 = .ok (.bastore, 1) := by decide +kernel
theorem dX4_keep_37 : decode cX4_keep 37 = .ok (.aload_n 0, 1) := by decide +kernel
theorem dX4_keep_38 : decode cX4_keep 38 = .ok (.getfield 10, 3) := by decide +kernel
theorem dX4_keep_41 : decode cX4_keep 41 = .ok (.invokevirtual 173, 3) := by decide +kernel
theorem dX4_keep_44 : decode cX4_keep 44 = .ok (.ireturn, 1) := by decide +kernel
set_option maxRecDepth 20000 in
theorem ggX4_goBack_X4_isSlot : GoodIn wsX4_goBack wsX4_isSlot := goodIn_r _ [12, 13, 14, 11, 15] (by decide +kernel) (by decide +kernel)
set_option maxRecDepth 20000 in
theorem gX4_goBack_X4_isSlot : GoodIn wsX4_goBack (va_wsS RX4 165 yX4_isSlot wsX4_isSlot) := goodIn_app (goodIn_of _ (by decide +kernel)) ggX4_goBack_X4_isSlot
set_option maxRecDepth 20000 in
theorem ggX4_goBack_X1_push : GoodIn wsX4_goBack wsX1_push := goodIn_r _ [20, 21, 22, 23, 24, 25, 26, 27, 28, 29, 30, 31, 32, 33, 34, 35, 36, 37, 38, 39, 40, 41, 42, 43, 44, 45, 46, 47, 48, 49, 50, 51, 52, 53, 73, 74, 75, 76, 77, 78, 79, 80, 81, 82, 83, 84, 85, 86, 87, 88, 89, 90] (by decide +kernel) (by decide +kernel)
set_option maxRecDepth 20000 in
theorem gX4_goBack_X1_push : GoodIn wsX4_goBack (wsV RX4 59 RX1 yX1_push wsX1_push) := goodIn_app (goodIn_of _ (by decide +kernel)) ggX4_goBack_X1_push
set_option maxRecDepth 20000 in
theorem ggX4_goBack_X2_become : GoodIn wsX4_goBack wsX2_become := goodIn_r _ [28, 29, 30, 31, 32, 33, 34, 35, 36, 37, 38, 39, 40, 41, 42, 43, 44, 45, 46, 47, 48, 49, 50, 51, 52, 53, 76, 77, 78, 79, 80, 81, 82, 83, 84, 85, 86, 87, 88, 89, 90] (by decide +kernel) (by decide +kernel)
set_option maxRecDepth 20000 in
theorem gX4_goBack_X2_become : GoodIn wsX4_goBack (wsV RX4 170 RX2 yX2_become wsX2_become) := goodIn_app (goodIn_of _ (by decide +kernel)) ggX4_goBack_X2_become
set_option maxRecDepth 20000 in
theorem ggX4_goBack_X2_crossingsByThreads : GoodIn wsX4_goBack wsX2_crossingsByThreads := goodIn_r _ [58, 29, 59, 60, 61, 62, 63, 64, 65, 76, 77, 78, 79, 80, 81, 82, 83] (by decide +kernel) (by decide +kernel)
set_option maxRecDepth 20000 in
theorem gX4_goBack_X2_crossingsByThreads : GoodIn wsX4_goBack (wsV RX4 173 RX2 yX2_crossingsByThreads wsX2_crossingsByThreads) := goodIn_app (goodIn_of _ (by decide +kernel)) ggX4_goBack_X2_crossingsByThreads
theorem dX4_goBack_0 : decode cX4_goBack 0 = .ok (.iload_n 1, 1) := by decide +kernel
theorem dX4_goBack_1 : decode cX4_goBack 1 = .ok (.invokestatic 165, 3) := by decide +kernel
theorem dX4_goBack_4 : decode cX4_goBack 4 = .ok (.ifCond .ne 13, 3) := by decide +kernel
theorem dX4_goBack_7 : decode cX4_goBack 7 = .ok (.new 79, 3) := by decide +kernel
theorem dX4_goBack_10 : decode cX4_goBack 10 = .ok (.dup, 1) := by decide +kernel
theorem dX4_goBack_11 : decode cX4_goBack 11 = .ok (.ldc 168, 2) := by decide +kernel
theorem dX4_goBack_13 : decode cX4_goBack 13 = .ok (.invokespecial 83, 3) := by decide +kernel
theorem dX4_goBack_16 : decode cX4_goBack 16 = .ok (.athrow, 1) := by decide +kernel
theorem dX4_goBack_17 : decode cX4_goBack 17 = .ok (.aload_n 0, 1) := by decide +kernel
theorem dX4_goBack_18 : decode cX4_goBack 18 = .ok (.getfield 30, 3) := by decide +kernel
theorem dX4_goBack_21 : decode cX4_goBack 21 = .ok (.iload_n 1, 1) := by decide +kernel
theorem dX4_goBack_22 : decode cX4_goBack 22 = .ok (.baload, 1) := by decide +kernel
theorem dX4_goBack_23 : decode cX4_goBack 23 = .ok (.ifCond .ne 13, 3) := by decide +kernel
theorem dX4_goBack_26 : decode cX4_goBack 26 = .ok (.new 132, 3) := by decide +kernel
theorem dX4_goBack_29 : decode cX4_goBack 29 = .ok (.dup, 1) := by decide +kernel
theorem dX4_goBack_30 : decode cX4_goBack 30 = .ok (.ldc 176, 2) := by decide +kernel
theorem dX4_goBack_32 : decode cX4_goBack 32 = .ok (.invokespecial 136, 3) := by decide +kernel
theorem dX4_goBack_35 : decode cX4_goBack 35 = .ok (.athrow, 1) := by decide +kernel
theorem dX4_goBack_36 : decode cX4_goBack 36 = .ok (.aload_n 0, 1) := by decide +kernel
theorem dX4_goBack_37 : decode cX4_goBack 37 = .ok (.getfield 22, 3) := by decide +kernel
theorem dX4_goBack_40 : decode cX4_goBack 40 = .ok (.aload_n 0, 1) := by decide +kernel
theorem dX4_goBack_41 : decode cX4_goBack 41 = .ok (.getfield 10, 3) := by decide +kernel
theorem dX4_goBack_44 : decode cX4_goBack 44 = .ok (.invokevirtual 59, 3) := by decide +kernel
theorem dX4_goBack_47 : decode cX4_goBack 47 = .ok (.aload_n 0, 1) := by decide +kernel
theorem dX4_goBack_48 : decode cX4_goBack 48 = .ok (.getfield 10, 3) := by decide +kernel
theorem dX4_goBack_51 : decode cX4_goBack 51 = .ok (.aload_n 0, 1) := by decide +kernel
theorem dX4_goBack_52 : decode cX4_goBack 52 = .ok (.getfield 26, 3) := by decide +kernel
theorem dX4_goBack_55 : decode cX4_goBack 55 = .ok (.iload_n 1, 1) := by decide +kernel
theorem dX4_goBack_56 : decode cX4_goBack 56 = .ok (.aaload, 1) := by decide +kernel
theorem dX4_goBack_57 : decode cX4_goBack 57 = .ok (.invokevirtual 170, 3) := by decide +kernel
theorem dX4_goBack_60 : decode cX4_goBack 60 = .ok (.aload_n 0, 1) := by decide +kernel
theorem dX4_goBack_61 : decode cX4_goBack 61 = .ok (.getfield 10, 3) := by decide +kernel
theorem dX4_goBack_64 : decode cX4_goBack 64 = .ok (.invokevirtual 173, 3) := by decide +kernel
theorem dX4_goBack_67 : decode cX4_goBack 67 = .ok (.ireturn, 1) := by decide +kernel
set_option maxRecDepth 20000 in
theorem ggX4_undo_X1_popInto : GoodIn wsX4_undo wsX1_popInto := goodIn_r _ [10, 11, 12, 13, 14, 15, 16, 17, 18, 19, 20, 21, 22, 23, 24, 25, 26, 27, 28, 29, 30, 31, 32, 33, 34, 35, 36, 37, 38, 39, 40, 41, 42, 43, 51, 52, 53, 54, 55, 56, 57, 58, 59, 60, 61, 62, 63, 64, 65, 66, 67, 68] (by decide +kernel) (by decide +kernel)
set_option maxRecDepth 20000 in
theorem gX4_undo_X1_popInto : GoodIn wsX4_undo (wsV RX4 183 RX1 yX1_popInto wsX1_popInto) := goodIn_app (goodIn_of _ (by decide +kernel)) ggX4_undo_X1_popInto
theorem dX4_undo_0 : decode cX4_undo 0 = .ok (.aload_n 0, 1) := by decide +kernel
theorem dX4_undo_1 : decode cX4_undo 1 = .ok (.getfield 22, 3) := by decide +kernel
theorem dX4_undo_4 : decode cX4_undo 4 = .ok (.getfield 178, 3) := by decide +kernel
theorem dX4_undo_7 : decode cX4_undo 7 = .ok (.ifCond .ne 13, 3) := by decide +kernel
theorem dX4_undo_10 : decode cX4_undo 10 = .ok (.new 132, 3) := by decide +kernel
theorem dX4_undo_13 : decode cX4_undo 13 = .ok (.dup, 1) := by decide +kernel
theorem dX4_undo_14 : decode cX4_undo 14 = .ok (.ldc 181, 2) := by decide +kernel
theorem dX4_undo_16 : decode cX4_undo 16 = .ok (.invokespecial 136, 3) := by decide +kernel
theorem dX4_undo_19 : decode cX4_undo 19 = .ok (.athrow, 1) := by decide +kernel
theorem dX4_undo_20 : decode cX4_undo 20 = .ok (.aload_n 0, 1) := by decide +kernel
theorem dX4_undo_21 : decode cX4_undo 21 = .ok (.getfield 22, 3) := by decide +kernel
theorem dX4_undo_24 : decode cX4_undo 24 = .ok (.aload_n 0, 1) := by decide +kernel
theorem dX4_undo_25 : decode cX4_undo 25 = .ok (.getfield 10, 3) := by decide +kernel
theorem dX4_undo_28 : decode cX4_undo 28 = .ok (.invokevirtual 183, 3) := by decide +kernel
theorem dX4_undo_31 : decode cX4_undo 31 = .ok (.aload_n 0, 1) := by decide +kernel
theorem dX4_undo_32 : decode cX4_undo 32 = .ok (.getfield 22, 3) := by decide +kernel
theorem dX4_undo_35 : decode cX4_undo 35 = .ok (.getfield 178, 3) := by decide +kernel
theorem dX4_undo_38 : decode cX4_undo 38 = .ok (.ireturn, 1) := by decide +kernel
set_option maxRecDepth 20000 in
theorem ggX4_threadOf_X4_isThread : GoodIn wsX4_threadOf wsX4_isThread := goodIn_r _ [12, 13, 14, 11, 15] (by decide +kernel) (by decide +kernel)
set_option maxRecDepth 20000 in
theorem gX4_threadOf_X4_isThread : GoodIn wsX4_threadOf (va_wsS RX4 45 yX4_isThread wsX4_isThread) := goodIn_app (goodIn_of _ (by decide +kernel)) ggX4_threadOf_X4_isThread
set_option maxRecDepth 20000 in
theorem ggX4_threadOf_X4_bit : GoodIn wsX4_threadOf wsX4_bit := goodIn_r _ [18] (by decide +kernel) (by decide +kernel)
set_option maxRecDepth 20000 in
theorem gX4_threadOf_X4_bit : GoodIn wsX4_threadOf (va_wsS RX4 70 yX4_bit wsX4_bit) := goodIn_app (goodIn_of _ (by decide +kernel)) ggX4_threadOf_X4_bit
set_option maxRecDepth 20000 in
theorem ggX4_threadOf_X2_means : GoodIn wsX4_threadOf wsX2_means := goodIn_r _ [23, 24, 25, 26, 27, 22, 28, 29, 67, 68, 69, 70, 71, 72, 73, 74] (by decide +kernel) (by decide +kernel)
set_option maxRecDepth 20000 in
theorem gX4_threadOf_X2_means : GoodIn wsX4_threadOf (wsV RX4 186 RX2 yX2_means wsX2_means) := goodIn_app (goodIn_of _ (by decide +kernel)) ggX4_threadOf_X2_means
set_option maxRecDepth 20000 in
theorem ggX4_threadOf_X2_tells : GoodIn wsX4_threadOf wsX2_tells := goodIn_r _ [33, 34, 35, 36, 22, 37, 24, 29, 17, 11, 18, 38, 39, 40, 41, 42, 43, 44, 45, 46, 47, 48, 49, 50, 51, 25, 26, 27, 28, 67, 68, 69, 70, 71, 72, 73, 74] (by decide +kernel) (by decide +kernel)
set_option maxRecDepth 20000 in
theorem gX4_threadOf_X2_tells : GoodIn wsX4_threadOf (wsV RX4 159 RX2 yX2_tells wsX2_tells) := goodIn_app (goodIn_of _ (by decide +kernel)) ggX4_threadOf_X2_tells
set_option maxRecDepth 20000 in
theorem ggX4_threadOf_J6_bitCount_0f7a4 : GoodIn wsX4_threadOf wsJ6_bitCount_0f7a4 := goodIn_r _ [55, 56, 57, 58] (by decide +kernel) (by decide +kernel)
set_option maxRecDepth 20000 in
theorem gX4_threadOf_J6_bitCount_0f7a4 : GoodIn wsX4_threadOf (va_wsS RX4 189 yJ6_bitCount_0f7a4 wsJ6_bitCount_0f7a4) := goodIn_app (goodIn_of _ (by decide +kernel)) ggX4_threadOf_J6_bitCount_0f7a4
set_option maxRecDepth 20000 in
theorem ggX4_threadOf_X2_answering : GoodIn wsX4_threadOf wsX2_answering := goodIn_r _ [37, 24, 29, 17, 11, 18, 38, 39, 40, 22, 41, 42, 43, 44, 45, 46, 47, 48, 49, 50, 51, 67, 68, 69, 70, 71, 72, 73, 74] (by decide +kernel) (by decide +kernel)
set_option maxRecDepth 20000 in
theorem gX4_threadOf_X2_answering : GoodIn wsX4_threadOf (wsV RX4 194 RX2 yX2_answering wsX2_answering) := goodIn_app (goodIn_of _ (by decide +kernel)) ggX4_threadOf_X2_answering
theorem dX4_threadOf_0 : decode cX4_threadOf 0 = .ok (.iload_n 1, 1) := by decide +kernel
theorem dX4_threadOf_1 : decode cX4_threadOf 1 = .ok (.invokestatic 45, 3) := by decide +kernel
theorem dX4_threadOf_4 : decode cX4_threadOf 4 = .ok (.ifCond .ne 13, 3) := by decide +kernel
theorem dX4_threadOf_7 : decode cX4_threadOf 7 = .ok (.new 52, 3) := by decide +kernel
theorem dX4_threadOf_10 : decode cX4_threadOf 10 = .ok (.dup, 1) := by decide +kernel
theorem dX4_threadOf_11 : decode cX4_threadOf 11 = .ok (.ldc 73, 2) := by decide +kernel
theorem dX4_threadOf_13 : decode cX4_threadOf 13 = .ok (.invokespecial 56, 3) := by decide +kernel
theorem dX4_threadOf_16 : decode cX4_threadOf 16 = .ok (.athrow, 1) := by decide +kernel
theorem dX4_threadOf_17 : decode cX4_threadOf 17 = .ok (.iload_n 2, 1) := by decide +kernel
theorem dX4_threadOf_18 : decode cX4_threadOf 18 = .ok (.tableswitch 159 0 7 #[46, 56, 68, 77, 86, 107, 128, 149], 46) := by decide +kernel
theorem dX4_threadOf_64 : decode cX4_threadOf 64 = .ok (.aload_n 0, 1) := by decide +kernel
theorem dX4_threadOf_65 : decode cX4_threadOf 65 = .ok (.getfield 10, 3) := by decide +kernel
theorem dX4_threadOf_68 : decode cX4_threadOf 68 = .ok (.getfield 63, 3) := by decide +kernel
theorem dX4_threadOf_71 : decode cX4_threadOf 71 = .ok (.iload_n 1, 1) := by decide +kernel
theorem dX4_threadOf_72 : decode cX4_threadOf 72 = .ok (.iaload, 1) := by decide +kernel
theorem dX4_threadOf_73 : decode cX4_threadOf 73 = .ok (.ireturn, 1) := by decide +kernel
theorem dX4_threadOf_74 : decode cX4_threadOf 74 = .ok (.aload_n 0, 1) := by decide +kernel
theorem dX4_threadOf_75 : decode cX4_threadOf 75 = .ok (.getfield 10, 3) := by decide +kernel
theorem dX4_threadOf_78 : decode cX4_threadOf 78 = .ok (.getfield 88, 3) := by decide +kernel
theorem dX4_threadOf_81 : decode cX4_threadOf 81 = .ok (.iload_n 1, 1) := by decide +kernel
theorem dX4_threadOf_82 : decode cX4_threadOf 82 = .ok (.invokestatic 70, 3) := by decide +kernel
theorem dX4_threadOf_85 : decode cX4_threadOf 85 = .ok (.ireturn, 1) := by decide +kernel
theorem dX4_threadOf_86 : decode cX4_threadOf 86 = .ok (.aload_n 0, 1) := by decide +kernel
theorem dX4_threadOf_87 : decode cX4_threadOf 87 = .ok (.getfield 10, 3) := by decide +kernel
theorem dX4_threadOf_90 : decode cX4_threadOf 90 = .ok (.iload_n 1, 1) := by decide +kernel
theorem dX4_threadOf_91 : decode cX4_threadOf 91 = .ok (.invokevirtual 186, 3) := by decide +kernel
theorem dX4_threadOf_94 : decode cX4_threadOf 94 = .ok (.ireturn, 1) := by decide +kernel
theorem dX4_threadOf_95 : decode cX4_threadOf 95 = .ok (.aload_n 0, 1) := by decide +kernel
theorem dX4_threadOf_96 : decode cX4_threadOf 96 = .ok (.getfield 10, 3) := by decide +kernel
theorem dX4_threadOf_99 : decode cX4_threadOf 99 = .ok (.iload_n 1, 1) := by decide +kernel
theorem dX4_threadOf_100 : decode cX4_threadOf 100 = .ok (.invokevirtual 159, 3) := by decide +kernel
theorem dX4_threadOf_103 : decode cX4_threadOf 103 = .ok (.ireturn, 1) := by decide +kernel
theorem dX4_threadOf_104 : decode cX4_threadOf 104 = .ok (.aload_n 0, 1) := by decide +kernel
theorem dX4_threadOf_105 : decode cX4_threadOf 105 = .ok (.getfield 10, 3) := by decide +kernel
theorem dX4_threadOf_108 : decode cX4_threadOf 108 = .ok (.iload_n 1, 1) := by decide +kernel
theorem dX4_threadOf_109 : decode cX4_threadOf 109 = .ok (.invokevirtual 186, 3) := by decide +kernel
theorem dX4_threadOf_112 : decode cX4_threadOf 112 = .ok (.aload_n 0, 1) := by decide +kernel
theorem dX4_threadOf_113 : decode cX4_threadOf 113 = .ok (.getfield 10, 3) := by decide +kernel
theorem dX4_threadOf_116 : decode cX4_threadOf 116 = .ok (.iload_n 1, 1) := by decide +kernel
theorem dX4_threadOf_117 : decode cX4_threadOf 117 = .ok (.invokevirtual 159, 3) := by decide +kernel
theorem dX4_threadOf_120 : decode cX4_threadOf 120 = .ok (.ixor, 1) := by decide +kernel
theorem dX4_threadOf_121 : decode cX4_threadOf 121 = .ok (.invokestatic 189, 3) := by decide +kernel
theorem dX4_threadOf_124 : decode cX4_threadOf 124 = .ok (.ireturn, 1) := by decide +kernel
theorem dX4_threadOf_125 : decode cX4_threadOf 125 = .ok (.aload_n 0, 1) := by decide +kernel
theorem dX4_threadOf_126 : decode cX4_threadOf 126 = .ok (.getfield 10, 3) := by decide +kernel
theorem dX4_threadOf_129 : decode cX4_threadOf 129 = .ok (.iload_n 1, 1) := by decide +kernel
theorem dX4_threadOf_130 : decode cX4_threadOf 130 = .ok (.invokevirtual 194, 3) := by decide +kernel
theorem dX4_threadOf_133 : decode cX4_threadOf 133 = .ok (.aload_n 0, 1) := by decide +kernel
theorem dX4_threadOf_134 : decode cX4_threadOf 134 = .ok (.getfield 10, 3) := by decide +kernel
theorem dX4_threadOf_137 : decode cX4_threadOf 137 = .ok (.getfield 63, 3) := by decide +kernel
theorem dX4_threadOf_140 : decode cX4_threadOf 140 = .ok (.iload_n 1, 1) := by decide +kernel
theorem dX4_threadOf_141 : decode cX4_threadOf 141 = .ok (.iaload, 1) := by decide +kernel
theorem dX4_threadOf_142 : decode cX4_threadOf 142 = .ok (.iconst (-1), 1) := by decide +kernel
theorem dX4_threadOf_143 : decode cX4_threadOf 143 = .ok (.ixor, 1) := by decide +kernel
theorem dX4_threadOf_144 : decode cX4_threadOf 144 = .ok (.iand, 1) := by decide +kernel
theorem dX4_threadOf_145 : decode cX4_threadOf 145 = .ok (.ireturn, 1) := by decide +kernel
theorem dX4_threadOf_146 : decode cX4_threadOf 146 = .ok (.aload_n 0, 1) := by decide +kernel
theorem dX4_threadOf_147 : decode cX4_threadOf 147 = .ok (.getfield 10, 3) := by decide +kernel
theorem dX4_threadOf_150 : decode cX4_threadOf 150 = .ok (.getfield 63, 3) := by decide +kernel
theorem dX4_threadOf_153 : decode cX4_threadOf 153 = .ok (.iload_n 1, 1) := by decide +kernel
theorem dX4_threadOf_154 : decode cX4_threadOf 154 = .ok (.iaload, 1) := by decide +kernel
theorem dX4_threadOf_155 : decode cX4_threadOf 155 = .ok (.aload_n 0, 1) := by decide +kernel
theorem dX4_threadOf_156 : decode cX4_threadOf 156 = .ok (.getfield 10, 3) := by decide +kernel
theorem dX4_threadOf_159 : decode cX4_threadOf 159 = .ok (.iload_n 1, 1) := by decide +kernel
theorem dX4_threadOf_160 : decode cX4_threadOf 160 = .ok (.invokevirtual 194, 3) := by decide +kernel
theorem dX4_threadOf_163 : decode cX4_threadOf 163 = .ok (.iconst (-1), 1) := by decide +kernel
theorem dX4_threadOf_164 : decode cX4_threadOf 164 = .ok (.ixor, 1) := by decide +kernel
theorem dX4_threadOf_165 : decode cX4_threadOf 165 = .ok (.iand, 1) := by decide +kernel
theorem dX4_threadOf_166 : decode cX4_threadOf 166 = .ok (.ireturn, 1) := by decide +kernel
theorem dX4_threadOf_167 : decode cX4_threadOf 167 = .ok (.aload_n 0, 1) := by decide +kernel
theorem dX4_threadOf_168 : decode cX4_threadOf 168 = .ok (.getfield 10, 3) := by decide +kernel
theorem dX4_threadOf_171 : decode cX4_threadOf 171 = .ok (.getfield 197, 3) := by decide +kernel
theorem dX4_threadOf_174 : decode cX4_threadOf 174 = .ok (.iload_n 1, 1) := by decide +kernel
theorem dX4_threadOf_175 : decode cX4_threadOf 175 = .ok (.iaload, 1) := by decide +kernel
theorem dX4_threadOf_176 : decode cX4_threadOf 176 = .ok (.ireturn, 1) := by decide +kernel
theorem dX4_threadOf_177 : decode cX4_threadOf 177 = .ok (.new 79, 3) := by decide +kernel
theorem dX4_threadOf_180 : decode cX4_threadOf 180 = .ok (.dup, 1) := by decide +kernel
theorem dX4_threadOf_181 : decode cX4_threadOf 181 = .ok (.ldc 200, 2) := by decide +kernel
theorem dX4_threadOf_183 : decode cX4_threadOf 183 = .ok (.invokespecial 83, 3) := by decide +kernel
theorem dX4_threadOf_186 : decode cX4_threadOf 186 = .ok (.athrow, 1) := by decide +kernel
set_option maxRecDepth 20000 in
theorem ggX4_ringOf_X4_isRing : GoodIn wsX4_ringOf wsX4_isRing := goodIn_r _ [10, 11, 12, 9, 13] (by decide +kernel) (by decide +kernel)
set_option maxRecDepth 20000 in
theorem gX4_ringOf_X4_isRing : GoodIn wsX4_ringOf (va_wsS RX4 49 yX4_isRing wsX4_isRing) := goodIn_app (goodIn_of _ (by decide +kernel)) ggX4_ringOf_X4_isRing
set_option maxRecDepth 20000 in
theorem ggX4_ringOf_X2_threadsThrough : GoodIn wsX4_ringOf wsX2_threadsThrough := goodIn_r _ [18, 19, 20, 9, 21, 64, 65, 66, 67, 68, 69, 70, 71] (by decide +kernel) (by decide +kernel)
set_option maxRecDepth 20000 in
theorem gX4_ringOf_X2_threadsThrough : GoodIn wsX4_ringOf (wsV RX4 205 RX2 yX2_threadsThrough wsX2_threadsThrough) := goodIn_app (goodIn_of _ (by decide +kernel)) ggX4_ringOf_X2_threadsThrough
set_option maxRecDepth 20000 in
theorem ggX4_ringOf_J6_bitCount_0f7a4 : GoodIn wsX4_ringOf wsJ6_bitCount_0f7a4 := goodIn_r _ [25, 26, 27, 28] (by decide +kernel) (by decide +kernel)
set_option maxRecDepth 20000 in
theorem gX4_ringOf_J6_bitCount_0f7a4 : GoodIn wsX4_ringOf (va_wsS RX4 189 yJ6_bitCount_0f7a4 wsJ6_bitCount_0f7a4) := goodIn_app (goodIn_of _ (by decide +kernel)) ggX4_ringOf_J6_bitCount_0f7a4
set_option maxRecDepth 20000 in
theorem ggX4_ringOf_X2_threadsAnswered : GoodIn wsX4_ringOf wsX2_threadsAnswered := goodIn_r _ [32, 33, 34, 35, 17, 36, 19, 37, 20, 9, 21, 38, 39, 40, 41, 42, 43, 44, 45, 46, 47, 48, 49, 50, 51, 64, 65, 66, 67, 68, 69, 70, 71] (by decide +kernel) (by decide +kernel)
set_option maxRecDepth 20000 in
theorem gX4_ringOf_X2_threadsAnswered : GoodIn wsX4_ringOf (wsV RX4 208 RX2 yX2_threadsAnswered wsX2_threadsAnswered) := goodIn_app (goodIn_of _ (by decide +kernel)) ggX4_ringOf_X2_threadsAnswered
set_option maxRecDepth 20000 in
theorem ggX4_ringOf_X2_isWornOut : GoodIn wsX4_ringOf wsX2_isWornOut := goodIn_r _ [55, 37, 56, 15, 16, 17, 18, 19, 20, 9, 21, 38, 39, 40, 41, 42, 43, 44, 45, 46, 64, 65, 66, 67, 68, 69, 70, 71] (by decide +kernel) (by decide +kernel)
set_option maxRecDepth 20000 in
theorem gX4_ringOf_X2_isWornOut : GoodIn wsX4_ringOf (wsV RX4 211 RX2 yX2_isWornOut wsX2_isWornOut) := goodIn_app (goodIn_of _ (by decide +kernel)) ggX4_ringOf_X2_isWornOut
theorem dX4_ringOf_0 : decode cX4_ringOf 0 = .ok (.iload_n 1, 1) := by decide +kernel
theorem dX4_ringOf_1 : decode cX4_ringOf 1 = .ok (.invokestatic 49, 3) := by decide +kernel
theorem dX4_ringOf_4 : decode cX4_ringOf 4 = .ok (.ifCond .ne 13, 3) := by decide +kernel
theorem dX4_ringOf_7 : decode cX4_ringOf 7 = .ok (.new 52, 3) := by decide +kernel
theorem dX4_ringOf_10 : decode cX4_ringOf 10 = .ok (.dup, 1) := by decide +kernel
theorem dX4_ringOf_11 : decode cX4_ringOf 11 = .ok (.ldc 92, 2) := by decide +kernel
theorem dX4_ringOf_13 : decode cX4_ringOf 13 = .ok (.invokespecial 56, 3) := by decide +kernel
theorem dX4_ringOf_16 : decode cX4_ringOf 16 = .ok (.athrow, 1) := by decide +kernel
theorem dX4_ringOf_17 : decode cX4_ringOf 17 = .ok (.iload_n 2, 1) := by decide +kernel
theorem dX4_ringOf_18 : decode cX4_ringOf 18 = .ok (.tableswitch 91 0 4 #[34, 44, 53, 65, 74], 34) := by decide +kernel
theorem dX4_ringOf_52 : decode cX4_ringOf 52 = .ok (.aload_n 0, 1) := by decide +kernel
theorem dX4_ringOf_53 : decode cX4_ringOf 53 = .ok (.getfield 10, 3) := by decide +kernel
theorem dX4_ringOf_56 : decode cX4_ringOf 56 = .ok (.getfield 202, 3) := by decide +kernel
theorem dX4_ringOf_59 : decode cX4_ringOf 59 = .ok (.iload_n 1, 1) := by decide +kernel
theorem dX4_ringOf_60 : decode cX4_ringOf 60 = .ok (.iaload, 1) := by decide +kernel
theorem dX4_ringOf_61 : decode cX4_ringOf 61 = .ok (.ireturn, 1) := by decide +kernel
theorem dX4_ringOf_62 : decode cX4_ringOf 62 = .ok (.aload_n 0, 1) := by decide +kernel
theorem dX4_ringOf_63 : decode cX4_ringOf 63 = .ok (.getfield 10, 3) := by decide +kernel
theorem dX4_ringOf_66 : decode cX4_ringOf 66 = .ok (.iload_n 1, 1) := by decide +kernel
theorem dX4_ringOf_67 : decode cX4_ringOf 67 = .ok (.invokevirtual 205, 3) := by decide +kernel
theorem dX4_ringOf_70 : decode cX4_ringOf 70 = .ok (.ireturn, 1) := by decide +kernel
theorem dX4_ringOf_71 : decode cX4_ringOf 71 = .ok (.aload_n 0, 1) := by decide +kernel
theorem dX4_ringOf_72 : decode cX4_ringOf 72 = .ok (.getfield 10, 3) := by decide +kernel
theorem dX4_ringOf_75 : decode cX4_ringOf 75 = .ok (.iload_n 1, 1) := by decide +kernel
theorem dX4_ringOf_76 : decode cX4_ringOf 76 = .ok (.invokevirtual 205, 3) := by decide +kernel
theorem dX4_ringOf_79 : decode cX4_ringOf 79 = .ok (.invokestatic 189, 3) := by decide +kernel
theorem dX4_ringOf_82 : decode cX4_ringOf 82 = .ok (.ireturn, 1) := by decide +kernel
theorem dX4_ringOf_83 : decode cX4_ringOf 83 = .ok (.aload_n 0, 1) := by decide +kernel
theorem dX4_ringOf_84 : decode cX4_ringOf 84 = .ok (.getfield 10, 3) := by decide +kernel
theorem dX4_ringOf_87 : decode cX4_ringOf 87 = .ok (.iload_n 1, 1) := by decide +kernel
theorem dX4_ringOf_88 : decode cX4_ringOf 88 = .ok (.invokevirtual 208, 3) := by decide +kernel
theorem dX4_ringOf_91 : decode cX4_ringOf 91 = .ok (.ireturn, 1) := by decide +kernel
theorem dX4_ringOf_92 : decode cX4_ringOf 92 = .ok (.aload_n 0, 1) := by decide +kernel
theorem dX4_ringOf_93 : decode cX4_ringOf 93 = .ok (.getfield 10, 3) := by decide +kernel
theorem dX4_ringOf_96 : decode cX4_ringOf 96 = .ok (.iload_n 1, 1) := by decide +kernel
theorem dX4_ringOf_97 : decode cX4_ringOf 97 = .ok (.invokevirtual 211, 3) := by decide +kernel
theorem dX4_ringOf_100 : decode cX4_ringOf 100 = .ok (.ifCond .eq 7, 3) := by decide +kernel
theorem dX4_ringOf_103 : decode cX4_ringOf 103 = .ok (.iconst 1, 1) := by decide +kernel
theorem dX4_ringOf_104 : decode cX4_ringOf 104 = .ok (.goto 4, 3) := by decide +kernel
theorem dX4_ringOf_107 : decode cX4_ringOf 107 = .ok (.iconst 0, 1) := by decide +kernel
theorem dX4_ringOf_108 : decode cX4_ringOf 108 = .ok (.ireturn, 1) := by decide +kernel
theorem dX4_ringOf_109 : decode cX4_ringOf 109 = .ok (.new 79, 3) := by decide +kernel
theorem dX4_ringOf_112 : decode cX4_ringOf 112 = .ok (.dup, 1) := by decide +kernel
theorem dX4_ringOf_113 : decode cX4_ringOf 113 = .ok (.ldc 214, 2) := by decide +kernel
theorem dX4_ringOf_115 : decode cX4_ringOf 115 = .ok (.invokespecial 83, 3) := by decide +kernel
theorem dX4_ringOf_118 : decode cX4_ringOf 118 = .ok (.athrow, 1) := by decide +kernel
set_option maxRecDepth 20000 in
theorem ggX4_strength_X4_isThread : GoodIn wsX4_strength wsX4_isThread := goodIn_r _ [9, 10, 11, 8, 12] (by decide +kernel) (by decide +kernel)
set_option maxRecDepth 20000 in
theorem gX4_strength_X4_isThread : GoodIn wsX4_strength (va_wsS RX4 45 yX4_isThread wsX4_isThread) := goodIn_app (goodIn_of _ (by decide +kernel)) ggX4_strength_X4_isThread
set_option maxRecDepth 20000 in
theorem ggX4_strength_X4_isRing : GoodIn wsX4_strength wsX4_isRing := goodIn_r _ [15, 10, 11, 8, 12] (by decide +kernel) (by decide +kernel)
set_option maxRecDepth 20000 in
theorem gX4_strength_X4_isRing : GoodIn wsX4_strength (va_wsS RX4 49 yX4_isRing wsX4_isRing) := goodIn_app (goodIn_of _ (by decide +kernel)) ggX4_strength_X4_isRing
set_option maxRecDepth 20000 in
theorem ggX4_strength_X2_hops : GoodIn wsX4_strength wsX2_hops := goodIn_r _ [20, 21, 22, 8, 23, 24, 25, 26, 19, 27, 28, 45, 46, 47, 48, 49, 50, 51, 52] (by decide +kernel) (by decide +kernel)
set_option maxRecDepth 20000 in
theorem gX4_strength_X2_hops : GoodIn wsX4_strength (wsV RX4 216 RX2 yX2_hops wsX2_hops) := goodIn_app (goodIn_of _ (by decide +kernel)) ggX4_strength_X2_hops
set_option maxRecDepth 20000 in
theorem ggX4_strength_X2_strengthAt : GoodIn wsX4_strength wsX2_strengthAt := goodIn_r _ [32, 33, 34, 35, 36, 37, 45, 46, 47, 48, 49, 50, 51, 52] (by decide +kernel) (by decide +kernel)
set_option maxRecDepth 20000 in
theorem gX4_strength_X2_strengthAt : GoodIn wsX4_strength (wsV RX4 219 RX2 yX2_strengthAt wsX2_strengthAt) := goodIn_app (goodIn_of _ (by decide +kernel)) ggX4_strength_X2_strengthAt
theorem dX4_strength_0 : decode cX4_strength 0 = .ok (.iload_n 1, 1) := by decide +kernel
theorem dX4_strength_1 : decode cX4_strength 1 = .ok (.invokestatic 45, 3) := by decide +kernel
theorem dX4_strength_4 : decode cX4_strength 4 = .ok (.ifCond .eq 10, 3) := by decide +kernel
theorem dX4_strength_7 : decode cX4_strength 7 = .ok (.iload_n 2, 1) := by decide +kernel
theorem dX4_strength_8 : decode cX4_strength 8 = .ok (.invokestatic 49, 3) := by decide +kernel
theorem dX4_strength_11 : decode cX4_strength 11 = .ok (.ifCond .ne 13, 3) := by decide +kernel
theorem dX4_strength_14 : decode cX4_strength 14 = .ok (.new 52, 3) := by decide +kernel
theorem dX4_strength_17 : decode cX4_strength 17 = .ok (.dup, 1) := by decide +kernel
theorem dX4_strength_18 : decode cX4_strength 18 = .ok (.ldc 54, 2) := by decide +kernel
theorem dX4_strength_20 : decode cX4_strength 20 = .ok (.invokespecial 56, 3) := by decide +kernel
theorem dX4_strength_23 : decode cX4_strength 23 = .ok (.athrow, 1) := by decide +kernel
theorem dX4_strength_24 : decode cX4_strength 24 = .ok (.iload_n 3, 1) := by decide +kernel
theorem dX4_strength_25 : decode cX4_strength 25 = .ok (.lookupswitch 55 #[(0, 27), (1, 45)], 27) := by decide +kernel
theorem dX4_strength_52 : decode cX4_strength 52 = .ok (.aload_n 0, 1) := by decide +kernel
theorem dX4_strength_53 : decode cX4_strength 53 = .ok (.getfield 10, 3) := by decide +kernel
theorem dX4_strength_56 : decode cX4_strength 56 = .ok (.iload_n 2, 1) := by decide +kernel
theorem dX4_strength_57 : decode cX4_strength 57 = .ok (.aload_n 0, 1) := by decide +kernel
theorem dX4_strength_58 : decode cX4_strength 58 = .ok (.getfield 10, 3) := by decide +kernel
theorem dX4_strength_61 : decode cX4_strength 61 = .ok (.iload_n 1, 1) := by decide +kernel
theorem dX4_strength_62 : decode cX4_strength 62 = .ok (.iload_n 2, 1) := by decide +kernel
theorem dX4_strength_63 : decode cX4_strength 63 = .ok (.invokevirtual 216, 3) := by decide +kernel
theorem dX4_strength_66 : decode cX4_strength 66 = .ok (.invokevirtual 219, 3) := by decide +kernel
theorem dX4_strength_69 : decode cX4_strength 69 = .ok (.ireturn, 1) := by decide +kernel
theorem dX4_strength_70 : decode cX4_strength 70 = .ok (.aload_n 0, 1) := by decide +kernel
theorem dX4_strength_71 : decode cX4_strength 71 = .ok (.getfield 10, 3) := by decide +kernel
theorem dX4_strength_74 : decode cX4_strength 74 = .ok (.iload_n 1, 1) := by decide +kernel
theorem dX4_strength_75 : decode cX4_strength 75 = .ok (.iload_n 2, 1) := by decide +kernel
theorem dX4_strength_76 : decode cX4_strength 76 = .ok (.invokevirtual 216, 3) := by decide +kernel
theorem dX4_strength_79 : decode cX4_strength 79 = .ok (.ireturn, 1) := by decide +kernel
theorem dX4_strength_80 : decode cX4_strength 80 = .ok (.new 79, 3) := by decide +kernel
theorem dX4_strength_83 : decode cX4_strength 83 = .ok (.dup, 1) := by decide +kernel
theorem dX4_strength_84 : decode cX4_strength 84 = .ok (.ldc 222, 2) := by decide +kernel
theorem dX4_strength_86 : decode cX4_strength 86 = .ok (.invokespecial 83, 3) := by decide +kernel
theorem dX4_strength_89 : decode cX4_strength 89 = .ok (.athrow, 1) := by decide +kernel
theorem dX4_machine_0 : decode cX4_machine 0 = .ok (.iload_n 1, 1) := by decide +kernel
theorem dX4_machine_1 : decode cX4_machine 1 = .ok (.tableswitch 129 0 8 #[51, 62, 73, 73, 73, 73, 88, 107, 118], 51) := by decide +kernel
theorem dX4_machine_52 : decode cX4_machine 52 = .ok (.aload_n 0, 1) := by decide +kernel
theorem dX4_machine_53 : decode cX4_machine 53 = .ok (.getfield 10, 3) := by decide +kernel
theorem dX4_machine_56 : decode cX4_machine 56 = .ok (.getfield 110, 3) := by decide +kernel
theorem dX4_machine_59 : decode cX4_machine 59 = .ok (.getfield 224, 3) := by decide +kernel
theorem dX4_machine_62 : decode cX4_machine 62 = .ok (.ireturn, 1) := by decide +kernel
theorem dX4_machine_63 : decode cX4_machine 63 = .ok (.aload_n 0, 1) := by decide +kernel
theorem dX4_machine_64 : decode cX4_machine 64 = .ok (.getfield 10, 3) := by decide +kernel
theorem dX4_machine_67 : decode cX4_machine 67 = .ok (.getfield 110, 3) := by decide +kernel
theorem dX4_machine_70 : decode cX4_machine 70 = .ok (.getfield 227, 3) := by decide +kernel
theorem dX4_machine_73 : decode cX4_machine 73 = .ok (.ireturn, 1) := by decide +kernel
theorem dX4_machine_74 : decode cX4_machine 74 = .ok (.aload_n 0, 1) := by decide +kernel
theorem dX4_machine_75 : decode cX4_machine 75 = .ok (.getfield 10, 3) := by decide +kernel
theorem dX4_machine_78 : decode cX4_machine 78 = .ok (.getfield 110, 3) := by decide +kernel
theorem dX4_machine_81 : decode cX4_machine 81 = .ok (.getfield 230, 3) := by decide +kernel
theorem dX4_machine_84 : decode cX4_machine 84 = .ok (.iload_n 1, 1) := by decide +kernel
theorem dX4_machine_85 : decode cX4_machine 85 = .ok (.iconst 2, 1) := by decide +kernel
theorem dX4_machine_86 : decode cX4_machine 86 = .ok (.isub, 1) := by decide +kernel
theorem dX4_machine_87 : decode cX4_machine 87 = .ok (.iaload, 1) := by decide +kernel
theorem dX4_machine_88 : decode cX4_machine 88 = .ok (.ireturn, 1) := by decide +kernel
theorem dX4_machine_89 : decode cX4_machine 89 = .ok (.aload_n 0, 1) := by decide +kernel
theorem dX4_machine_90 : decode cX4_machine 90 = .ok (.getfield 10, 3) := by decide +kernel
theorem dX4_machine_93 : decode cX4_machine 93 = .ok (.getfield 110, 3) := by decide +kernel
theorem dX4_machine_96 : decode cX4_machine 96 = .ok (.getfield 233, 3) := by decide +kernel
theorem dX4_machine_99 : decode cX4_machine 99 = .ok (.ifCond .eq 7, 3) := by decide +kernel
theorem dX4_machine_102 : decode cX4_machine 102 = .ok (.iconst 1, 1) := by decide +kernel
theorem dX4_machine_103 : decode cX4_machine 103 = .ok (.goto 4, 3) := by decide +kernel
theorem dX4_machine_106 : decode cX4_machine 106 = .ok (.iconst 0, 1) := by decide +kernel
theorem dX4_machine_107 : decode cX4_machine 107 = .ok (.ireturn, 1) := by decide +kernel
theorem dX4_machine_108 : decode cX4_machine 108 = .ok (.aload_n 0, 1) := by decide +kernel
theorem dX4_machine_109 : decode cX4_machine 109 = .ok (.getfield 10, 3) := by decide +kernel
theorem dX4_machine_112 : decode cX4_machine 112 = .ok (.getfield 110, 3) := by decide +kernel
theorem dX4_machine_115 : decode cX4_machine 115 = .ok (.getfield 114, 3) := by decide +kernel
theorem dX4_machine_118 : decode cX4_machine 118 = .ok (.ireturn, 1) := by decide +kernel
theorem dX4_machine_119 : decode cX4_machine 119 = .ok (.aload_n 0, 1) := by decide +kernel
theorem dX4_machine_120 : decode cX4_machine 120 = .ok (.getfield 10, 3) := by decide +kernel
theorem dX4_machine_123 : decode cX4_machine 123 = .ok (.getfield 110, 3) := by decide +kernel
theorem dX4_machine_126 : decode cX4_machine 126 = .ok (.getfield 237, 3) := by decide +kernel
theorem dX4_machine_129 : decode cX4_machine 129 = .ok (.ireturn, 1) := by decide +kernel
theorem dX4_machine_130 : decode cX4_machine 130 = .ok (.new 79, 3) := by decide +kernel
theorem dX4_machine_133 : decode cX4_machine 133 = .ok (.dup, 1) := by decide +kernel
theorem dX4_machine_134 : decode cX4_machine 134 = .ok (.ldc 240, 2) := by decide +kernel
theorem dX4_machine_136 : decode cX4_machine 136 = .ok (.invokespecial 83, 3) := by decide +kernel
theorem dX4_machine_139 : decode cX4_machine 139 = .ok (.athrow, 1) := by decide +kernel
set_option maxRecDepth 20000 in
theorem ggX4_told_X4_isWithin : GoodIn wsX4_told wsX4_isWithin := goodIn_r _ [9] (by decide +kernel) (by decide +kernel)
set_option maxRecDepth 20000 in
theorem gX4_told_X4_isWithin : GoodIn wsX4_told (va_wsS RX4 75 yX4_isWithin wsX4_isWithin) := goodIn_app (goodIn_of _ (by decide +kernel)) ggX4_told_X4_isWithin
theorem dX4_told_0 : decode cX4_told 0 = .ok (.iload_n 1, 1) := by decide +kernel
theorem dX4_told_1 : decode cX4_told 1 = .ok (.iconst 0, 1) := by decide +kernel
theorem dX4_told_2 : decode cX4_told 2 = .ok (.bipush 7, 2) := by decide +kernel
theorem dX4_told_4 : decode cX4_told 4 = .ok (.invokestatic 75, 3) := by decide +kernel
theorem dX4_told_7 : decode cX4_told 7 = .ok (.ifCond .ne 13, 3) := by decide +kernel
theorem dX4_told_10 : decode cX4_told 10 = .ok (.new 79, 3) := by decide +kernel
theorem dX4_told_13 : decode cX4_told 13 = .ok (.dup, 1) := by decide +kernel
theorem dX4_told_14 : decode cX4_told 14 = .ok (.ldc 242, 2) := by decide +kernel
theorem dX4_told_16 : decode cX4_told 16 = .ok (.invokespecial 83, 3) := by decide +kernel
theorem dX4_told_19 : decode cX4_told 19 = .ok (.athrow, 1) := by decide +kernel
theorem dX4_told_20 : decode cX4_told 20 = .ok (.aload_n 0, 1) := by decide +kernel
theorem dX4_told_21 : decode cX4_told 21 = .ok (.getfield 10, 3) := by decide +kernel
theorem dX4_told_24 : decode cX4_told 24 = .ok (.getfield 110, 3) := by decide +kernel
theorem dX4_told_27 : decode cX4_told 27 = .ok (.getfield 244, 3) := by decide +kernel
theorem dX4_told_30 : decode cX4_told 30 = .ok (.iload_n 1, 1) := by decide +kernel
theorem dX4_told_31 : decode cX4_told 31 = .ok (.iaload, 1) := by decide +kernel
theorem dX4_told_32 : decode cX4_told 32 = .ok (.ireturn, 1) := by decide +kernel
set_option maxRecDepth 20000 in
theorem ggX4_count_X2_crossingsByThreads : GoodIn wsX4_count wsX2_crossingsByThreads := goodIn_r _ [13, 14, 15, 16, 17, 18, 19, 20, 21, 88, 89, 90, 91, 92, 93, 94, 95] (by decide +kernel) (by decide +kernel)
set_option maxRecDepth 20000 in
theorem gX4_count_X2_crossingsByThreads : GoodIn wsX4_count (wsV RX4 173 RX2 yX2_crossingsByThreads wsX2_crossingsByThreads) := goodIn_app (goodIn_of _ (by decide +kernel)) ggX4_count_X2_crossingsByThreads
set_option maxRecDepth 20000 in
theorem ggX4_count_X2_crossingsByRings : GoodIn wsX4_count wsX2_crossingsByRings := goodIn_r _ [25, 26, 27, 28, 12, 29, 14, 30, 31, 32, 15, 16, 17, 18, 19, 20, 21, 88, 89, 90, 91, 92, 93, 94, 95] (by decide +kernel) (by decide +kernel)
set_option maxRecDepth 20000 in
theorem gX4_count_X2_crossingsByRings : GoodIn wsX4_count (wsV RX4 247 RX2 yX2_crossingsByRings wsX2_crossingsByRings) := goodIn_app (goodIn_of _ (by decide +kernel)) ggX4_count_X2_crossingsByRings
set_option maxRecDepth 20000 in
theorem ggX4_count_X2_threadsRight : GoodIn wsX4_count wsX2_threadsRight := goodIn_r _ [36, 14, 37, 38, 39, 12, 40, 41, 30, 31, 32, 42, 43, 44, 45, 46, 47, 48, 49, 50, 51, 52, 53, 54, 55, 88, 89, 90, 91, 92, 93, 94, 95] (by decide +kernel) (by decide +kernel)
set_option maxRecDepth 20000 in
theorem gX4_count_X2_threadsRight : GoodIn wsX4_count (wsV RX4 256 RX2 yX2_threadsRight wsX2_threadsRight) := goodIn_app (goodIn_of _ (by decide +kernel)) ggX4_count_X2_threadsRight
set_option maxRecDepth 20000 in
theorem ggX4_count_J6_bitCount_0f7a4 : GoodIn wsX4_count wsJ6_bitCount_0f7a4 := goodIn_r _ [18, 19, 20, 21] (by decide +kernel) (by decide +kernel)
set_option maxRecDepth 20000 in
theorem gX4_count_J6_bitCount_0f7a4 : GoodIn wsX4_count (va_wsS RX4 189 yJ6_bitCount_0f7a4 wsJ6_bitCount_0f7a4) := goodIn_app (goodIn_of _ (by decide +kernel)) ggX4_count_J6_bitCount_0f7a4
set_option maxRecDepth 20000 in
theorem ggX4_count_X2_greatestWear : GoodIn wsX4_count wsX2_greatestWear := goodIn_r _ [60, 50, 46, 47, 48, 49, 88, 89, 90, 91, 92, 93, 94, 95] (by decide +kernel) (by decide +kernel)
set_option maxRecDepth 20000 in
theorem gX4_count_X2_greatestWear : GoodIn wsX4_count (wsV RX4 259 RX2 yX2_greatestWear wsX2_greatestWear) := goodIn_app (goodIn_of _ (by decide +kernel)) ggX4_count_X2_greatestWear
set_option maxRecDepth 20000 in
theorem ggX4_count_X4_pairsTellingTheSame : GoodIn wsX4_count wsX4_pairsTellingTheSame := goodIn_r _ [64, 65, 3, 66, 67, 68, 12, 69, 37, 38, 39, 40, 14, 41, 30, 31, 32, 42, 43, 44, 45, 46, 47, 48, 49, 50, 51, 52, 53, 54, 55, 70, 71, 72, 73, 81, 82, 83, 84, 85, 86, 87, 88, 89, 90, 91, 92, 93, 94, 95] (by decide +kernel) (by decide +kernel)
set_option maxRecDepth 20000 in
theorem gX4_count_X4_pairsTellingTheSame : GoodIn wsX4_count (wsV RX4 262 RX4 yX4_pairsTellingTheSame wsX4_pairsTellingTheSame) := goodIn_app (goodIn_of _ (by decide +kernel)) ggX4_count_X4_pairsTellingTheSame
set_option maxRecDepth 20000 in
theorem ggX4_count_X2_fewestUnlikeBits : GoodIn wsX4_count wsX2_fewestUnlikeBits := goodIn_r _ [77, 14, 78, 79, 48, 80, 15, 16, 17, 18, 19, 20, 21, 88, 89, 90, 91, 92, 93, 94, 95] (by decide +kernel) (by decide +kernel)
set_option maxRecDepth 20000 in
theorem gX4_count_X2_fewestUnlikeBits : GoodIn wsX4_count (wsV RX4 265 RX2 yX2_fewestUnlikeBits wsX2_fewestUnlikeBits) := goodIn_app (goodIn_of _ (by decide +kernel)) ggX4_count_X2_fewestUnlikeBits
theorem dX4_count_0 : decode cX4_count 0 = .ok (.iload_n 1, 1) := by decide +kernel
theorem dX4_count_1 : decode cX4_count 1 = .ok (.tableswitch 135 0 9 #[55, 63, 71, 79, 87, 95, 106, 114, 119, 127], 55) := by decide +kernel
theorem dX4_count_56 : decode cX4_count 56 = .ok (.aload_n 0, 1) := by decide +kernel
theorem dX4_count_57 : decode cX4_count 57 = .ok (.getfield 10, 3) := by decide +kernel
theorem dX4_count_60 : decode cX4_count 60 = .ok (.invokevirtual 173, 3) := by decide +kernel
theorem dX4_count_63 : decode cX4_count 63 = .ok (.ireturn, 1) := by decide +kernel
theorem dX4_count_64 : decode cX4_count 64 = .ok (.aload_n 0, 1) := by decide +kernel
theorem dX4_count_65 : decode cX4_count 65 = .ok (.getfield 10, 3) := by decide +kernel
theorem dX4_count_68 : decode cX4_count 68 = .ok (.invokevirtual 247, 3) := by decide +kernel
theorem dX4_count_71 : decode cX4_count 71 = .ok (.ireturn, 1) := by decide +kernel
theorem dX4_count_72 : decode cX4_count 72 = .ok (.aload_n 0, 1) := by decide +kernel
theorem dX4_count_73 : decode cX4_count 73 = .ok (.getfield 10, 3) := by decide +kernel
theorem dX4_count_76 : decode cX4_count 76 = .ok (.getfield 250, 3) := by decide +kernel
theorem dX4_count_79 : decode cX4_count 79 = .ok (.ireturn, 1) := by decide +kernel
theorem dX4_count_80 : decode cX4_count 80 = .ok (.aload_n 0, 1) := by decide +kernel
theorem dX4_count_81 : decode cX4_count 81 = .ok (.getfield 10, 3) := by decide +kernel
theorem dX4_count_84 : decode cX4_count 84 = .ok (.getfield 253, 3) := by decide +kernel
theorem dX4_count_87 : decode cX4_count 87 = .ok (.ireturn, 1) := by decide +kernel
theorem dX4_count_88 : decode cX4_count 88 = .ok (.aload_n 0, 1) := by decide +kernel
theorem dX4_count_89 : decode cX4_count 89 = .ok (.getfield 10, 3) := by decide +kernel
theorem dX4_count_92 : decode cX4_count 92 = .ok (.invokevirtual 256, 3) := by decide +kernel
theorem dX4_count_95 : decode cX4_count 95 = .ok (.ireturn, 1) := by decide +kernel
theorem dX4_count_96 : decode cX4_count 96 = .ok (.aload_n 0, 1) := by decide +kernel
theorem dX4_count_97 : decode cX4_count 97 = .ok (.getfield 10, 3) := by decide +kernel
theorem dX4_count_100 : decode cX4_count 100 = .ok (.getfield 88, 3) := by decide +kernel
theorem dX4_count_103 : decode cX4_count 103 = .ok (.invokestatic 189, 3) := by decide +kernel
theorem dX4_count_106 : decode cX4_count 106 = .ok (.ireturn, 1) := by decide +kernel
theorem dX4_count_107 : decode cX4_count 107 = .ok (.aload_n 0, 1) := by decide +kernel
theorem dX4_count_108 : decode cX4_count 108 = .ok (.getfield 10, 3) := by decide +kernel
theorem dX4_count_111 : decode cX4_count 111 = .ok (.invokevirtual 259, 3) := by decide +kernel
theorem dX4_count_114 : decode cX4_count 114 = .ok (.ireturn, 1) := by decide +kernel
theorem dX4_count_115 : decode cX4_count 115 = .ok (.aload_n 0, 1) := by decide +kernel
theorem dX4_count_116 : decode cX4_count 116 = .ok (.invokevirtual 262, 3) := by decide +kernel
theorem dX4_count_119 : decode cX4_count 119 = .ok (.ireturn, 1) := by decide +kernel
theorem dX4_count_120 : decode cX4_count 120 = .ok (.aload_n 0, 1) := by decide +kernel
theorem dX4_count_121 : decode cX4_count 121 = .ok (.getfield 10, 3) := by decide +kernel
theorem dX4_count_124 : decode cX4_count 124 = .ok (.invokevirtual 265, 3) := by decide +kernel
theorem dX4_count_127 : decode cX4_count 127 = .ok (.ireturn, 1) := by decide +kernel
theorem dX4_count_128 : decode cX4_count 128 = .ok (.aload_n 0, 1) := by decide +kernel
theorem dX4_count_129 : decode cX4_count 129 = .ok (.getfield 22, 3) := by decide +kernel
theorem dX4_count_132 : decode cX4_count 132 = .ok (.getfield 178, 3) := by decide +kernel
theorem dX4_count_135 : decode cX4_count 135 = .ok (.ireturn, 1) := by decide +kernel
theorem dX4_count_136 : decode cX4_count 136 = .ok (.new 79, 3) := by decide +kernel
theorem dX4_count_139 : decode cX4_count 139 = .ok (.dup, 1) := by decide +kernel
theorem dX4_count_140 : decode cX4_count 140 = .ok (.ldc_w 268, 3) := by decide +kernel
theorem dX4_count_143 : decode cX4_count 143 = .ok (.invokespecial 83, 3) := by decide +kernel
theorem dX4_count_146 : decode cX4_count 146 = .ok (.athrow, 1) := by decide +kernel
set_option maxRecDepth 20000 in
theorem ggX4_setting_X4_isSetting : GoodIn wsX4_setting wsX4_isSetting := goodIn_r _ [8, 9, 10, 7, 11] (by decide +kernel) (by decide +kernel)
set_option maxRecDepth 20000 in
theorem gX4_setting_X4_isSetting : GoodIn wsX4_setting (va_wsS RX4 97 yX4_isSetting wsX4_isSetting) := goodIn_app (goodIn_of _ (by decide +kernel)) ggX4_setting_X4_isSetting
theorem dX4_setting_0 : decode cX4_setting 0 = .ok (.iload_n 1, 1) := by decide +kernel
theorem dX4_setting_1 : decode cX4_setting 1 = .ok (.invokestatic 97, 3) := by decide +kernel
theorem dX4_setting_4 : decode cX4_setting 4 = .ok (.ifCond .ne 13, 3) := by decide +kernel
theorem dX4_setting_7 : decode cX4_setting 7 = .ok (.new 52, 3) := by decide +kernel
theorem dX4_setting_10 : decode cX4_setting 10 = .ok (.dup, 1) := by decide +kernel
theorem dX4_setting_11 : decode cX4_setting 11 = .ok (.ldc 100, 2) := by decide +kernel
theorem dX4_setting_13 : decode cX4_setting 13 = .ok (.invokespecial 56, 3) := by decide +kernel
theorem dX4_setting_16 : decode cX4_setting 16 = .ok (.athrow, 1) := by decide +kernel
theorem dX4_setting_17 : decode cX4_setting 17 = .ok (.aload_n 0, 1) := by decide +kernel
theorem dX4_setting_18 : decode cX4_setting 18 = .ok (.getfield 10, 3) := by decide +kernel
theorem dX4_setting_21 : decode cX4_setting 21 = .ok (.getfield 104, 3) := by decide +kernel
theorem dX4_setting_24 : decode cX4_setting 24 = .ok (.iload_n 1, 1) := by decide +kernel
theorem dX4_setting_25 : decode cX4_setting 25 = .ok (.iaload, 1) := by decide +kernel
theorem dX4_setting_26 : decode cX4_setting 26 = .ok (.ireturn, 1) := by decide +kernel
set_option maxRecDepth 20000 in
theorem ggX4_ifLoaded_X4_isThread : GoodIn wsX4_ifLoaded wsX4_isThread := goodIn_r _ [7, 8, 9, 6, 10] (by decide +kernel) (by decide +kernel)
set_option maxRecDepth 20000 in
theorem gX4_ifLoaded_X4_isThread : GoodIn wsX4_ifLoaded (va_wsS RX4 45 yX4_isThread wsX4_isThread) := goodIn_app (goodIn_of _ (by decide +kernel)) ggX4_ifLoaded_X4_isThread
set_option maxRecDepth 20000 in
theorem ggX4_ifLoaded_X3_tellsProgram : GoodIn wsX4_ifLoaded wsX3_tellsProgram := goodIn_r _ [15, 16, 17, 18, 19, 20, 14, 21, 22, 23, 24, 25, 26, 27, 28, 29, 30, 31, 64, 65, 66, 67, 68] (by decide +kernel) (by decide +kernel)
set_option maxRecDepth 20000 in
theorem gX4_ifLoaded_X3_tellsProgram : GoodIn wsX4_ifLoaded (wsV RX4 145 RX3 yX3_tellsProgram wsX3_tellsProgram) := goodIn_app (goodIn_of _ (by decide +kernel)) ggX4_ifLoaded_X3_tellsProgram
set_option maxRecDepth 20000 in
theorem ggX4_ifLoaded_X4_changesOfProgramAt : GoodIn wsX4_ifLoaded wsX4_changesOfProgramAt := goodIn_r _ [35, 3, 36, 37, 38, 39, 40, 41, 42, 43, 44, 45, 46, 47, 48, 49, 50, 51, 52, 53, 54, 55, 56, 57, 58, 59, 60, 61, 62, 63, 64, 65, 66, 67, 68, 69, 70, 71, 72, 73, 74, 75, 76] (by decide +kernel) (by decide +kernel)
set_option maxRecDepth 20000 in
theorem gX4_ifLoaded_X4_changesOfProgramAt : GoodIn wsX4_ifLoaded (wsV RX4 270 RX4 yX4_changesOfProgramAt wsX4_changesOfProgramAt) := goodIn_app (goodIn_of _ (by decide +kernel)) ggX4_ifLoaded_X4_changesOfProgramAt
theorem dX4_ifLoaded_0 : decode cX4_ifLoaded 0 = .ok (.iload_n 1, 1) := by decide +kernel
theorem dX4_ifLoaded_1 : decode cX4_ifLoaded 1 = .ok (.invokestatic 45, 3) := by decide +kernel
theorem dX4_ifLoaded_4 : decode cX4_ifLoaded 4 = .ok (.ifCond .ne 13, 3) := by decide +kernel
theorem dX4_ifLoaded_7 : decode cX4_ifLoaded 7 = .ok (.new 52, 3) := by decide +kernel
theorem dX4_ifLoaded_10 : decode cX4_ifLoaded 10 = .ok (.dup, 1) := by decide +kernel
theorem dX4_ifLoaded_11 : decode cX4_ifLoaded 11 = .ok (.ldc 73, 2) := by decide +kernel
theorem dX4_ifLoaded_13 : decode cX4_ifLoaded 13 = .ok (.invokespecial 56, 3) := by decide +kernel
theorem dX4_ifLoaded_16 : decode cX4_ifLoaded 16 = .ok (.athrow, 1) := by decide +kernel
theorem dX4_ifLoaded_17 : decode cX4_ifLoaded 17 = .ok (.aload_n 0, 1) := by decide +kernel
theorem dX4_ifLoaded_18 : decode cX4_ifLoaded 18 = .ok (.getfield 37, 3) := by decide +kernel
theorem dX4_ifLoaded_21 : decode cX4_ifLoaded 21 = .ok (.invokevirtual 145, 3) := by decide +kernel
theorem dX4_ifLoaded_24 : decode cX4_ifLoaded 24 = .ok (.ifCond .eq 11, 3) := by decide +kernel
theorem dX4_ifLoaded_27 : decode cX4_ifLoaded 27 = .ok (.aload_n 0, 1) := by decide +kernel
theorem dX4_ifLoaded_28 : decode cX4_ifLoaded 28 = .ok (.iload_n 1, 1) := by decide +kernel
theorem dX4_ifLoaded_29 : decode cX4_ifLoaded 29 = .ok (.invokevirtual 270, 3) := by decide +kernel
theorem dX4_ifLoaded_32 : decode cX4_ifLoaded 32 = .ok (.goto 4, 3) := by decide +kernel
theorem dX4_ifLoaded_35 : decode cX4_ifLoaded 35 = .ok (.iconst (-1), 1) := by decide +kernel
theorem dX4_ifLoaded_36 : decode cX4_ifLoaded 36 = .ok (.ireturn, 1) := by decide +kernel
set_option maxRecDepth 20000 in
theorem ggX4_bestPlace_X3_tellsProgram : GoodIn wsX4_bestPlace wsX3_tellsProgram := goodIn_r _ [6, 7, 8, 9, 10, 11, 5, 12, 13, 14, 15, 16, 17, 18, 19, 20, 21, 22, 56, 57, 58, 59, 60] (by decide +kernel) (by decide +kernel)
set_option maxRecDepth 20000 in
theorem gX4_bestPlace_X3_tellsProgram : GoodIn wsX4_bestPlace (wsV RX4 145 RX3 yX3_tellsProgram wsX3_tellsProgram) := goodIn_app (goodIn_of _ (by decide +kernel)) ggX4_bestPlace_X3_tellsProgram
set_option maxRecDepth 20000 in
theorem ggX4_bestPlace_X4_changesOfProgramAt : GoodIn wsX4_bestPlace wsX4_changesOfProgramAt := goodIn_r _ [27, 1, 28, 29, 30, 31, 32, 33, 34, 35, 36, 37, 38, 39, 40, 41, 42, 43, 44, 45, 46, 47, 48, 49, 50, 51, 52, 53, 54, 55, 56, 57, 58, 59, 60, 61, 62, 63, 64, 65, 66, 67, 68] (by decide +kernel) (by decide +kernel)
set_option maxRecDepth 20000 in
theorem gX4_bestPlace_X4_changesOfProgramAt : GoodIn wsX4_bestPlace (wsV RX4 270 RX4 yX4_changesOfProgramAt wsX4_changesOfProgramAt) := goodIn_app (goodIn_of _ (by decide +kernel)) ggX4_bestPlace_X4_changesOfProgramAt
theorem dX4_bestPlace_0 : decode cX4_bestPlace 0 = .ok (.aload_n 0, 1) := by decide +kernel
theorem dX4_bestPlace_1 : decode cX4_bestPlace 1 = .ok (.getfield 37, 3) := by decide +kernel
theorem dX4_bestPlace_4 : decode cX4_bestPlace 4 = .ok (.invokevirtual 145, 3) := by decide +kernel
theorem dX4_bestPlace_7 : decode cX4_bestPlace 7 = .ok (.ifCond .ne 5, 3) := by decide +kernel
theorem dX4_bestPlace_10 : decode cX4_bestPlace 10 = .ok (.iconst (-1), 1) := by decide +kernel
theorem dX4_bestPlace_11 : decode cX4_bestPlace 11 = .ok (.ireturn, 1) := by decide +kernel
theorem dX4_bestPlace_12 : decode cX4_bestPlace 12 = .ok (.iconst 0, 1) := by decide +kernel
theorem dX4_bestPlace_13 : decode cX4_bestPlace 13 = .ok (.istore_n 1, 1) := by decide +kernel
theorem dX4_bestPlace_14 : decode cX4_bestPlace 14 = .ok (.aload_n 0, 1) := by decide +kernel
theorem dX4_bestPlace_15 : decode cX4_bestPlace 15 = .ok (.iconst 0, 1) := by decide +kernel
theorem dX4_bestPlace_16 : decode cX4_bestPlace 16 = .ok (.invokevirtual 270, 3) := by decide +kernel
theorem dX4_bestPlace_19 : decode cX4_bestPlace 19 = .ok (.istore_n 2, 1) := by decide +kernel
theorem dX4_bestPlace_20 : decode cX4_bestPlace 20 = .ok (.iconst 1, 1) := by decide +kernel
theorem dX4_bestPlace_21 : decode cX4_bestPlace 21 = .ok (.istore_n 3, 1) := by decide +kernel
theorem dX4_bestPlace_22 : decode cX4_bestPlace 22 = .ok (.iload_n 3, 1) := by decide +kernel
theorem dX4_bestPlace_23 : decode cX4_bestPlace 23 = .ok (.bipush 16, 2) := by decide +kernel
theorem dX4_bestPlace_25 : decode cX4_bestPlace 25 = .ok (.if_icmp .ge 27, 3) := by decide +kernel
