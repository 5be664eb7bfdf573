set_option maxRecDepth 20000 in
theorem ggL_cross_X4_cross : GoodIn wsL_cross wsX4_cross := goodIn_ca (goodIn_r _ [6, 7, 8, 9, 10, 11, 12, 13, 5, 14, 15, 16, 17, 18, 19, 20, 21, 22, 23, 24, 25, 26, 27, 28, 29, 30, 31, 32, 33, 34, 35, 36, 37, 38, 39, 40, 41, 42, 43, 44, 45, 46, 47, 48, 49, 50, 51, 52, 53, 54, 55, 56, 57, 58, 59, 60, 61, 62, 63, 64, 65, 66, 67, 68, 69, 70, 71, 72, 73, 74, 75, 76, 77, 78, 79, 80, 81, 82, 83, 84, 85, 86, 87, 88, 89, 90, 91, 92, 93, 94, 95, 96, 97, 98, 99, 100, 101, 102, 103, 104, 105] (by decide +kernel) (by decide +kernel)) (goodIn_sub (fun _ h => List.mem_cons_of_mem _ (List.mem_append_right _ h)) (by decide +kernel))
set_option maxRecDepth 20000 in
theorem gL_cross_X4_cross : GoodIn wsL_cross (wsV RL 7 RX4 yX4_cross wsX4_cross) := goodIn_app (goodIn_of _ (by decide +kernel)) ggL_cross_X4_cross
theorem dL_cross_0 : decode cL_cross 0 = .ok (.aload_n 3, 1) := by decide +kernel
theorem dL_cross_1 : decode cL_cross 1 = .ok (.iconst 0, 1) := by decide +kernel
theorem dL_cross_2 : decode cL_cross 2 = .ok (.aload_n 0, 1) := by decide +kernel
theorem dL_cross_3 : decode cL_cross 3 = .ok (.iload_n 1, 1) := by decide +kernel
theorem dL_cross_4 : decode cL_cross 4 = .ok (.iload_n 2, 1) := by decide +kernel
theorem dL_cross_5 : decode cL_cross 5 = .ok (.invokevirtual 7, 3) := by decide +kernel
theorem dL_cross_8 : decode cL_cross 8 = .ok (.i2l, 1) := by decide +kernel
theorem dL_cross_9 : decode cL_cross 9 = .ok (.lastore, 1) := by decide +kernel
theorem dL_cross_10 : decode cL_cross 10 = .ok (.goto 7, 3) := by decide +kernel
theorem dL_cross_13 : decode cL_cross 13 = .ok (.astore 4, 2) := by decide +kernel
theorem dL_cross_15 : decode cL_cross 15 = .ok (.iconst 1, 1) := by decide +kernel
theorem dL_cross_16 : decode cL_cross 16 = .ok (.ireturn, 1) := by decide +kernel
theorem dL_cross_17 : decode cL_cross 17 = .ok (.iconst 0, 1) := by decide +kernel
theorem dL_cross_18 : decode cL_cross 18 = .ok (.ireturn, 1) := by decide +kernel
set_option maxRecDepth 20000 in
theorem ggL_lay_X4_lay : GoodIn wsL_lay wsX4_lay := goodIn_ca (goodIn_ca (goodIn_r _ [7, 8, 9, 10, 11, 12, 13, 14, 15, 6, 16, 17, 18, 19, 20, 21, 22, 23, 24, 25, 26, 27, 28, 29, 30, 31, 32, 33, 34, 35, 36, 37, 38, 39, 40, 41, 42, 43, 44, 45, 46, 47, 48, 49, 50, 51, 52, 53, 54, 55, 56, 57, 58, 59, 60, 61, 62, 63, 64, 65, 66, 67, 68, 69, 70, 71, 72, 73, 74, 75, 76, 77, 78, 79, 80, 81, 82, 83, 84, 85, 86, 87, 88, 89, 90, 91, 92, 93, 94, 95, 96, 97, 98, 99, 100, 101, 102, 103, 104, 105, 106, 107] (by decide +kernel) (by decide +kernel)) (goodIn_sub (fun _ h => List.mem_cons_of_mem _ (List.mem_append_left _ (List.mem_append_right _ h))) (by decide +kernel))) (goodIn_sub (fun _ h => List.mem_cons_of_mem _ (List.mem_append_right _ h)) (by decide +kernel))
set_option maxRecDepth 20000 in
theorem gL_lay_X4_lay : GoodIn wsL_lay (wsV RL 15 RX4 yX4_lay wsX4_lay) := goodIn_app (goodIn_of _ (by decide +kernel)) ggL_lay_X4_lay
theorem dL_lay_0 : decode cL_lay 0 = .ok (.aload_n 3, 1) := by decide +kernel
theorem dL_lay_1 : decode cL_lay 1 = .ok (.iconst 0, 1) := by decide +kernel
theorem dL_lay_2 : decode cL_lay 2 = .ok (.aload_n 0, 1) := by decide +kernel
theorem dL_lay_3 : decode cL_lay 3 = .ok (.iload_n 1, 1) := by decide +kernel
theorem dL_lay_4 : decode cL_lay 4 = .ok (.iload_n 2, 1) := by decide +kernel
theorem dL_lay_5 : decode cL_lay 5 = .ok (.invokevirtual 15, 3) := by decide +kernel
theorem dL_lay_8 : decode cL_lay 8 = .ok (.i2l, 1) := by decide +kernel
theorem dL_lay_9 : decode cL_lay 9 = .ok (.lastore, 1) := by decide +kernel
theorem dL_lay_10 : decode cL_lay 10 = .ok (.goto 11, 3) := by decide +kernel
theorem dL_lay_13 : decode cL_lay 13 = .ok (.astore 4, 2) := by decide +kernel
theorem dL_lay_15 : decode cL_lay 15 = .ok (.iconst 1, 1) := by decide +kernel
theorem dL_lay_16 : decode cL_lay 16 = .ok (.ireturn, 1) := by decide +kernel
theorem dL_lay_17 : decode cL_lay 17 = .ok (.astore 4, 2) := by decide +kernel
theorem dL_lay_19 : decode cL_lay 19 = .ok (.iconst 2, 1) := by decide +kernel
theorem dL_lay_20 : decode cL_lay 20 = .ok (.ireturn, 1) := by decide +kernel
theorem dL_lay_21 : decode cL_lay 21 = .ok (.iconst 0, 1) := by decide +kernel
theorem dL_lay_22 : decode cL_lay 22 = .ok (.ireturn, 1) := by decide +kernel
set_option maxRecDepth 20000 in
theorem ggL_guard_X4_guard : GoodIn wsL_guard wsX4_guard := goodIn_ca (goodIn_r _ [6, 7, 8, 9, 10, 11, 12, 13, 5, 14, 15, 16, 17, 18, 19, 20, 21, 22, 23, 24, 25, 26, 27, 28, 29, 30, 31, 32, 33, 34, 35, 36, 37, 38, 39, 40, 41, 42, 43, 44, 45, 46, 47, 48, 49, 50, 51, 52, 53, 54, 55, 56, 57, 58, 59, 60, 61, 62, 63, 64, 65, 66, 67, 68, 69, 70, 71, 72, 73, 74, 75, 76, 77, 78, 79, 80, 81, 82, 83] (by decide +kernel) (by decide +kernel)) (goodIn_sub (fun _ h => List.mem_cons_of_mem _ (List.mem_append_right _ h)) (by decide +kernel))
set_option maxRecDepth 20000 in
theorem gL_guard_X4_guard : GoodIn wsL_guard (wsV RL 20 RX4 yX4_guard wsX4_guard) := goodIn_app (goodIn_of _ (by decide +kernel)) ggL_guard_X4_guard
theorem dL_guard_0 : decode cL_guard 0 = .ok (.aload_n 2, 1) := by decide +kernel
theorem dL_guard_1 : decode cL_guard 1 = .ok (.iconst 0, 1) := by decide +kernel
theorem dL_guard_2 : decode cL_guard 2 = .ok (.aload_n 0, 1) := by decide +kernel
theorem dL_guard_3 : decode cL_guard 3 = .ok (.iload_n 1, 1) := by decide +kernel
theorem dL_guard_4 : decode cL_guard 4 = .ok (.invokevirtual 20, 3) := by decide +kernel
theorem dL_guard_7 : decode cL_guard 7 = .ok (.i2l, 1) := by decide +kernel
theorem dL_guard_8 : decode cL_guard 8 = .ok (.lastore, 1) := by decide +kernel
theorem dL_guard_9 : decode cL_guard 9 = .ok (.goto 6, 3) := by decide +kernel
theorem dL_guard_12 : decode cL_guard 12 = .ok (.astore_n 3, 1) := by decide +kernel
theorem dL_guard_13 : decode cL_guard 13 = .ok (.iconst 1, 1) := by decide +kernel
theorem dL_guard_14 : decode cL_guard 14 = .ok (.ireturn, 1) := by decide +kernel
theorem dL_guard_15 : decode cL_guard 15 = .ok (.iconst 0, 1) := by decide +kernel
theorem dL_guard_16 : decode cL_guard 16 = .ok (.ireturn, 1) := by decide +kernel
set_option maxRecDepth 20000 in
theorem ggL_change_X4_change : GoodIn wsL_change wsX4_change := goodIn_ca (goodIn_r _ [6, 7, 8, 9, 10, 11, 12, 5, 13, 14, 15, 16, 17, 18, 19, 20, 21, 22, 23, 24, 25, 26, 27, 28, 29, 30, 31, 32, 33, 34, 35, 36, 37, 38, 39, 40, 41, 42, 43, 44, 45, 46, 47, 48, 49, 50, 51, 52, 53, 54, 55, 56, 57, 58, 59, 60, 61, 62, 63, 64, 65, 66, 67, 68, 69, 70, 71, 72, 73, 74, 75, 76, 77, 78, 79, 80, 81, 82, 83, 84, 85, 86, 87, 88, 89, 90, 91, 92, 93, 94, 95, 96] (by decide +kernel) (by decide +kernel)) (goodIn_sub (fun _ h => List.mem_cons_of_mem _ (List.mem_append_right _ h)) (by decide +kernel))
set_option maxRecDepth 20000 in
theorem gL_change_X4_change : GoodIn wsL_change (wsV RL 24 RX4 yX4_change wsX4_change) := goodIn_app (goodIn_of _ (by decide +kernel)) ggL_change_X4_change
theorem dL_change_0 : decode cL_change 0 = .ok (.aload_n 2, 1) := by decide +kernel
theorem dL_change_1 : decode cL_change 1 = .ok (.iconst 0, 1) := by decide +kernel
theorem dL_change_2 : decode cL_change 2 = .ok (.aload_n 0, 1) := by decide +kernel
theorem dL_change_3 : decode cL_change 3 = .ok (.iload_n 1, 1) := by decide +kernel
theorem dL_change_4 : decode cL_change 4 = .ok (.invokevirtual 24, 3) := by decide +kernel
theorem dL_change_7 : decode cL_change 7 = .ok (.i2l, 1) := by decide +kernel
theorem dL_change_8 : decode cL_change 8 = .ok (.lastore, 1) := by decide +kernel
theorem dL_change_9 : decode cL_change 9 = .ok (.goto 6, 3) := by decide +kernel
theorem dL_change_12 : decode cL_change 12 = .ok (.astore_n 3, 1) := by decide +kernel
theorem dL_change_13 : decode cL_change 13 = .ok (.iconst 1, 1) := by decide +kernel
theorem dL_change_14 : decode cL_change 14 = .ok (.ireturn, 1) := by decide +kernel
theorem dL_change_15 : decode cL_change 15 = .ok (.iconst 0, 1) := by decide +kernel
theorem dL_change_16 : decode cL_change 16 = .ok (.ireturn, 1) := by decide +kernel
set_option maxRecDepth 20000 in
theorem ggL_set_X4_set : GoodIn wsL_set wsX4_set := goodIn_ca (goodIn_ca (goodIn_r _ [7, 8, 9, 10, 11, 12, 13, 14, 15, 16, 6, 17, 18, 19, 20, 21, 22, 23, 24, 25, 26, 27, 28, 29, 30, 31, 32, 33, 34, 35, 36, 37, 38, 39, 40, 41, 42, 43, 44, 45, 46, 47, 48, 49, 50, 51, 52, 53, 54, 55, 56, 57, 58, 59, 60, 61, 62, 63, 64, 65, 66, 67, 68, 69, 70, 71, 72, 73, 74, 75, 76, 77, 78, 79, 80, 81, 82, 83] (by decide +kernel) (by decide +kernel)) (goodIn_sub (fun _ h => List.mem_cons_of_mem _ (List.mem_append_left _ (List.mem_append_right _ h))) (by decide +kernel))) (goodIn_sub (fun _ h => List.mem_cons_of_mem _ (List.mem_append_right _ h)) (by decide +kernel))
set_option maxRecDepth 20000 in
theorem gL_set_X4_set : GoodIn wsL_set (wsV RL 27 RX4 yX4_set wsX4_set) := goodIn_app (goodIn_of _ (by decide +kernel)) ggL_set_X4_set
theorem dL_set_0 : decode cL_set 0 = .ok (.aload_n 3, 1) := by decide +kernel
theorem dL_set_1 : decode cL_set 1 = .ok (.iconst 0, 1) := by decide +kernel
theorem dL_set_2 : decode cL_set 2 = .ok (.aload_n 0, 1) := by decide +kernel
theorem dL_set_3 : decode cL_set 3 = .ok (.iload_n 1, 1) := by decide +kernel
theorem dL_set_4 : decode cL_set 4 = .ok (.iload_n 2, 1) := by decide +kernel
theorem dL_set_5 : decode cL_set 5 = .ok (.invokevirtual 27, 3) := by decide +kernel
theorem dL_set_8 : decode cL_set 8 = .ok (.i2l, 1) := by decide +kernel
theorem dL_set_9 : decode cL_set 9 = .ok (.lastore, 1) := by decide +kernel
theorem dL_set_10 : decode cL_set 10 = .ok (.goto 11, 3) := by decide +kernel
theorem dL_set_13 : decode cL_set 13 = .ok (.astore 4, 2) := by decide +kernel
theorem dL_set_15 : decode cL_set 15 = .ok (.iconst 1, 1) := by decide +kernel
theorem dL_set_16 : decode cL_set 16 = .ok (.ireturn, 1) := by decide +kernel
theorem dL_set_17 : decode cL_set 17 = .ok (.astore 4, 2) := by decide +kernel
theorem dL_set_19 : decode cL_set 19 = .ok (.iconst 2, 1) := by decide +kernel
theorem dL_set_20 : decode cL_set 20 = .ok (.ireturn, 1) := by decide +kernel
theorem dL_set_21 : decode cL_set 21 = .ok (.iconst 0, 1) := by decide +kernel
theorem dL_set_22 : decode cL_set 22 = .ok (.ireturn, 1) := by decide +kernel
set_option maxRecDepth 20000 in
theorem ggL_read_X4_read : GoodIn wsL_read wsX4_read := goodIn_ca (goodIn_r _ [6, 7, 8, 9, 10, 11, 12, 5, 13, 14, 15, 16, 17, 18, 19, 20, 21, 22, 23, 24, 25, 26, 27, 28, 29, 30, 31, 32, 33, 34, 35, 36, 37, 38, 39, 40, 41, 42, 43, 44, 45, 46, 47, 48, 49, 50, 51, 52, 53, 54, 55, 56, 57, 58, 59, 60, 61, 62, 63, 64, 65, 66, 67, 68, 69, 70, 71, 72, 73, 74, 75, 76, 77, 78, 79, 80, 81, 82, 83, 84, 85, 86, 87, 88, 89, 90, 91, 92, 93, 94, 95, 96, 97, 98, 99, 100, 101, 102, 103, 104, 105, 106, 107, 108, 109, 110, 111, 112, 113, 114, 115, 116] (by decide +kernel) (by decide +kernel)) (goodIn_sub (fun _ h => List.mem_cons_of_mem _ (List.mem_append_right _ h)) (by decide +kernel))
set_option maxRecDepth 20000 in
theorem gL_read_X4_read : GoodIn wsL_read (wsV RL 30 RX4 yX4_read wsX4_read) := goodIn_app (goodIn_of _ (by decide +kernel)) ggL_read_X4_read
theorem dL_read_0 : decode cL_read 0 = .ok (.aload_n 2, 1) := by decide +kernel
theorem dL_read_1 : decode cL_read 1 = .ok (.iconst 0, 1) := by decide +kernel
theorem dL_read_2 : decode cL_read 2 = .ok (.aload_n 0, 1) := by decide +kernel
theorem dL_read_3 : decode cL_read 3 = .ok (.iload_n 1, 1) := by decide +kernel
theorem dL_read_4 : decode cL_read 4 = .ok (.invokevirtual 30, 3) := by decide +kernel
theorem dL_read_7 : decode cL_read 7 = .ok (.i2l, 1) := by decide +kernel
theorem dL_read_8 : decode cL_read 8 = .ok (.lastore, 1) := by decide +kernel
theorem dL_read_9 : decode cL_read 9 = .ok (.goto 6, 3) := by decide +kernel
theorem dL_read_12 : decode cL_read 12 = .ok (.astore_n 3, 1) := by decide +kernel
theorem dL_read_13 : decode cL_read 13 = .ok (.iconst 1, 1) := by decide +kernel
theorem dL_read_14 : decode cL_read 14 = .ok (.ireturn, 1) := by decide +kernel
theorem dL_read_15 : decode cL_read 15 = .ok (.iconst 0, 1) := by decide +kernel
theorem dL_read_16 : decode cL_read 16 = .ok (.ireturn, 1) := by decide +kernel
set_option maxRecDepth 20000 in
theorem ggL_go_X4_go : GoodIn wsL_go wsX4_go := goodIn_ca (goodIn_r _ [6, 7, 8, 9, 10, 11, 12, 5, 13, 14, 15, 16, 17, 18, 19, 20, 21, 22, 23, 24, 25, 26, 27, 28, 29, 30, 31, 32, 33, 34, 35, 36, 37, 38, 39, 40, 41, 42, 43, 44, 45, 46, 47, 48, 49, 50, 51, 52, 53, 54, 55, 56, 57, 58, 59, 60, 61, 62, 63, 64, 65, 66, 67, 68, 69, 70, 71, 72, 73, 74, 75, 76, 77, 78, 79, 80, 81, 82, 83, 84, 85, 86, 87, 88, 89, 90, 91, 92, 93, 94, 95, 96, 97, 98, 99, 100, 101, 102, 103, 104, 105, 106, 107, 108, 109, 110, 111, 112, 113, 114, 115, 116, 117, 118, 119, 120, 121, 122, 123, 124, 125, 126, 127] (by decide +kernel) (by decide +kernel)) (goodIn_sub (fun _ h => List.mem_cons_of_mem _ (List.mem_append_right _ h)) (by decide +kernel))
set_option maxRecDepth 20000 in
theorem gL_go_X4_go : GoodIn wsL_go (wsV RL 33 RX4 yX4_go wsX4_go) := goodIn_app (goodIn_of _ (by decide +kernel)) ggL_go_X4_go
theorem dL_go_0 : decode cL_go 0 = .ok (.aload_n 2, 1) := by decide +kernel
theorem dL_go_1 : decode cL_go 1 = .ok (.iconst 0, 1) := by decide +kernel
theorem dL_go_2 : decode cL_go 2 = .ok (.aload_n 0, 1) := by decide +kernel
theorem dL_go_3 : decode cL_go 3 = .ok (.iload_n 1, 1) := by decide +kernel
theorem dL_go_4 : decode cL_go 4 = .ok (.invokevirtual 33, 3) := by decide +kernel
theorem dL_go_7 : decode cL_go 7 = .ok (.i2l, 1) := by decide +kernel
theorem dL_go_8 : decode cL_go 8 = .ok (.lastore, 1) := by decide +kernel
theorem dL_go_9 : decode cL_go 9 = .ok (.goto 6, 3) := by decide +kernel
theorem dL_go_12 : decode cL_go 12 = .ok (.astore_n 3, 1) := by decide +kernel
theorem dL_go_13 : decode cL_go 13 = .ok (.iconst 1, 1) := by decide +kernel
theorem dL_go_14 : decode cL_go 14 = .ok (.ireturn, 1) := by decide +kernel
theorem dL_go_15 : decode cL_go 15 = .ok (.iconst 0, 1) := by decide +kernel
theorem dL_go_16 : decode cL_go 16 = .ok (.ireturn, 1) := by decide +kernel
set_option maxRecDepth 20000 in
theorem ggL_append_X4_append : GoodIn wsL_append wsX4_append := goodIn_ca (goodIn_ca (goodIn_r _ [7, 8, 9, 10, 11, 12, 13, 14, 15, 6, 16, 17, 18, 19, 20, 21, 22, 23, 24, 25, 26, 27, 28, 29, 30, 31, 32, 33, 34, 35] (by decide +kernel) (by decide +kernel)) (goodIn_sub (fun _ h => List.mem_cons_of_mem _ (List.mem_append_left _ (List.mem_append_right _ h))) (by decide +kernel))) (goodIn_sub (fun _ h => List.mem_cons_of_mem _ (List.mem_append_right _ h)) (by decide +kernel))
set_option maxRecDepth 20000 in
theorem gL_append_X4_append : GoodIn wsL_append (wsV RL 36 RX4 yX4_append wsX4_append) := goodIn_app (goodIn_of _ (by decide +kernel)) ggL_append_X4_append
theorem dL_append_0 : decode cL_append 0 = .ok (.aload_n 2, 1) := by decide +kernel
theorem dL_append_1 : decode cL_append 1 = .ok (.iconst 0, 1) := by decide +kernel
theorem dL_append_2 : decode cL_append 2 = .ok (.aload_n 0, 1) := by decide +kernel
theorem dL_append_3 : decode cL_append 3 = .ok (.iload_n 1, 1) := by decide +kernel
theorem dL_append_4 : decode cL_append 4 = .ok (.invokevirtual 36, 3) := by decide +kernel
theorem dL_append_7 : decode cL_append 7 = .ok (.i2l, 1) := by decide +kernel
theorem dL_append_8 : decode cL_append 8 = .ok (.lastore, 1) := by decide +kernel
theorem dL_append_9 : decode cL_append 9 = .ok (.goto 9, 3) := by decide +kernel
theorem dL_append_12 : decode cL_append 12 = .ok (.astore_n 3, 1) := by decide +kernel
theorem dL_append_13 : decode cL_append 13 = .ok (.iconst 1, 1) := by decide +kernel
theorem dL_append_14 : decode cL_append 14 = .ok (.ireturn, 1) := by decide +kernel
theorem dL_append_15 : decode cL_append 15 = .ok (.astore_n 3, 1) := by decide +kernel
theorem dL_append_16 : decode cL_append 16 = .ok (.iconst 2, 1) := by decide +kernel
theorem dL_append_17 : decode cL_append 17 = .ok (.ireturn, 1) := by decide +kernel
theorem dL_append_18 : decode cL_append 18 = .ok (.iconst 0, 1) := by decide +kernel
theorem dL_append_19 : decode cL_append 19 = .ok (.ireturn, 1) := by decide +kernel
set_option maxRecDepth 20000 in
theorem ggL_load_X4_load : GoodIn wsL_load wsX4_load := goodIn_ca (goodIn_ca (goodIn_r _ [7, 8, 9, 10, 11, 12, 13, 14, 15, 16, 17, 18, 19, 6, 20, 21, 22, 23, 24, 25, 26, 27, 28, 29, 30, 31, 32, 33, 34, 35, 36, 37, 38, 39, 40, 41, 42, 43, 44, 45, 46, 47, 48, 49, 50, 51, 52, 53, 54, 55, 56, 57, 58, 59, 60, 61, 62, 63, 64, 65, 66, 67, 68, 69, 70, 71, 72, 73, 74, 75, 76, 77, 78, 79, 80, 81, 82, 83, 84, 85, 86, 87, 88, 89, 90, 91, 92, 93, 94, 95, 96, 97, 98, 99, 100, 101, 102, 103, 104, 105, 106, 107, 108, 109, 110, 111, 112, 113, 114, 115, 116, 117, 118, 119, 120, 121, 122, 123, 124, 125, 126, 127, 128, 129, 130, 131, 132, 133, 134, 135, 136, 137] (by decide +kernel) (by decide +kernel)) (goodIn_sub (fun _ h => List.mem_cons_of_mem _ (List.mem_append_left _ (List.mem_append_right _ h))) (by decide +kernel))) (goodIn_sub (fun _ h => List.mem_cons_of_mem _ (List.mem_append_right _ h)) (by decide +kernel))
set_option maxRecDepth 20000 in
theorem gL_load_X4_load : GoodIn wsL_load (wsV RL 41 RX4 yX4_load wsX4_load) := goodIn_app (goodIn_of _ (by decide +kernel)) ggL_load_X4_load
theorem dL_load_0 : decode cL_load 0 = .ok (.aload_n 2, 1) := by decide +kernel
theorem dL_load_1 : decode cL_load 1 = .ok (.iconst 0, 1) := by decide +kernel
theorem dL_load_2 : decode cL_load 2 = .ok (.aload_n 0, 1) := by decide +kernel
theorem dL_load_3 : decode cL_load 3 = .ok (.iload_n 1, 1) := by decide +kernel
theorem dL_load_4 : decode cL_load 4 = .ok (.invokevirtual 41, 3) := by decide +kernel
theorem dL_load_7 : decode cL_load 7 = .ok (.i2l, 1) := by decide +kernel
theorem dL_load_8 : decode cL_load 8 = .ok (.lastore, 1) := by decide +kernel
theorem dL_load_9 : decode cL_load 9 = .ok (.goto 9, 3) := by decide +kernel
theorem dL_load_12 : decode cL_load 12 = .ok (.astore_n 3, 1) := by decide +kernel
theorem dL_load_13 : decode cL_load 13 = .ok (.iconst 1, 1) := by decide +kernel
theorem dL_load_14 : decode cL_load 14 = .ok (.ireturn, 1) := by decide +kernel
theorem dL_load_15 : decode cL_load 15 = .ok (.astore_n 3, 1) := by decide +kernel
theorem dL_load_16 : decode cL_load 16 = .ok (.iconst 2, 1) := by decide +kernel
theorem dL_load_17 : decode cL_load 17 = .ok (.ireturn, 1) := by decide +kernel
theorem dL_load_18 : decode cL_load 18 = .ok (.iconst 0, 1) := by decide +kernel
theorem dL_load_19 : decode cL_load 19 = .ok (.ireturn, 1) := by decide +kernel
set_option maxRecDepth 20000 in
theorem ggL_write_X4_write : GoodIn wsL_write wsX4_write := goodIn_ca (goodIn_r _ [6, 7, 8, 9, 10, 11, 12, 13, 5, 14, 15, 16, 17, 18, 19, 20, 21, 22, 23, 24, 25, 26, 27, 28, 29, 30, 31, 32, 33, 34, 35, 36, 37, 38, 39, 40, 41, 42, 43, 44, 45, 46, 47, 48, 49, 50, 51, 52, 53, 54, 55, 56, 57, 58, 59, 60, 61, 62, 63, 64, 65, 66, 67, 68, 69, 70, 71, 72, 73, 74, 75, 76, 77, 78, 79, 80, 81, 82] (by decide +kernel) (by decide +kernel)) (goodIn_sub (fun _ h => List.mem_cons_of_mem _ (List.mem_append_right _ h)) (by decide +kernel))
set_option maxRecDepth 20000 in
theorem gL_write_X4_write : GoodIn wsL_write (wsV RL 44 RX4 yX4_write wsX4_write) := goodIn_app (goodIn_of _ (by decide +kernel)) ggL_write_X4_write
theorem dL_write_0 : decode cL_write 0 = .ok (.aload_n 3, 1) := by decide +kernel
theorem dL_write_1 : decode cL_write 1 = .ok (.iconst 0, 1) := by decide +kernel
theorem dL_write_2 : decode cL_write 2 = .ok (.aload_n 0, 1) := by decide +kernel
theorem dL_write_3 : decode cL_write 3 = .ok (.iload_n 1, 1) := by decide +kernel
theorem dL_write_4 : decode cL_write 4 = .ok (.iload_n 2, 1) := by decide +kernel
theorem dL_write_5 : decode cL_write 5 = .ok (.invokevirtual 44, 3) := by decide +kernel
theorem dL_write_8 : decode cL_write 8 = .ok (.i2l, 1) := by decide +kernel
theorem dL_write_9 : decode cL_write 9 = .ok (.lastore, 1) := by decide +kernel
theorem dL_write_10 : decode cL_write 10 = .ok (.goto 7, 3) := by decide +kernel
theorem dL_write_13 : decode cL_write 13 = .ok (.astore 4, 2) := by decide +kernel
theorem dL_write_15 : decode cL_write 15 = .ok (.iconst 1, 1) := by decide +kernel
theorem dL_write_16 : decode cL_write 16 = .ok (.ireturn, 1) := by decide +kernel
theorem dL_write_17 : decode cL_write 17 = .ok (.iconst 0, 1) := by decide +kernel
theorem dL_write_18 : decode cL_write 18 = .ok (.ireturn, 1) := by decide +kernel
set_option maxRecDepth 20000 in
theorem ggL_keep_X4_keep : GoodIn wsL_keep wsX4_keep := goodIn_ca (goodIn_r _ [6, 7, 8, 9, 10, 11, 12, 13, 5, 14, 15, 16, 17, 18, 19, 20, 21, 22, 23, 24, 25, 26, 27, 28, 29, 30, 31, 32, 33, 34, 35, 36, 37, 38, 39, 40, 41, 42, 43, 44, 45, 46, 47, 48, 49, 50, 51, 52, 53, 54, 55, 56, 57, 58, 59, 60, 61, 62, 63, 64, 65, 66, 67, 68, 69, 70, 71, 72, 73, 74, 75, 76, 77, 78, 79, 80] (by decide +kernel) (by decide +kernel)) (goodIn_sub (fun _ h => List.mem_cons_of_mem _ (List.mem_append_right _ h)) (by decide +kernel))
set_option maxRecDepth 20000 in
theorem gL_keep_X4_keep : GoodIn wsL_keep (wsV RL 47 RX4 yX4_keep wsX4_keep) := goodIn_app (goodIn_of _ (by decide +kernel)) ggL_keep_X4_keep
theorem dL_keep_0 : decode cL_keep 0 = .ok (.aload_n 2, 1) := by decide +kernel
theorem dL_keep_1 : decode cL_keep 1 = .ok (.iconst 0, 1) := by decide +kernel
theorem dL_keep_2 : decode cL_keep 2 = .ok (.aload_n 0, 1) := by decide +kernel
theorem dL_keep_3 : decode cL_keep 3 = .ok (.iload_n 1, 1) := by decide +kernel
theorem dL_keep_4 : decode cL_keep 4 = .ok (.invokevirtual 47, 3) := by decide +kernel
theorem dL_keep_7 : decode cL_keep 7 = .ok (.i2l, 1) := by decide +kernel
theorem dL_keep_8 : decode cL_keep 8 = .ok (.lastore, 1) := by decide +kernel
theorem dL_keep_9 : decode cL_keep 9 = .ok (.goto 6, 3) := by decide +kernel
theorem dL_keep_12 : decode cL_keep 12 = .ok (.astore_n 3, 1) := by decide +kernel
theorem dL_keep_13 : decode cL_keep 13 = .ok (.iconst 1, 1) := by decide +kernel
theorem dL_keep_14 : decode cL_keep 14 = .ok (.ireturn, 1) := by decide +kernel
theorem dL_keep_15 : decode cL_keep 15 = .ok (.iconst 0, 1) := by decide +kernel
theorem dL_keep_16 : decode cL_keep 16 = .ok (.ireturn, 1) := by decide +kernel
set_option maxRecDepth 20000 in
theorem ggL_goBack_X4_goBack : GoodIn wsL_goBack wsX4_goBack := goodIn_ca (goodIn_ca (goodIn_r _ [7, 8, 9, 10, 11, 12, 13, 14, 15, 16, 17, 6, 18, 19, 20, 21, 22, 23, 24, 25, 26, 27, 28, 29, 30, 31, 32, 33, 34, 35, 36, 37, 38, 39, 40, 41, 42, 43, 44, 45, 46, 47, 48, 49, 50, 51, 52, 53, 54, 55, 56, 57, 58, 59, 60, 61, 62, 63, 64, 65, 66, 67, 68, 69, 70, 71, 72, 73, 74, 75, 76, 77, 78, 79, 80, 81, 82, 83, 84, 85, 86, 87, 88, 89, 90, 91, 92, 93, 94, 95, 96] (by decide +kernel) (by decide +kernel)) (goodIn_sub (fun _ h => List.mem_cons_of_mem _ (List.mem_append_left _ (List.mem_append_right _ h))) (by decide +kernel))) (goodIn_sub (fun _ h => List.mem_cons_of_mem _ (List.mem_append_right _ h)) (by decide +kernel))
set_option maxRecDepth 20000 in
theorem gL_goBack_X4_goBack : GoodIn wsL_goBack (wsV RL 50 RX4 yX4_goBack wsX4_goBack) := goodIn_app (goodIn_of _ (by decide +kernel)) ggL_goBack_X4_goBack
theorem dL_goBack_0 : decode cL_goBack 0 = .ok (.aload_n 2, 1) := by decide +kernel
theorem dL_goBack_1 : decode cL_goBack 1 = .ok (.iconst 0, 1) := by decide +kernel
theorem dL_goBack_2 : decode cL_goBack 2 = .ok (.aload_n 0, 1) := by decide +kernel
theorem dL_goBack_3 : decode cL_goBack 3 = .ok (.iload_n 1, 1) := by decide +kernel
theorem dL_goBack_4 : decode cL_goBack 4 = .ok (.invokevirtual 50, 3) := by decide +kernel
theorem dL_goBack_7 : decode cL_goBack 7 = .ok (.i2l, 1) := by decide +kernel
theorem dL_goBack_8 : decode cL_goBack 8 = .ok (.lastore, 1) := by decide +kernel
theorem dL_goBack_9 : decode cL_goBack 9 = .ok (.goto 9, 3) := by decide +kernel
theorem dL_goBack_12 : decode cL_goBack 12 = .ok (.astore_n 3, 1) := by decide +kernel
theorem dL_goBack_13 : decode cL_goBack 13 = .ok (.iconst 1, 1) := by decide +kernel
theorem dL_goBack_14 : decode cL_goBack 14 = .ok (.ireturn, 1) := by decide +kernel
theorem dL_goBack_15 : decode cL_goBack 15 = .ok (.astore_n 3, 1) := by decide +kernel
theorem dL_goBack_16 : decode cL_goBack 16 = .ok (.iconst 2, 1) := by decide +kernel
theorem dL_goBack_17 : decode cL_goBack 17 = .ok (.ireturn, 1) := by decide +kernel
theorem dL_goBack_18 : decode cL_goBack 18 = .ok (.iconst 0, 1) := by decide +kernel
theorem dL_goBack_19 : decode cL_goBack 19 = .ok (.ireturn, 1) := by decide +kernel
set_option maxRecDepth 20000 in
theorem ggL_undo_X4_undo : GoodIn wsL_undo wsX4_undo := goodIn_ca (goodIn_r _ [6, 7, 8, 9, 10, 11, 12, 13, 14, 15, 16, 17, 18, 19, 20, 21, 22, 23, 24, 25, 26, 27, 28, 29, 30, 31, 32, 33, 34, 35, 36, 37, 38, 39, 40, 41, 42, 43, 44, 45, 46, 47, 48, 49, 50, 51, 52, 53, 54, 55, 56, 57, 58, 59, 60, 61, 62, 63, 64, 65, 66, 67, 68, 69, 70, 71, 72, 73, 74] (by decide +kernel) (by decide +kernel)) (goodIn_sub (fun _ h => List.mem_cons_of_mem _ (List.mem_append_right _ h)) (by decide +kernel))
set_option maxRecDepth 20000 in
theorem gL_undo_X4_undo : GoodIn wsL_undo (wsV RL 53 RX4 yX4_undo wsX4_undo) := goodIn_app (goodIn_of _ (by decide +kernel)) ggL_undo_X4_undo
theorem dL_undo_0 : decode cL_undo 0 = .ok (.aload_n 1, 1) := by decide +kernel
theorem dL_undo_1 : decode cL_undo 1 = .ok (.iconst 0, 1) := by decide +kernel
theorem dL_undo_2 : decode cL_undo 2 = .ok (.aload_n 0, 1) := by decide +kernel
theorem dL_undo_3 : decode cL_undo 3 = .ok (.invokevirtual 53, 3) := by decide +kernel
theorem dL_undo_6 : decode cL_undo 6 = .ok (.i2l, 1) := by decide +kernel
theorem dL_undo_7 : decode cL_undo 7 = .ok (.lastore, 1) := by decide +kernel
theorem dL_undo_8 : decode cL_undo 8 = .ok (.goto 6, 3) := by decide +kernel
theorem dL_undo_11 : decode cL_undo 11 = .ok (.astore_n 2, 1) := by decide +kernel
theorem dL_undo_12 : decode cL_undo 12 = .ok (.iconst 1, 1) := by decide +kernel
theorem dL_undo_13 : decode cL_undo 13 = .ok (.ireturn, 1) := by decide +kernel
theorem dL_undo_14 : decode cL_undo 14 = .ok (.iconst 0, 1) := by decide +kernel
theorem dL_undo_15 : decode cL_undo 15 = .ok (.ireturn, 1) := by decide +kernel
set_option maxRecDepth 20000 in
theorem ggL_threadOf_X4_threadOf : GoodIn wsL_threadOf wsX4_threadOf := goodIn_ca (goodIn_ca (goodIn_r _ [7, 8, 9, 10, 11, 12, 13, 14, 15, 16, 17, 6, 18, 19, 20, 21, 22, 23, 24, 25, 26, 27, 28, 29, 30, 31, 32, 33, 34, 35, 36, 37, 38, 39, 40, 41, 42, 43, 44, 45, 46, 47, 48, 49, 50, 51, 52, 53, 54, 55, 56, 57, 58, 59, 60, 61, 62, 63, 64, 65, 66, 67, 68, 69, 70, 71, 72, 73, 74, 75, 76, 77, 78, 79, 80] (by decide +kernel) (by decide +kernel)) (goodIn_sub (fun _ h => List.mem_cons_of_mem _ (List.mem_append_left _ (List.mem_append_right _ h))) (by decide +kernel))) (goodIn_sub (fun _ h => List.mem_cons_of_mem _ (List.mem_append_right _ h)) (by decide +kernel))
set_option maxRecDepth 20000 in
theorem gL_threadOf_X4_threadOf : GoodIn wsL_threadOf (wsV RL 57 RX4 yX4_threadOf wsX4_threadOf) := goodIn_app (goodIn_of _ (by decide +kernel)) ggL_threadOf_X4_threadOf
theorem dL_threadOf_0 : decode cL_threadOf 0 = .ok (.aload_n 3, 1) := by decide +kernel
theorem dL_threadOf_1 : decode cL_threadOf 1 = .ok (.iconst 0, 1) := by decide +kernel
theorem dL_threadOf_2 : decode cL_threadOf 2 = .ok (.aload_n 0, 1) := by decide +kernel
theorem dL_threadOf_3 : decode cL_threadOf 3 = .ok (.iload_n 1, 1) := by decide +kernel
theorem dL_threadOf_4 : decode cL_threadOf 4 = .ok (.iload_n 2, 1) := by decide +kernel
theorem dL_threadOf_5 : decode cL_threadOf 5 = .ok (.invokevirtual 57, 3) := by decide +kernel
theorem dL_threadOf_8 : decode cL_threadOf 8 = .ok (.i2l, 1) := by decide +kernel
theorem dL_threadOf_9 : decode cL_threadOf 9 = .ok (.lastore, 1) := by decide +kernel
theorem dL_threadOf_10 : decode cL_threadOf 10 = .ok (.goto 11, 3) := by decide +kernel
theorem dL_threadOf_13 : decode cL_threadOf 13 = .ok (.astore 4, 2) := by decide +kernel
theorem dL_threadOf_15 : decode cL_threadOf 15 = .ok (.iconst 1, 1) := by decide +kernel
theorem dL_threadOf_16 : decode cL_threadOf 16 = .ok (.ireturn, 1) := by decide +kernel
theorem dL_threadOf_17 : decode cL_threadOf 17 = .ok (.astore 4, 2) := by decide +kernel
theorem dL_threadOf_19 : decode cL_threadOf 19 = .ok (.iconst 2, 1) := by decide +kernel
theorem dL_threadOf_20 : decode cL_threadOf 20 = .ok (.ireturn, 1) := by decide +kernel
theorem dL_threadOf_21 : decode cL_threadOf 21 = .ok (.iconst 0, 1) := by decide +kernel
theorem dL_threadOf_22 : decode cL_threadOf 22 = .ok (.ireturn, 1) := by decide +kernel
set_option maxRecDepth 20000 in
theorem ggL_ringOf_X4_ringOf : GoodIn wsL_ringOf wsX4_ringOf := goodIn_ca (goodIn_ca (goodIn_r _ [7, 8, 9, 10, 11, 12, 13, 14, 15, 6, 16, 17, 18, 19, 20, 21, 22, 23, 24, 25, 26, 27, 28, 29, 30, 31, 32, 33, 34, 35, 36, 37, 38, 39, 40, 41, 42, 43, 44, 45, 46, 47, 48, 49, 50, 51, 52, 53, 54, 55, 56, 57, 58, 59, 60, 61, 62, 63, 64, 65, 66, 67, 68, 69, 70, 71, 72, 73, 74, 75, 76, 77] (by decide +kernel) (by decide +kernel)) (goodIn_sub (fun _ h => List.mem_cons_of_mem _ (List.mem_append_left _ (List.mem_append_right _ h))) (by decide +kernel))) (goodIn_sub (fun _ h => List.mem_cons_of_mem _ (List.mem_append_right _ h)) (by decide +kernel))
set_option maxRecDepth 20000 in
theorem gL_ringOf_X4_ringOf : GoodIn wsL_ringOf (wsV RL 60 RX4 yX4_ringOf wsX4_ringOf) := goodIn_app (goodIn_of _ (by decide +kernel)) ggL_ringOf_X4_ringOf
theorem dL_ringOf_0 : decode cL_ringOf 0 = .ok (.aload_n 3, 1) := by decide +kernel
theorem dL_ringOf_1 : decode cL_ringOf 1 = .ok (.iconst 0, 1) := by decide +kernel
theorem dL_ringOf_2 : decode cL_ringOf 2 = .ok (.aload_n 0, 1) := by decide +kernel
theorem dL_ringOf_3 : decode cL_ringOf 3 = .ok (.iload_n 1, 1) := by decide +kernel
theorem dL_ringOf_4 : decode cL_ringOf 4 = .ok (.iload_n 2, 1) := by decide +kernel
theorem dL_ringOf_5 : decode cL_ringOf 5 = .ok (.invokevirtual 60, 3) := by decide +kernel
theorem dL_ringOf_8 : decode cL_ringOf 8 = .ok (.i2l, 1) := by decide +kernel
theorem dL_ringOf_9 : decode cL_ringOf 9 = .ok (.lastore, 1) := by decide +kernel
theorem dL_ringOf_10 : decode cL_ringOf 10 = .ok (.goto 11, 3) := by decide +kernel
theorem dL_ringOf_13 : decode cL_ringOf 13 = .ok (.astore 4, 2) := by decide +kernel
theorem dL_ringOf_15 : decode cL_ringOf 15 = .ok (.iconst 1, 1) := by decide +kernel
theorem dL_ringOf_16 : decode cL_ringOf 16 = .ok (.ireturn, 1) := by decide +kernel
theorem dL_ringOf_17 : decode cL_ringOf 17 = .ok (.astore 4, 2) := by decide +kernel
theorem dL_ringOf_19 : decode cL_ringOf 19 = .ok (.iconst 2, 1) := by decide +kernel
theorem dL_ringOf_20 : decode cL_ringOf 20 = .ok (.ireturn, 1) := by decide +kernel
theorem dL_ringOf_21 : decode cL_ringOf 21 = .ok (.iconst 0, 1) := by decide +kernel
theorem dL_ringOf_22 : decode cL_ringOf 22 = .ok (.ireturn, 1) := by decide +kernel
set_option maxRecDepth 20000 in
theorem ggL_strength_X4_strength : GoodIn wsL_strength wsX4_strength := goodIn_ca (goodIn_ca (goodIn_r _ [7, 8, 9, 10, 11, 12, 13, 14, 6, 15, 16, 17, 18, 19, 20, 21, 22, 23, 24, 25, 26, 27, 28, 29, 30, 31, 32, 33, 34, 35, 36, 37, 38, 39, 40, 41, 42, 43, 44, 45, 46, 47, 48, 49, 50, 51, 52, 53, 54, 55, 56, 57, 58] (by decide +kernel) (by decide +kernel)) (goodIn_sub (fun _ h => List.mem_cons_of_mem _ (List.mem_append_left _ (List.mem_append_right _ h))) (by decide +kernel))) (goodIn_sub (fun _ h => List.mem_cons_of_mem _ (List.mem_append_right _ h)) (by decide +kernel))
set_option maxRecDepth 20000 in
theorem gL_strength_X4_strength : GoodIn wsL_strength (wsV RL 63 RX4 yX4_strength wsX4_strength) := goodIn_app (goodIn_of _ (by decide +kernel)) ggL_strength_X4_strength
theorem dL_strength_0 : decode cL_strength 0 = .ok (.aload 4, 2) := by decide +kernel
theorem dL_strength_2 : decode cL_strength 2 = .ok (.iconst 0, 1) := by decide +kernel
theorem dL_strength_3 : decode cL_strength 3 = .ok (.aload_n 0, 1) := by decide +kernel
theorem dL_strength_4 : decode cL_strength 4 = .ok (.iload_n 1, 1) := by decide +kernel
theorem dL_strength_5 : decode cL_strength 5 = .ok (.iload_n 2, 1) := by decide +kernel
theorem dL_strength_6 : decode cL_strength 6 = .ok (.iload_n 3, 1) := by decide +kernel
theorem dL_strength_7 : decode cL_strength 7 = .ok (.invokevirtual 63, 3) := by decide +kernel
theorem dL_strength_10 : decode cL_strength 10 = .ok (.i2l, 1) := by decide +kernel
theorem dL_strength_11 : decode cL_strength 11 = .ok (.lastore, 1) := by decide +kernel
theorem dL_strength_12 : decode cL_strength 12 = .ok (.goto 11, 3) := by decide +kernel
theorem dL_strength_15 : decode cL_strength 15 = .ok (.astore 5, 2) := by decide +kernel
theorem dL_strength_17 : decode cL_strength 17 = .ok (.iconst 1, 1) := by decide +kernel
theorem dL_strength_18 : decode cL_strength 18 = .ok (.ireturn, 1) := by decide +kernel
theorem dL_strength_19 : decode cL_strength 19 = .ok (.astore 5, 2) := by decide +kernel
theorem dL_strength_21 : decode cL_strength 21 = .ok (.iconst 2, 1) := by decide +kernel
theorem dL_strength_22 : decode cL_strength 22 = .ok (.ireturn, 1) := by decide +kernel
theorem dL_strength_23 : decode cL_strength 23 = .ok (.iconst 0, 1) := by decide +kernel
theorem dL_strength_24 : decode cL_strength 24 = .ok (.ireturn, 1) := by decide +kernel
set_option maxRecDepth 20000 in
theorem ggL_machine_X4_machine : GoodIn wsL_machine wsX4_machine := goodIn_ca (goodIn_r _ [6, 7, 8, 9, 10, 11, 12, 13, 14, 15, 16, 17, 18, 19, 20, 21, 22, 23, 24, 25, 26, 27, 28, 29, 30, 31, 32, 33, 34, 35, 36, 37, 38] (by decide +kernel) (by decide +kernel)) (goodIn_sub (fun _ h => List.mem_cons_of_mem _ (List.mem_append_right _ h)) (by decide +kernel))
set_option maxRecDepth 20000 in
theorem gL_machine_X4_machine : GoodIn wsL_machine (wsV RL 67 RX4 yX4_machine wsX4_machine) := goodIn_app (goodIn_of _ (by decide +kernel)) ggL_machine_X4_machine
theorem dL_machine_0 : decode cL_machine 0 = .ok (.aload_n 2, 1) := by decide +kernel
theorem dL_machine_1 : decode cL_machine 1 = .ok (.iconst 0, 1) := by decide +kernel
theorem dL_machine_2 : decode cL_machine 2 = .ok (.aload_n 0, 1) := by decide +kernel
theorem dL_machine_3 : decode cL_machine 3 = .ok (.iload_n 1, 1) := by decide +kernel
theorem dL_machine_4 : decode cL_machine 4 = .ok (.invokevirtual 67, 3) := by decide +kernel
theorem dL_machine_7 : decode cL_machine 7 = .ok (.i2l, 1) := by decide +kernel
theorem dL_machine_8 : decode cL_machine 8 = .ok (.lastore, 1) := by decide +kernel
theorem dL_machine_9 : decode cL_machine 9 = .ok (.goto 6, 3) := by decide +kernel
theorem dL_machine_12 : decode cL_machine 12 = .ok (.astore_n 3, 1) := by decide +kernel
theorem dL_machine_13 : decode cL_machine 13 = .ok (.iconst 1, 1) := by decide +kernel
theorem dL_machine_14 : decode cL_machine 14 = .ok (.ireturn, 1) := by decide +kernel
theorem dL_machine_15 : decode cL_machine 15 = .ok (.iconst 0, 1) := by decide +kernel
theorem dL_machine_16 : decode cL_machine 16 = .ok (.ireturn, 1) := by decide +kernel
set_option maxRecDepth 20000 in
theorem ggL_told_X4_told : GoodIn wsL_told wsX4_told := goodIn_ca (goodIn_r _ [6, 7, 8, 9, 10, 11, 12, 13, 5, 14, 15, 16, 17, 18, 19, 20, 21, 22, 23, 24, 25, 26, 27, 28, 29, 30, 31, 32, 33, 34, 35, 36] (by decide +kernel) (by decide +kernel)) (goodIn_sub (fun _ h => List.mem_cons_of_mem _ (List.mem_append_right _ h)) (by decide +kernel))
set_option maxRecDepth 20000 in
theorem gL_told_X4_told : GoodIn wsL_told (wsV RL 70 RX4 yX4_told wsX4_told) := goodIn_app (goodIn_of _ (by decide +kernel)) ggL_told_X4_told
theorem dL_told_0 : decode cL_told 0 = .ok (.aload_n 2, 1) := by decide +kernel
theorem dL_told_1 : decode cL_told 1 = .ok (.iconst 0, 1) := by decide +kernel
theorem dL_told_2 : decode cL_told 2 = .ok (.aload_n 0, 1) := by decide +kernel
theorem dL_told_3 : decode cL_told 3 = .ok (.iload_n 1, 1) := by decide +kernel
theorem dL_told_4 : decode cL_told 4 = .ok (.invokevirtual 70, 3) := by decide +kernel
theorem dL_told_7 : decode cL_told 7 = .ok (.i2l, 1) := by decide +kernel
theorem dL_told_8 : decode cL_told 8 = .ok (.lastore, 1) := by decide +kernel
theorem dL_told_9 : decode cL_told 9 = .ok (.goto 6, 3) := by decide +kernel
theorem dL_told_12 : decode cL_told 12 = .ok (.astore_n 3, 1) := by decide +kernel
theorem dL_told_13 : decode cL_told 13 = .ok (.iconst 1, 1) := by decide +kernel
theorem dL_told_14 : decode cL_told 14 = .ok (.ireturn, 1) := by decide +kernel
theorem dL_told_15 : decode cL_told 15 = .ok (.iconst 0, 1) := by decide +kernel
theorem dL_told_16 : decode cL_told 16 = .ok (.ireturn, 1) := by decide +kernel
set_option maxRecDepth 20000 in
theorem ggL_count_X4_count : GoodIn wsL_count wsX4_count := goodIn_ca (goodIn_r _ [6, 7, 8, 9, 10, 11, 12, 13, 14, 15, 16, 17, 18, 19, 20, 21, 22, 23, 24, 25, 26, 27, 28, 29, 30, 31, 32, 33, 34, 35, 36, 5, 37, 38, 39, 40, 41, 42, 43, 44, 45, 46, 47, 48, 49, 50, 51, 52, 53, 54, 55, 56, 57, 58, 59, 60, 61, 62, 63, 64, 65, 66, 67, 68, 69, 70, 71, 72, 73, 74, 75, 76, 77, 78, 79, 80, 81, 82, 83, 84, 85, 86, 87, 88, 89, 90, 91, 92, 93, 94, 95, 96, 97, 98, 99, 100, 101, 102, 103] (by decide +kernel) (by decide +kernel)) (goodIn_sub (fun _ h => List.mem_cons_of_mem _ (List.mem_append_right _ h)) (by decide +kernel))
set_option maxRecDepth 20000 in
theorem gL_count_X4_count : GoodIn wsL_count (wsV RL 73 RX4 yX4_count wsX4_count) := goodIn_app (goodIn_of _ (by decide +kernel)) ggL_count_X4_count
theorem dL_count_0 : decode cL_count 0 = .ok (.aload_n 2, 1) := by decide +kernel
theorem dL_count_1 : decode cL_count 1 = .ok (.iconst 0, 1) := by decide +kernel
theorem dL_count_2 : decode cL_count 2 = .ok (.aload_n 0, 1) := by decide +kernel
theorem dL_count_3 : decode cL_count 3 = .ok (.iload_n 1, 1) := by decide +kernel
theorem dL_count_4 : decode cL_count 4 = .ok (.invokevirtual 73, 3) := by decide +kernel
theorem dL_count_7 : decode cL_count 7 = .ok (.i2l, 1) := by decide +kernel
theorem dL_count_8 : decode cL_count 8 = .ok (.lastore, 1) := by decide +kernel
theorem dL_count_9 : decode cL_count 9 = .ok (.goto 6, 3) := by decide +kernel
theorem dL_count_12 : decode cL_count 12 = .ok (.astore_n 3, 1) := by decide +kernel
theorem dL_count_13 : decode cL_count 13 = .ok (.iconst 1, 1) := by decide +kernel
theorem dL_count_14 : decode cL_count 14 = .ok (.ireturn, 1) := by decide +kernel
theorem dL_count_15 : decode cL_count 15 = .ok (.iconst 0, 1) := by decide +kernel
theorem dL_count_16 : decode cL_count 16 = .ok (.ireturn, 1) := by decide +kernel
set_option maxRecDepth 20000 in
theorem ggL_setting_X4_setting : GoodIn wsL_setting wsX4_setting := goodIn_ca (goodIn_r _ [6, 7, 8, 9, 10, 11, 12, 5, 13, 14, 15, 16, 17, 18, 19, 20, 21, 22, 23, 24, 25, 26, 27, 28, 29, 30, 31] (by decide +kernel) (by decide +kernel)) (goodIn_sub (fun _ h => List.mem_cons_of_mem _ (List.mem_append_right _ h)) (by decide +kernel))
set_option maxRecDepth 20000 in
theorem gL_setting_X4_setting : GoodIn wsL_setting (wsV RL 76 RX4 yX4_setting wsX4_setting) := goodIn_app (goodIn_of _ (by decide +kernel)) ggL_setting_X4_setting
theorem dL_setting_0 : decode cL_setting 0 = .ok (.aload_n 2, 1) := by decide +kernel
theorem dL_setting_1 : decode cL_setting 1 = .ok (.iconst 0, 1) := by decide +kernel
theorem dL_setting_2 : decode cL_setting 2 = .ok (.aload_n 0, 1) := by decide +kernel
theorem dL_setting_3 : decode cL_setting 3 = .ok (.iload_n 1, 1) := by decide +kernel
theorem dL_setting_4 : decode cL_setting 4 = .ok (.invokevirtual 76, 3) := by decide +kernel
theorem dL_setting_7 : decode cL_setting 7 = .ok (.i2l, 1) := by decide +kernel
theorem dL_setting_8 : decode cL_setting 8 = .ok (.lastore, 1) := by decide +kernel
theorem dL_setting_9 : decode cL_setting 9 = .ok (.goto 6, 3) := by decide +kernel
theorem dL_setting_12 : decode cL_setting 12 = .ok (.astore_n 3, 1) := by decide +kernel
theorem dL_setting_13 : decode cL_setting 13 = .ok (.iconst 1, 1) := by decide +kernel
theorem dL_setting_14 : decode cL_setting 14 = .ok (.ireturn, 1) := by decide +kernel
theorem dL_setting_15 : decode cL_setting 15 = .ok (.iconst 0, 1) := by decide +kernel
theorem dL_setting_16 : decode cL_setting 16 = .ok (.ireturn, 1) := by decide +kernel
set_option maxRecDepth 20000 in
theorem ggL_ifLoaded_X4_ifLoaded : GoodIn wsL_ifLoaded wsX4_ifLoaded := goodIn_ca (goodIn_r _ [6, 7, 8, 9, 10, 11, 5, 12, 13, 14, 15, 16, 17, 18, 19, 20, 21, 22, 23, 24, 25, 26, 27, 28, 29, 30, 31, 32, 33, 34, 35, 36, 37, 38, 39, 40, 41, 42, 43, 44, 45, 46, 47, 48, 49, 50, 51, 52, 53, 54, 55, 56, 57, 58, 59, 60, 61, 62, 63, 64, 65, 66, 67, 68, 69, 70, 71, 72, 73, 74, 75, 76, 77, 78, 79, 80, 81] (by decide +kernel) (by decide +kernel)) (goodIn_sub (fun _ h => List.mem_cons_of_mem _ (List.mem_append_right _ h)) (by decide +kernel))
set_option maxRecDepth 20000 in
theorem gL_ifLoaded_X4_ifLoaded : GoodIn wsL_ifLoaded (wsV RL 79 RX4 yX4_ifLoaded wsX4_ifLoaded) := goodIn_app (goodIn_of _ (by decide +kernel)) ggL_ifLoaded_X4_ifLoaded
theorem dL_ifLoaded_0 : decode cL_ifLoaded 0 = .ok (.aload_n 2, 1) := by decide +kernel
theorem dL_ifLoaded_1 : decode cL_ifLoaded 1 = .ok (.iconst 0, 1) := by decide +kernel
theorem dL_ifLoaded_2 : decode cL_ifLoaded 2 = .ok (.aload_n 0, 1) := by decide +kernel
theorem dL_ifLoaded_3 : decode cL_ifLoaded 3 = .ok (.iload_n 1, 1) := by decide +kernel
theorem dL_ifLoaded_4 : decode cL_ifLoaded 4 = .ok (.invokevirtual 79, 3) := by decide +kernel
theorem dL_ifLoaded_7 : decode cL_ifLoaded 7 = .ok (.i2l, 1) := by decide +kernel
theorem dL_ifLoaded_8 : decode cL_ifLoaded 8 = .ok (.lastore, 1) := by decide +kernel
theorem dL_ifLoaded_9 : decode cL_ifLoaded 9 = .ok (.goto 6, 3) := by decide +kernel
theorem dL_ifLoaded_12 : decode cL_ifLoaded 12 = .ok (.astore_n 3, 1) := by decide +kernel
theorem dL_ifLoaded_13 : decode cL_ifLoaded 13 = .ok (.iconst 1, 1) := by decide +kernel
theorem dL_ifLoaded_14 : decode cL_ifLoaded 14 = .ok (.ireturn, 1) := by decide +kernel
theorem dL_ifLoaded_15 : decode cL_ifLoaded 15 = .ok (.iconst 0, 1) := by decide +kernel
theorem dL_ifLoaded_16 : decode cL_ifLoaded 16 = .ok (.ireturn, 1) := by decide +kernel
set_option maxRecDepth 20000 in
theorem ggL_lastsFor_X4_lastsFor : GoodIn wsL_lastsFor wsX4_lastsFor := goodIn_ca (goodIn_r _ [6, 7, 8, 9, 10, 11, 5, 12, 13, 14, 15, 16, 17, 18, 19, 20, 21, 22, 23, 24, 25, 26, 27, 28, 29, 30, 31, 32, 33, 34, 35, 36, 37, 38, 39, 40] (by decide +kernel) (by decide +kernel)) (goodIn_sub (fun _ h => List.mem_cons_of_mem _ (List.mem_append_right _ h)) (by decide +kernel))
set_option maxRecDepth 20000 in
theorem gL_lastsFor_X4_lastsFor : GoodIn wsL_lastsFor (wsV RL 82 RX4 yX4_lastsFor wsX4_lastsFor) := goodIn_app (goodIn_of _ (by decide +kernel)) ggL_lastsFor_X4_lastsFor
theorem dL_lastsFor_0 : decode cL_lastsFor 0 = .ok (.aload_n 2, 1) := by decide +kernel
theorem dL_lastsFor_1 : decode cL_lastsFor 1 = .ok (.iconst 0, 1) := by decide +kernel
theorem dL_lastsFor_2 : decode cL_lastsFor 2 = .ok (.aload_n 0, 1) := by decide +kernel
theorem dL_lastsFor_3 : decode cL_lastsFor 3 = .ok (.iload_n 1, 1) := by decide +kernel
theorem dL_lastsFor_4 : decode cL_lastsFor 4 = .ok (.invokevirtual 82, 3) := by decide +kernel
theorem dL_lastsFor_7 : decode cL_lastsFor 7 = .ok (.i2l, 1) := by decide +kernel
theorem dL_lastsFor_8 : decode cL_lastsFor 8 = .ok (.lastore, 1) := by decide +kernel
theorem dL_lastsFor_9 : decode cL_lastsFor 9 = .ok (.goto 6, 3) := by decide +kernel
theorem dL_lastsFor_12 : decode cL_lastsFor 12 = .ok (.astore_n 3, 1) := by decide +kernel
theorem dL_lastsFor_13 : decode cL_lastsFor 13 = .ok (.iconst 1, 1) := by decide +kernel
theorem dL_lastsFor_14 : decode cL_lastsFor 14 = .ok (.ireturn, 1) := by decide +kernel
theorem dL_lastsFor_15 : decode cL_lastsFor 15 = .ok (.iconst 0, 1) := by decide +kernel
theorem dL_lastsFor_16 : decode cL_lastsFor 16 = .ok (.ireturn, 1) := by decide +kernel
set_option maxRecDepth 20000 in
theorem ggL_ifGone_X4_ifGone : GoodIn wsL_ifGone wsX4_ifGone := goodIn_ca (goodIn_r _ [6, 7, 8, 9, 10, 11, 12, 13, 14, 15, 16, 5, 17, 18, 19, 20, 21, 22, 23, 24, 25, 26, 27, 28, 29, 30, 31, 32, 33, 34, 35, 36, 37, 38, 39, 40, 41, 42, 43, 44, 45, 46, 47, 48, 49, 50, 51, 52, 53, 54, 55, 56, 57, 58, 59, 60, 61, 62, 63, 64, 65, 66, 67, 68, 69, 70, 71, 72, 73, 74, 75, 76, 77, 78, 79, 80, 81, 82, 83, 84, 85, 86, 87, 88, 89, 90, 91, 92, 93, 94, 95, 96, 97, 98, 99, 100, 101, 102, 103, 104, 105, 106, 107, 108, 109, 110, 111, 112, 113, 114, 115, 116, 117, 118, 119, 120] (by decide +kernel) (by decide +kernel)) (goodIn_sub (fun _ h => List.mem_cons_of_mem _ (List.mem_append_right _ h)) (by decide +kernel))
set_option maxRecDepth 20000 in
theorem gL_ifGone_X4_ifGone : GoodIn wsL_ifGone (wsV RL 85 RX4 yX4_ifGone wsX4_ifGone) := goodIn_app (goodIn_of _ (by decide +kernel)) ggL_ifGone_X4_ifGone
theorem dL_ifGone_0 : decode cL_ifGone 0 = .ok (.aload_n 3, 1) := by decide +kernel
theorem dL_ifGone_1 : decode cL_ifGone 1 = .ok (.iconst 0, 1) := by decide +kernel
theorem dL_ifGone_2 : decode cL_ifGone 2 = .ok (.aload_n 0, 1) := by decide +kernel
theorem dL_ifGone_3 : decode cL_ifGone 3 = .ok (.iload_n 1, 1) := by decide +kernel
theorem dL_ifGone_4 : decode cL_ifGone 4 = .ok (.iload_n 2, 1) := by decide +kernel
theorem dL_ifGone_5 : decode cL_ifGone 5 = .ok (.invokevirtual 85, 3) := by decide +kernel
theorem dL_ifGone_8 : decode cL_ifGone 8 = .ok (.i2l, 1) := by decide +kernel
theorem dL_ifGone_9 : decode cL_ifGone 9 = .ok (.lastore, 1) := by decide +kernel
theorem dL_ifGone_10 : decode cL_ifGone 10 = .ok (.goto 7, 3) := by decide +kernel
theorem dL_ifGone_13 : decode cL_ifGone 13 = .ok (.astore 4, 2) := by decide +kernel
theorem dL_ifGone_15 : decode cL_ifGone 15 = .ok (.iconst 1, 1) := by decide +kernel
theorem dL_ifGone_16 : decode cL_ifGone 16 = .ok (.ireturn, 1) := by decide +kernel
theorem dL_ifGone_17 : decode cL_ifGone 17 = .ok (.iconst 0, 1) := by decide +kernel
theorem dL_ifGone_18 : decode cL_ifGone 18 = .ok (.ireturn, 1) := by decide +kernel
set_option maxRecDepth 20000 in
theorem ggL_law_X4_init : GoodIn wsL_law wsX4_init := goodIn_r _ [9, 10, 11, 12, 13, 14, 15, 16, 17, 18, 19, 20, 21, 22, 23, 24, 25, 26, 27, 28, 29, 30, 31, 32, 33, 34, 35, 36, 37, 38, 39, 40, 41, 42, 43, 44, 45, 46, 47, 48, 49, 50, 51, 52, 53, 54, 55, 56, 57, 58, 59, 60, 61, 62, 63, 64, 65, 66, 67, 68, 69, 883, 884, 885, 886, 887, 888, 889, 890, 866, 867, 868, 869, 870, 871, 872, 891, 892, 893, 894, 895, 896, 897, 898, 899, 900, 901, 902, 903, 904, 905] (by decide +kernel) (by decide +kernel)
set_option maxRecDepth 20000 in
theorem gL_law_X4_init : GoodIn wsL_law (wsX4_init) := ggL_law_X4_init
set_option maxRecDepth 20000 in
theorem ggL_law_X5_init : GoodIn wsL_law wsX5_init := goodIn_r _ [72, 73, 11, 12, 29, 74, 23, 75, 76, 77, 873, 874, 875, 876, 877, 878, 879, 880, 881, 882] (by decide +kernel) (by decide +kernel)
set_option maxRecDepth 20000 in
theorem gL_law_X5_init : GoodIn wsL_law (wsX5_init) := ggL_law_X5_init
set_option maxRecDepth 20000 in
theorem ggL_law_L_cross : GoodIn wsL_law wsL_cross := goodIn_ca (goodIn_r _ [81, 82, 83, 84, 85, 2, 86, 87, 88, 21, 16, 89, 90, 91, 92, 93, 94, 95, 96, 97, 98, 99, 100, 101, 20, 102, 63, 103, 104, 105, 106, 107, 15, 108, 35, 109, 110, 111, 112, 36, 37, 38, 42, 113, 114, 115, 116, 117, 118, 41, 119, 47, 120, 48, 53, 54, 55, 56, 57, 121, 122, 123, 124, 125, 126, 127, 128, 129, 130, 131, 132, 133, 134, 135, 136, 137, 138, 139, 140, 141, 142, 866, 867, 868, 869, 870, 871, 872, 883, 884, 885, 886, 887, 888, 889, 890, 891, 892, 893, 899, 900, 901, 902, 903, 904, 905] (by decide +kernel) (by decide +kernel)) (goodIn_sub (fun _ h => List.mem_append_left _ (List.mem_append_left _ (List.mem_append_right _ h))) (by decide +kernel))
set_option maxRecDepth 20000 in
theorem gL_law_L_cross : GoodIn wsL_law (va_wsS RL 92 yL_cross wsL_cross) := goodIn_app (goodIn_of _ (by decide +kernel)) ggL_law_L_cross
set_option maxRecDepth 20000 in
theorem ggL_law_X5_cross : GoodIn wsL_law wsX5_cross := goodIn_r _ [146, 74, 147, 148, 5, 149, 150, 151, 152, 153, 154, 155, 156, 157, 158, 159, 160, 161, 162, 163, 164, 165, 166, 167, 168, 169, 170, 171, 172, 173, 873, 874, 875, 876, 877, 878, 879, 880, 881, 882] (by decide +kernel) (by decide +kernel)
set_option maxRecDepth 20000 in
theorem gL_law_X5_cross : GoodIn wsL_law (wsV RL 97 RX5 yX5_cross wsX5_cross) := goodIn_app (goodIn_of _ (by decide +kernel)) ggL_law_X5_cross
set_option maxRecDepth 20000 in
theorem ggL_law_X5_thrown : GoodIn wsL_law wsX5_thrown := goodIn_r _ [177, 160, 873, 874, 875, 876, 877, 878, 879, 880, 881, 882] (by decide +kernel) (by decide +kernel)
set_option maxRecDepth 20000 in
theorem gL_law_X5_thrown : GoodIn wsL_law (wsV RL 98 RX5 yX5_thrown wsX5_thrown) := goodIn_app (goodIn_of _ (by decide +kernel)) ggL_law_X5_thrown
set_option maxRecDepth 20000 in
theorem ggL_law_L_lay : GoodIn wsL_law wsL_lay := goodIn_ca (goodIn_ca (goodIn_r _ [180, 82, 181, 182, 183, 184, 2, 185, 87, 88, 186, 187, 21, 16, 90, 91, 92, 93, 94, 95, 99, 100, 101, 20, 102, 63, 103, 104, 105, 106, 107, 15, 108, 35, 109, 110, 111, 112, 36, 37, 38, 42, 113, 114, 115, 116, 117, 118, 41, 119, 47, 120, 48, 53, 54, 55, 56, 57, 188, 189, 190, 191, 121, 122, 123, 124, 125, 126, 127, 128, 129, 130, 131, 132, 133, 134, 135, 136, 137, 138, 139, 140, 141, 866, 867, 868, 869, 870, 871, 872, 891, 892, 893, 883, 884, 885, 886, 887, 888, 889, 890, 899, 900, 901, 902, 903, 904, 905] (by decide +kernel) (by decide +kernel)) (goodIn_sub (fun _ h => List.mem_append_left _ (List.mem_append_left _ (List.mem_append_right _ h))) (by decide +kernel))) (goodIn_sub (fun _ h => List.mem_append_left _ (List.mem_append_right _ h)) (by decide +kernel))
set_option maxRecDepth 20000 in
theorem gL_law_L_lay : GoodIn wsL_law (va_wsS RL 101 yL_lay wsL_lay) := goodIn_app (goodIn_of _ (by decide +kernel)) ggL_law_L_lay
set_option maxRecDepth 20000 in
theorem ggL_law_X5_lay : GoodIn wsL_law wsX5_lay := goodIn_r _ [195, 147, 148, 5, 149, 150, 151, 152, 156, 157, 158, 159, 160, 161, 162, 163, 164, 165, 166, 167, 168, 169, 74, 196, 197, 198, 199, 200, 201, 202, 203, 204, 205, 206, 170, 171, 172, 173, 207, 208, 209, 873, 874, 875, 876, 877, 878, 879, 880, 881, 882] (by decide +kernel) (by decide +kernel)
set_option maxRecDepth 20000 in
theorem gL_law_X5_lay : GoodIn wsL_law (wsV RL 103 RX5 yX5_lay wsX5_lay) := goodIn_app (goodIn_of _ (by decide +kernel)) ggL_law_X5_lay
set_option maxRecDepth 20000 in
theorem ggL_law_L_guard : GoodIn wsL_law wsL_guard := goodIn_ca (goodIn_r _ [212, 82, 213, 214, 215, 2, 216, 87, 88, 21, 16, 217, 90, 91, 92, 93, 94, 95, 99, 100, 101, 20, 102, 63, 103, 104, 105, 106, 107, 15, 108, 35, 109, 110, 111, 112, 36, 37, 38, 42, 113, 114, 115, 116, 117, 118, 41, 119, 47, 120, 48, 53, 54, 55, 56, 57, 142, 133, 134, 866, 867, 868, 869, 870, 871, 872, 883, 884, 885, 886, 887, 888, 889, 890, 891, 892, 893, 899, 900, 901, 902, 903, 904, 905] (by decide +kernel) (by decide +kernel)) (goodIn_sub (fun _ h => List.mem_append_left _ (List.mem_append_left _ (List.mem_append_right _ h))) (by decide +kernel))
set_option maxRecDepth 20000 in
theorem gL_law_L_guard : GoodIn wsL_law (va_wsS RL 104 yL_guard wsL_guard) := goodIn_app (goodIn_of _ (by decide +kernel)) ggL_law_L_guard
set_option maxRecDepth 20000 in
theorem ggL_law_X5_guard : GoodIn wsL_law wsX5_guard := goodIn_r _ [221, 74, 147, 148, 5, 149, 150, 151, 152, 156, 157, 158, 159, 160, 161, 162, 163, 164, 165, 166, 167, 168, 169, 873, 874, 875, 876, 877, 878, 879, 880, 881, 882] (by decide +kernel) (by decide +kernel)
set_option maxRecDepth 20000 in
theorem gL_law_X5_guard : GoodIn wsL_law (wsV RL 107 RX5 yX5_guard wsX5_guard) := goodIn_app (goodIn_of _ (by decide +kernel)) ggL_law_X5_guard
set_option maxRecDepth 20000 in
theorem ggL_law_L_change : GoodIn wsL_law wsL_change := goodIn_ca (goodIn_r _ [224, 82, 225, 226, 227, 2, 228, 87, 88, 21, 16, 96, 97, 98, 93, 94, 95, 99, 100, 101, 20, 102, 63, 103, 104, 105, 106, 107, 15, 108, 35, 109, 110, 111, 112, 36, 37, 38, 42, 113, 114, 115, 116, 117, 118, 41, 119, 47, 120, 48, 53, 54, 55, 56, 57, 229, 230, 231, 232, 233, 234, 235, 236, 133, 134, 135, 136, 137, 138, 139, 140, 141, 866, 867, 868, 869, 870, 871, 872, 891, 892, 893, 883, 884, 885, 886, 887, 888, 889, 890, 899, 900, 901, 902, 903, 904, 905] (by decide +kernel) (by decide +kernel)) (goodIn_sub (fun _ h => List.mem_append_left _ (List.mem_append_left _ (List.mem_append_right _ h))) (by decide +kernel))
set_option maxRecDepth 20000 in
theorem gL_law_L_change : GoodIn wsL_law (va_wsS RL 108 yL_change wsL_change) := goodIn_app (goodIn_of _ (by decide +kernel)) ggL_law_L_change
set_option maxRecDepth 20000 in
theorem ggL_law_X5_change : GoodIn wsL_law wsX5_change := goodIn_r _ [240, 74, 153, 154, 5, 155, 150, 151, 152, 156, 157, 158, 159, 160, 161, 162, 163, 164, 165, 166, 167, 168, 169, 241, 242, 243, 244, 204, 205, 206, 207, 208, 209, 873, 874, 875, 876, 877, 878, 879, 880, 881, 882] (by decide +kernel) (by decide +kernel)
set_option maxRecDepth 20000 in
theorem gL_law_X5_change : GoodIn wsL_law (wsV RL 110 RX5 yX5_change wsX5_change) := goodIn_app (goodIn_of _ (by decide +kernel)) ggL_law_X5_change
set_option maxRecDepth 20000 in
theorem ggL_law_L_set : GoodIn wsL_law wsL_set := goodIn_ca (goodIn_ca (goodIn_r _ [247, 82, 181, 248, 249, 250, 2, 251, 87, 88, 186, 187, 21, 16, 252, 253, 254, 255, 93, 94, 95, 99, 100, 101, 20, 102, 63, 103, 104, 105, 106, 107, 15, 108, 35, 109, 110, 111, 112, 36, 37, 38, 42, 113, 114, 115, 116, 117, 118, 41, 119, 47, 120, 48, 53, 54, 55, 56, 57, 866, 867, 868, 869, 870, 871, 872, 883, 884, 885, 886, 887, 888, 889, 890, 891, 892, 893, 899, 900, 901, 902, 903, 904, 905] (by decide +kernel) (by decide +kernel)) (goodIn_sub (fun _ h => List.mem_append_left _ (List.mem_append_left _ (List.mem_append_right _ h))) (by decide +kernel))) (goodIn_sub (fun _ h => List.mem_append_left _ (List.mem_append_right _ h)) (by decide +kernel))
set_option maxRecDepth 20000 in
theorem gL_law_L_set : GoodIn wsL_law (va_wsS RL 111 yL_set wsL_set) := goodIn_app (goodIn_of _ (by decide +kernel)) ggL_law_L_set
set_option maxRecDepth 20000 in
theorem ggL_law_X5_set : GoodIn wsL_law wsX5_set := goodIn_r _ [259, 74, 150, 151, 5, 152, 156, 157, 158, 159, 160, 161, 162, 163, 164, 165, 166, 167, 168, 169, 873, 874, 875, 876, 877, 878, 879, 880, 881, 882] (by decide +kernel) (by decide +kernel)
set_option maxRecDepth 20000 in
theorem gL_law_X5_set : GoodIn wsL_law (wsV RL 113 RX5 yX5_set wsX5_set) := goodIn_app (goodIn_of _ (by decide +kernel)) ggL_law_X5_set
set_option maxRecDepth 20000 in
theorem ggL_law_L_read : GoodIn wsL_law wsL_read := goodIn_ca (goodIn_r _ [262, 82, 263, 264, 265, 2, 266, 87, 88, 21, 16, 90, 91, 92, 93, 94, 95, 99, 100, 101, 20, 102, 63, 103, 104, 105, 106, 107, 15, 108, 35, 109, 110, 111, 112, 36, 37, 38, 42, 113, 114, 115, 116, 117, 118, 41, 119, 47, 120, 48, 53, 54, 55, 56, 57, 267, 268, 269, 270, 271, 272, 273, 274, 275, 276, 277, 278, 133, 134, 279, 280, 281, 282, 283, 284, 131, 285, 286, 287, 288, 289, 290, 189, 190, 191, 125, 126, 127, 128, 129, 130, 132, 866, 867, 868, 869, 870, 871, 872, 891, 892, 893, 883, 884, 885, 886, 887, 888, 889, 890, 899, 900, 901, 902, 903, 904, 905] (by decide +kernel) (by decide +kernel)) (goodIn_sub (fun _ h => List.mem_append_left _ (List.mem_append_left _ (List.mem_append_right _ h))) (by decide +kernel))
set_option maxRecDepth 20000 in
theorem gL_law_L_read : GoodIn wsL_law (va_wsS RL 114 yL_read wsL_read) := goodIn_app (goodIn_of _ (by decide +kernel)) ggL_law_L_read
set_option maxRecDepth 20000 in
theorem ggL_law_X5_read : GoodIn wsL_law wsX5_read := goodIn_r _ [294, 147, 148, 5, 149, 150, 151, 152, 156, 157, 158, 159, 160, 161, 162, 163, 164, 165, 166, 167, 168, 169, 74, 295, 296, 297, 298, 299, 300, 301, 302, 303, 304, 305, 306, 307, 308, 309, 310, 311, 312, 313, 314, 315, 316, 317, 318, 204, 205, 206, 200, 201, 202, 203, 170, 171, 172, 173, 873, 874, 875, 876, 877, 878, 879, 880, 881, 882] (by decide +kernel) (by decide +kernel)
set_option maxRecDepth 20000 in
theorem gL_law_X5_read : GoodIn wsL_law (wsV RL 116 RX5 yX5_read wsX5_read) := goodIn_app (goodIn_of _ (by decide +kernel)) ggL_law_X5_read
set_option maxRecDepth 20000 in
theorem ggL_law_X4_start : GoodIn wsL_law wsX4_start := goodIn_r _ [322, 21, 16, 323, 324, 99, 100, 101, 20, 102, 63, 103, 104, 105, 106, 107, 15, 108, 35, 109, 110, 111, 112, 36, 37, 38, 42, 113, 114, 115, 116, 117, 118, 41, 119, 47, 120, 48, 53, 54, 55, 56, 57, 325, 50, 51, 52, 866, 867, 868, 869, 870, 871, 872, 883, 884, 885, 886, 887, 888, 889, 890, 899, 900, 901, 902, 903, 904, 905, 891, 892, 893] (by decide +kernel) (by decide +kernel)
set_option maxRecDepth 20000 in
theorem gL_law_X4_start : GoodIn wsL_law (wsV RL 117 RX4 yX4_start wsX4_start) := goodIn_app (goodIn_of _ (by decide +kernel)) ggL_law_X4_start
set_option maxRecDepth 20000 in
theorem ggL_law_X5_start : GoodIn wsL_law wsX5_start := goodIn_r _ [329, 160, 74, 161, 162, 163, 5, 164, 165, 166, 167, 168, 169, 873, 874, 875, 876, 877, 878, 879, 880, 881, 882] (by decide +kernel) (by decide +kernel)
set_option maxRecDepth 20000 in
theorem gL_law_X5_start : GoodIn wsL_law (wsV RL 120 RX5 yX5_start wsX5_start) := goodIn_app (goodIn_of _ (by decide +kernel)) ggL_law_X5_start
set_option maxRecDepth 20000 in
theorem ggL_law_L_go : GoodIn wsL_law wsL_go := goodIn_ca (goodIn_r _ [332, 181, 333, 334, 335, 2, 336, 186, 187, 21, 16, 93, 94, 95, 99, 100, 101, 20, 102, 63, 103, 104, 105, 106, 107, 15, 108, 35, 109, 110, 111, 112, 36, 37, 38, 42, 113, 114, 115, 116, 117, 118, 41, 119, 47, 120, 48, 53, 54, 55, 56, 57, 337, 338, 339, 340, 341, 342, 343, 268, 269, 270, 271, 272, 273, 274, 275, 276, 277, 278, 133, 134, 279, 280, 281, 282, 283, 284, 131, 285, 286, 287, 288, 289, 290, 189, 190, 191, 125, 126, 127, 128, 129, 130, 132, 344, 345, 346, 347, 348, 349, 350, 351, 866, 867, 868, 869, 870, 871, 872, 891, 892, 893, 883, 884, 885, 886, 887, 888, 889, 890, 899, 900, 901, 902, 903, 904, 905] (by decide +kernel) (by decide +kernel)) (goodIn_sub (fun _ h => List.mem_append_left _ (List.mem_append_right _ h)) (by decide +kernel))
set_option maxRecDepth 20000 in
theorem gL_law_L_go : GoodIn wsL_law (va_wsS RL 121 yL_go wsL_go) := goodIn_app (goodIn_of _ (by decide +kernel)) ggL_law_L_go
set_option maxRecDepth 20000 in
theorem ggL_law_X5_go : GoodIn wsL_law wsX5_go := goodIn_r _ [355, 150, 151, 5, 152, 156, 157, 158, 159, 160, 161, 162, 163, 164, 165, 166, 167, 168, 169, 74, 356, 357, 358, 359, 360, 361, 362, 363, 295, 296, 297, 298, 299, 300, 301, 302, 303, 304, 305, 306, 307, 308, 309, 310, 311, 312, 313, 314, 315, 316, 317, 318, 204, 205, 206, 200, 201, 202, 203, 170, 171, 172, 173, 364, 365, 366, 367, 873, 874, 875, 876, 877, 878, 879, 880, 881, 882] (by decide +kernel) (by decide +kernel)
set_option maxRecDepth 20000 in
theorem gL_law_X5_go : GoodIn wsL_law (wsV RL 123 RX5 yX5_go wsX5_go) := goodIn_app (goodIn_of _ (by decide +kernel)) ggL_law_X5_go
set_option maxRecDepth 20000 in
theorem ggL_law_L_append : GoodIn wsL_law wsL_append := goodIn_ca (goodIn_ca (goodIn_r _ [370, 181, 371, 372, 373, 374, 2, 375, 186, 187, 376, 377, 28, 378, 93, 94, 95, 379, 380, 381, 27, 382, 383, 68, 866, 867, 868, 869, 870, 871, 872, 894, 895, 896, 897, 898] (by decide +kernel) (by decide +kernel)) (goodIn_sub (fun _ h => List.mem_append_left _ (List.mem_append_right _ h)) (by decide +kernel))) (goodIn_sub (fun _ h => List.mem_append_right _ h) (by decide +kernel))
set_option maxRecDepth 20000 in
theorem gL_law_L_append : GoodIn wsL_law (va_wsS RL 124 yL_append wsL_append) := goodIn_app (goodIn_of _ (by decide +kernel)) ggL_law_L_append
set_option maxRecDepth 20000 in
theorem ggL_law_X5_append : GoodIn wsL_law wsX5_append := goodIn_r _ [387, 388, 76, 150, 151, 5, 152, 156, 157, 158, 159, 160, 873, 874, 875, 876, 877, 878, 879, 880, 881, 882] (by decide +kernel) (by decide +kernel)
set_option maxRecDepth 20000 in
theorem gL_law_X5_append : GoodIn wsL_law (wsV RL 126 RX5 yX5_append wsX5_append) := goodIn_app (goodIn_of _ (by decide +kernel)) ggL_law_X5_append
set_option maxRecDepth 20000 in
theorem ggL_law_X4_clearBuffer : GoodIn wsL_law wsX4_clearBuffer := goodIn_r _ [392, 28, 378, 866, 867, 868, 869, 870, 871, 872, 894, 895, 896, 897, 898] (by decide +kernel) (by decide +kernel)
set_option maxRecDepth 20000 in
theorem gL_law_X4_clearBuffer : GoodIn wsL_law (wsV RL 127 RX4 yX4_clearBuffer wsX4_clearBuffer) := goodIn_app (goodIn_of _ (by decide +kernel)) ggL_law_X4_clearBuffer
set_option maxRecDepth 20000 in
theorem ggL_law_X5_clearBuffer : GoodIn wsL_law wsX5_clearBuffer := goodIn_r _ [396, 160, 388, 873, 874, 875, 876, 877, 878, 879, 880, 881, 882] (by decide +kernel) (by decide +kernel)
set_option maxRecDepth 20000 in
theorem gL_law_X5_clearBuffer : GoodIn wsL_law (wsV RL 130 RX5 yX5_clearBuffer wsX5_clearBuffer) := goodIn_app (goodIn_of _ (by decide +kernel)) ggL_law_X5_clearBuffer
set_option maxRecDepth 20000 in
theorem ggL_law_X4_firstError : GoodIn wsL_law wsX4_firstError := goodIn_r _ [400, 28, 401, 402, 403, 27, 404, 405, 406, 383, 68, 407, 408, 409, 410, 69, 411, 412, 413, 866, 867, 868, 869, 870, 871, 872, 894, 895, 896, 897, 898] (by decide +kernel) (by decide +kernel)
set_option maxRecDepth 20000 in
theorem gL_law_X4_firstError : GoodIn wsL_law (wsV RL 131 RX4 yX4_firstError wsX4_firstError) := goodIn_app (goodIn_of _ (by decide +kernel)) ggL_law_X4_firstError
set_option maxRecDepth 20000 in
theorem ggL_law_X5_firstError : GoodIn wsL_law wsX5_firstError := goodIn_r _ [417, 160, 418, 419, 420, 421, 5, 422, 423, 388, 76, 424, 425, 426, 427, 77, 428, 429, 430, 431, 150, 151, 152, 873, 874, 875, 876, 877, 878, 879, 880, 881, 882] (by decide +kernel) (by decide +kernel)
set_option maxRecDepth 20000 in
theorem gL_law_X5_firstError : GoodIn wsL_law (wsV RL 134 RX5 yX5_firstError wsX5_firstError) := goodIn_app (goodIn_of _ (by decide +kernel)) ggL_law_X5_firstError
set_option maxRecDepth 20000 in
theorem ggL_law_L_load : GoodIn wsL_law wsL_load := goodIn_ca (goodIn_ca (goodIn_r _ [434, 82, 181, 435, 436, 437, 2, 438, 87, 88, 186, 187, 28, 21, 16, 439, 440, 378, 90, 91, 92, 93, 94, 95, 441, 442, 443, 27, 444, 383, 405, 445, 402, 403, 404, 406, 68, 407, 408, 409, 410, 69, 411, 412, 413, 99, 100, 101, 20, 102, 63, 103, 104, 105, 106, 107, 15, 108, 35, 109, 110, 111, 112, 36, 37, 38, 42, 113, 114, 115, 116, 117, 118, 41, 119, 47, 120, 48, 53, 54, 55, 56, 57, 188, 189, 190, 191, 121, 122, 123, 124, 125, 126, 127, 128, 129, 130, 131, 132, 133, 134, 135, 136, 137, 138, 139, 140, 141, 866, 867, 868, 869, 870, 871, 872, 894, 895, 896, 897, 898, 891, 892, 893, 883, 884, 885, 886, 887, 888, 889, 890, 899, 900, 901, 902, 903, 904, 905] (by decide +kernel) (by decide +kernel)) (goodIn_sub (fun _ h => List.mem_append_left _ (List.mem_append_left _ (List.mem_append_right _ h))) (by decide +kernel))) (goodIn_sub (fun _ h => List.mem_append_left _ (List.mem_append_right _ h)) (by decide +kernel))
set_option maxRecDepth 20000 in
theorem gL_law_L_load : GoodIn wsL_law (va_wsS RL 135 yL_load wsL_load) := goodIn_app (goodIn_of _ (by decide +kernel)) ggL_law_L_load
set_option maxRecDepth 20000 in
theorem ggL_law_X5_load : GoodIn wsL_law wsX5_load := goodIn_r _ [449, 388, 147, 148, 5, 149, 150, 151, 152, 419, 420, 421, 422, 418, 423, 76, 424, 425, 426, 427, 77, 428, 429, 430, 431, 156, 157, 158, 159, 160, 161, 162, 163, 164, 165, 166, 167, 168, 169, 74, 450, 451, 452, 453, 196, 197, 198, 199, 200, 201, 202, 203, 204, 205, 206, 170, 171, 172, 173, 207, 208, 209, 873, 874, 875, 876, 877, 878, 879, 880, 881, 882] (by decide +kernel) (by decide +kernel)
set_option maxRecDepth 20000 in
theorem gL_law_X5_load : GoodIn wsL_law (wsV RL 137 RX5 yX5_load wsX5_load) := goodIn_app (goodIn_of _ (by decide +kernel)) ggL_law_X5_load
set_option maxRecDepth 20000 in
theorem ggL_law_L_write : GoodIn wsL_law wsL_write := goodIn_ca (goodIn_r _ [456, 82, 457, 458, 459, 2, 460, 87, 88, 28, 378, 16, 90, 91, 92, 93, 94, 95, 461, 272, 273, 15, 274, 275, 276, 277, 278, 35, 38, 133, 134, 279, 280, 281, 282, 283, 284, 131, 285, 37, 286, 287, 288, 289, 113, 290, 189, 190, 191, 462, 463, 464, 27, 465, 466, 467, 468, 469, 380, 381, 382, 383, 68, 866, 867, 868, 869, 870, 871, 872, 894, 895, 896, 897, 898, 883, 884, 885, 886, 887, 888, 889, 890] (by decide +kernel) (by decide +kernel)) (goodIn_sub (fun _ h => List.mem_append_left _ (List.mem_append_left _ (List.mem_append_right _ h))) (by decide +kernel))
set_option maxRecDepth 20000 in
theorem gL_law_L_write : GoodIn wsL_law (va_wsS RL 138 yL_write wsL_write) := goodIn_app (goodIn_of _ (by decide +kernel)) ggL_law_L_write
set_option maxRecDepth 20000 in
theorem ggL_law_X5_write : GoodIn wsL_law wsX5_write := goodIn_r _ [473, 388, 76, 147, 148, 5, 149, 150, 151, 152, 156, 157, 158, 159, 160, 299, 300, 301, 302, 303, 304, 305, 306, 74, 307, 308, 309, 310, 311, 312, 313, 314, 315, 316, 317, 318, 204, 205, 206, 200, 201, 202, 203, 474, 475, 476, 873, 874, 875, 876, 877, 878, 879, 880, 881, 882] (by decide +kernel) (by decide +kernel)
set_option maxRecDepth 20000 in
theorem gL_law_X5_write : GoodIn wsL_law (wsV RL 140 RX5 yX5_write wsX5_write) := goodIn_app (goodIn_of _ (by decide +kernel)) ggL_law_X5_write
set_option maxRecDepth 20000 in
theorem ggL_law_L_keep : GoodIn wsL_law wsL_keep := goodIn_ca (goodIn_r _ [479, 181, 480, 481, 482, 2, 483, 186, 187, 22, 16, 24, 484, 485, 486, 93, 94, 95, 487, 106, 107, 15, 108, 35, 109, 110, 111, 112, 36, 37, 38, 42, 113, 114, 115, 116, 117, 118, 41, 119, 47, 120, 48, 53, 54, 55, 56, 57, 488, 489, 490, 491, 135, 136, 137, 138, 139, 140, 141, 866, 867, 868, 869, 870, 871, 872, 883, 884, 885, 886, 887, 888, 889, 890, 899, 900, 901, 902, 903, 904, 905] (by decide +kernel) (by decide +kernel)) (goodIn_sub (fun _ h => List.mem_append_left _ (List.mem_append_right _ h)) (by decide +kernel))
set_option maxRecDepth 20000 in
theorem gL_law_L_keep : GoodIn wsL_law (va_wsS RL 141 yL_keep wsL_keep) := goodIn_app (goodIn_of _ (by decide +kernel)) ggL_law_L_keep
set_option maxRecDepth 20000 in
theorem ggL_law_X5_keep : GoodIn wsL_law wsX5_keep := goodIn_r _ [495, 75, 150, 151, 5, 152, 156, 157, 158, 159, 160, 166, 167, 168, 169, 74, 496, 497, 498, 499, 207, 208, 209, 873, 874, 875, 876, 877, 878, 879, 880, 881, 882] (by decide +kernel) (by decide +kernel)
set_option maxRecDepth 20000 in
theorem gL_law_X5_keep : GoodIn wsL_law (wsV RL 143 RX5 yX5_keep wsX5_keep) := goodIn_app (goodIn_of _ (by decide +kernel)) ggL_law_X5_keep
set_option maxRecDepth 20000 in
theorem ggL_law_L_goBack : GoodIn wsL_law wsL_goBack := goodIn_ca (goodIn_ca (goodIn_r _ [502, 181, 371, 503, 504, 505, 2, 506, 186, 187, 376, 377, 24, 21, 16, 22, 484, 485, 486, 93, 94, 95, 99, 100, 101, 20, 102, 63, 103, 104, 105, 106, 107, 15, 108, 35, 109, 110, 111, 112, 36, 37, 38, 42, 113, 114, 115, 116, 117, 118, 41, 119, 47, 120, 48, 53, 54, 55, 56, 57, 487, 488, 489, 490, 491, 135, 136, 137, 138, 139, 140, 141, 866, 867, 868, 869, 870, 871, 872, 891, 892, 893, 883, 884, 885, 886, 887, 888, 889, 890, 899, 900, 901, 902, 903, 904, 905] (by decide +kernel) (by decide +kernel)) (goodIn_sub (fun _ h => List.mem_append_left _ (List.mem_append_right _ h)) (by decide +kernel))) (goodIn_sub (fun _ h => List.mem_append_right _ h) (by decide +kernel))
set_option maxRecDepth 20000 in
theorem gL_law_L_goBack : GoodIn wsL_law (va_wsS RL 144 yL_goBack wsL_goBack) := goodIn_app (goodIn_of _ (by decide +kernel)) ggL_law_L_goBack
set_option maxRecDepth 20000 in
theorem ggL_law_X5_goBack : GoodIn wsL_law wsX5_goBack := goodIn_r _ [510, 75, 150, 151, 5, 152, 156, 157, 158, 159, 160, 161, 162, 163, 164, 165, 166, 167, 168, 169, 74, 496, 497, 498, 499, 207, 208, 209, 873, 874, 875, 876, 877, 878, 879, 880, 881, 882] (by decide +kernel) (by decide +kernel)
set_option maxRecDepth 20000 in
theorem gL_law_X5_goBack : GoodIn wsL_law (wsV RL 146 RX5 yX5_goBack wsX5_goBack) := goodIn_app (goodIn_of _ (by decide +kernel)) ggL_law_X5_goBack
set_option maxRecDepth 20000 in
theorem ggL_law_L_undo : GoodIn wsL_law wsL_undo := goodIn_ca (goodIn_r _ [513, 371, 514, 515, 516, 2, 517, 376, 377, 21, 518, 16, 519, 520, 521, 20, 522, 104, 63, 103, 105, 106, 107, 15, 108, 35, 109, 110, 111, 112, 36, 37, 38, 42, 113, 114, 115, 116, 117, 118, 41, 119, 47, 120, 48, 53, 54, 55, 56, 57, 866, 867, 868, 869, 870, 871, 872, 891, 892, 893, 883, 884, 885, 886, 887, 888, 889, 890, 899, 900, 901, 902, 903, 904, 905] (by decide +kernel) (by decide +kernel)) (goodIn_sub (fun _ h => List.mem_append_right _ h) (by decide +kernel))
set_option maxRecDepth 20000 in
theorem gL_law_L_undo : GoodIn wsL_law (va_wsS RL 147 yL_undo wsL_undo) := goodIn_app (goodIn_of _ (by decide +kernel)) ggL_law_L_undo
set_option maxRecDepth 20000 in
theorem ggL_law_X5_undo : GoodIn wsL_law wsX5_undo := goodIn_r _ [526, 165, 156, 157, 158, 5, 159, 160, 166, 167, 168, 169, 74, 873, 874, 875, 876, 877, 878, 879, 880, 881, 882] (by decide +kernel) (by decide +kernel)
set_option maxRecDepth 20000 in
theorem gL_law_X5_undo : GoodIn wsL_law (wsV RL 150 RX5 yX5_undo wsX5_undo) := goodIn_app (goodIn_of _ (by decide +kernel)) ggL_law_X5_undo
set_option maxRecDepth 20000 in
theorem ggL_law_L_threadOf : GoodIn wsL_law wsL_threadOf := goodIn_ca (goodIn_ca (goodIn_r _ [529, 82, 181, 530, 531, 532, 2, 533, 87, 88, 186, 187, 16, 89, 217, 534, 90, 91, 92, 93, 94, 95, 142, 133, 134, 535, 536, 537, 15, 538, 35, 290, 189, 190, 191, 38, 461, 272, 273, 274, 275, 276, 277, 278, 279, 280, 281, 282, 283, 284, 131, 285, 37, 286, 287, 288, 289, 113, 539, 136, 137, 138, 139, 140, 141, 540, 866, 867, 868, 869, 870, 871, 872, 883, 884, 885, 886, 887, 888, 889, 890] (by decide +kernel) (by decide +kernel)) (goodIn_sub (fun _ h => List.mem_append_left _ (List.mem_append_left _ (List.mem_append_right _ h))) (by decide +kernel))) (goodIn_sub (fun _ h => List.mem_append_left _ (List.mem_append_right _ h)) (by decide +kernel))
set_option maxRecDepth 20000 in
theorem gL_law_L_threadOf : GoodIn wsL_law (va_wsS RL 151 yL_threadOf wsL_threadOf) := goodIn_app (goodIn_of _ (by decide +kernel)) ggL_law_L_threadOf
set_option maxRecDepth 20000 in
theorem ggL_law_X5_threadOf : GoodIn wsL_law wsX5_threadOf := goodIn_r _ [544, 147, 148, 5, 149, 150, 151, 152, 156, 157, 158, 159, 160, 545, 546, 547, 548, 74, 549, 550, 551, 552, 200, 201, 202, 203, 299, 300, 301, 302, 303, 304, 305, 306, 307, 308, 309, 310, 311, 312, 313, 314, 315, 316, 317, 318, 204, 205, 206, 207, 208, 209, 873, 874, 875, 876, 877, 878, 879, 880, 881, 882] (by decide +kernel) (by decide +kernel)
set_option maxRecDepth 20000 in
theorem gL_law_X5_threadOf : GoodIn wsL_law (wsV RL 153 RX5 yX5_threadOf wsX5_threadOf) := goodIn_app (goodIn_of _ (by decide +kernel)) ggL_law_X5_threadOf
set_option maxRecDepth 20000 in
theorem ggL_law_L_ringOf : GoodIn wsL_law wsL_ringOf := goodIn_ca (goodIn_ca (goodIn_r _ [555, 82, 181, 556, 557, 558, 2, 559, 87, 88, 186, 187, 16, 560, 96, 97, 98, 93, 94, 95, 561, 234, 235, 15, 236, 35, 133, 134, 539, 136, 137, 138, 139, 140, 141, 562, 563, 564, 565, 275, 276, 277, 278, 38, 279, 280, 281, 282, 283, 284, 131, 285, 37, 286, 287, 288, 289, 113, 566, 567, 568, 569, 233, 866, 867, 868, 869, 870, 871, 872, 883, 884, 885, 886, 887, 888, 889, 890] (by decide +kernel) (by decide +kernel)) (goodIn_sub (fun _ h => List.mem_append_left _ (List.mem_append_left _ (List.mem_append_right _ h))) (by decide +kernel))) (goodIn_sub (fun _ h => List.mem_append_left _ (List.mem_append_right _ h)) (by decide +kernel))
set_option maxRecDepth 20000 in
theorem gL_law_L_ringOf : GoodIn wsL_law (va_wsS RL 154 yL_ringOf wsL_ringOf) := goodIn_app (goodIn_of _ (by decide +kernel)) ggL_law_L_ringOf
set_option maxRecDepth 20000 in
theorem ggL_law_X5_ringOf : GoodIn wsL_law wsX5_ringOf := goodIn_r _ [573, 153, 154, 5, 155, 150, 151, 152, 156, 157, 158, 159, 160, 574, 575, 576, 577, 74, 241, 242, 243, 244, 204, 205, 206, 207, 208, 209, 578, 579, 580, 581, 303, 304, 305, 306, 307, 308, 309, 310, 311, 312, 313, 314, 315, 316, 317, 318, 873, 874, 875, 876, 877, 878, 879, 880, 881, 882] (by decide +kernel) (by decide +kernel)
set_option maxRecDepth 20000 in
theorem gL_law_X5_ringOf : GoodIn wsL_law (wsV RL 156 RX5 yX5_ringOf wsX5_ringOf) := goodIn_app (goodIn_of _ (by decide +kernel)) ggL_law_X5_ringOf
set_option maxRecDepth 20000 in
theorem ggL_law_L_strength : GoodIn wsL_law wsL_strength := goodIn_ca (goodIn_ca (goodIn_r _ [584, 82, 181, 585, 586, 587, 2, 588, 87, 88, 186, 187, 16, 90, 91, 92, 93, 94, 95, 96, 97, 98, 589, 590, 591, 15, 592, 35, 133, 134, 286, 287, 288, 289, 113, 593, 280, 281, 282, 283, 284, 131, 285, 37, 866, 867, 868, 869, 870, 871, 872, 883, 884, 885, 886, 887, 888, 889, 890] (by decide +kernel) (by decide +kernel)) (goodIn_sub (fun _ h => List.mem_append_left _ (List.mem_append_left _ (List.mem_append_right _ h))) (by decide +kernel))) (goodIn_sub (fun _ h => List.mem_append_left _ (List.mem_append_right _ h)) (by decide +kernel))
set_option maxRecDepth 20000 in
theorem gL_law_L_strength : GoodIn wsL_law (va_wsS RL 157 yL_strength wsL_strength) := goodIn_app (goodIn_of _ (by decide +kernel)) ggL_law_L_strength
set_option maxRecDepth 20000 in
theorem ggL_law_X5_strength : GoodIn wsL_law wsX5_strength := goodIn_r _ [597, 147, 148, 5, 149, 150, 151, 152, 153, 154, 155, 156, 157, 158, 159, 160, 307, 308, 309, 310, 74, 311, 312, 313, 314, 315, 316, 317, 318, 204, 205, 206, 873, 874, 875, 876, 877, 878, 879, 880, 881, 882] (by decide +kernel) (by decide +kernel)
set_option maxRecDepth 20000 in
theorem gL_law_X5_strength : GoodIn wsL_law (wsV RL 160 RX5 yX5_strength wsX5_strength) := goodIn_app (goodIn_of _ (by decide +kernel)) ggL_law_X5_strength
set_option maxRecDepth 20000 in
theorem ggL_law_L_machine : GoodIn wsL_law wsL_machine := goodIn_ca (goodIn_r _ [600, 181, 601, 602, 603, 2, 604, 186, 187, 16, 323, 605, 606, 607, 608, 324, 609, 866, 867, 868, 869, 870, 871, 872, 883, 884, 885, 886, 887, 888, 889, 890, 899, 900, 901, 902, 903, 904, 905] (by decide +kernel) (by decide +kernel)) (goodIn_sub (fun _ h => List.mem_append_left _ (List.mem_append_right _ h)) (by decide +kernel))
set_option maxRecDepth 20000 in
theorem gL_law_L_machine : GoodIn wsL_law (va_wsS RL 161 yL_machine wsL_machine) := goodIn_app (goodIn_of _ (by decide +kernel)) ggL_law_L_machine
set_option maxRecDepth 20000 in
theorem ggL_law_X5_machine : GoodIn wsL_law wsX5_machine := goodIn_r _ [613, 150, 151, 5, 152, 156, 157, 158, 159, 160, 614, 615, 616, 617, 74, 873, 874, 875, 876, 877, 878, 879, 880, 881, 882] (by decide +kernel) (by decide +kernel)
set_option maxRecDepth 20000 in
theorem gL_law_X5_machine : GoodIn wsL_law (wsV RL 163 RX5 yX5_machine wsX5_machine) := goodIn_app (goodIn_of _ (by decide +kernel)) ggL_law_X5_machine
set_option maxRecDepth 20000 in
theorem ggL_law_L_told : GoodIn wsL_law wsL_told := goodIn_ca (goodIn_r _ [620, 181, 621, 622, 623, 2, 624, 186, 187, 16, 323, 625, 93, 94, 95, 866, 867, 868, 869, 870, 871, 872, 883, 884, 885, 886, 887, 888, 889, 890, 899, 900, 901, 902, 903, 904, 905] (by decide +kernel) (by decide +kernel)) (goodIn_sub (fun _ h => List.mem_append_left _ (List.mem_append_right _ h)) (by decide +kernel))
set_option maxRecDepth 20000 in
theorem gL_law_L_told : GoodIn wsL_law (va_wsS RL 164 yL_told wsL_told) := goodIn_app (goodIn_of _ (by decide +kernel)) ggL_law_L_told
set_option maxRecDepth 20000 in
theorem ggL_law_X5_told : GoodIn wsL_law wsX5_told := goodIn_r _ [629, 150, 151, 5, 152, 156, 157, 158, 159, 160, 630, 631, 632, 633, 74, 873, 874, 875, 876, 877, 878, 879, 880, 881, 882] (by decide +kernel) (by decide +kernel)
set_option maxRecDepth 20000 in
theorem gL_law_X5_told : GoodIn wsL_law (wsV RL 166 RX5 yX5_told wsX5_told) := goodIn_app (goodIn_of _ (by decide +kernel)) ggL_law_X5_told
set_option maxRecDepth 20000 in
theorem ggL_law_L_count : GoodIn wsL_law wsL_count := goodIn_ca (goodIn_r _ [636, 181, 637, 638, 639, 2, 640, 186, 187, 16, 641, 642, 217, 21, 518, 488, 489, 490, 15, 491, 35, 135, 136, 137, 138, 139, 140, 141, 643, 644, 645, 646, 233, 234, 235, 236, 133, 134, 647, 648, 649, 650, 275, 276, 277, 278, 38, 279, 280, 281, 282, 283, 284, 131, 285, 37, 286, 287, 288, 289, 113, 539, 651, 652, 653, 654, 655, 656, 657, 658, 30, 461, 272, 273, 274, 290, 189, 190, 191, 659, 660, 661, 662, 129, 130, 132, 866, 867, 868, 869, 870, 871, 872, 883, 884, 885, 886, 887, 888, 889, 890, 891, 892, 893] (by decide +kernel) (by decide +kernel)) (goodIn_sub (fun _ h => List.mem_append_left _ (List.mem_append_right _ h)) (by decide +kernel))
set_option maxRecDepth 20000 in
theorem gL_law_L_count : GoodIn wsL_law (va_wsS RL 167 yL_count wsL_count) := goodIn_app (goodIn_of _ (by decide +kernel)) ggL_law_L_count
set_option maxRecDepth 20000 in
theorem ggL_law_X5_count : GoodIn wsL_law wsX5_count := goodIn_r _ [666, 150, 151, 5, 152, 156, 157, 158, 159, 160, 667, 668, 669, 670, 74, 165, 496, 497, 498, 499, 207, 208, 209, 671, 672, 673, 674, 241, 242, 243, 244, 204, 205, 206, 675, 676, 677, 678, 299, 300, 301, 302, 303, 304, 305, 306, 307, 308, 309, 310, 311, 312, 313, 314, 315, 316, 317, 318, 200, 201, 202, 203, 549, 550, 551, 552, 679, 680, 681, 682, 683, 684, 685, 686, 873, 874, 875, 876, 877, 878, 879, 880, 881, 882] (by decide +kernel) (by decide +kernel)
set_option maxRecDepth 20000 in
theorem gL_law_X5_count : GoodIn wsL_law (wsV RL 169 RX5 yX5_count wsX5_count) := goodIn_app (goodIn_of _ (by decide +kernel)) ggL_law_X5_count
set_option maxRecDepth 20000 in
theorem ggL_law_L_setting : GoodIn wsL_law wsL_setting := goodIn_ca (goodIn_r _ [689, 82, 690, 691, 692, 2, 693, 87, 88, 16, 252, 253, 254, 255, 93, 94, 95, 866, 867, 868, 869, 870, 871, 872, 883, 884, 885, 886, 887, 888, 889, 890] (by decide +kernel) (by decide +kernel)) (goodIn_sub (fun _ h => List.mem_append_left _ (List.mem_append_left _ (List.mem_append_right _ h))) (by decide +kernel))
set_option maxRecDepth 20000 in
theorem gL_law_L_setting : GoodIn wsL_law (va_wsS RL 170 yL_setting wsL_setting) := goodIn_app (goodIn_of _ (by decide +kernel)) ggL_law_L_setting
set_option maxRecDepth 20000 in
theorem ggL_law_X5_setting : GoodIn wsL_law wsX5_setting := goodIn_r _ [697, 74, 150, 151, 5, 152, 156, 157, 158, 159, 160, 873, 874, 875, 876, 877, 878, 879, 880, 881, 882] (by decide +kernel) (by decide +kernel)
set_option maxRecDepth 20000 in
theorem gL_law_X5_setting : GoodIn wsL_law (wsV RL 172 RX5 yX5_setting wsX5_setting) := goodIn_app (goodIn_of _ (by decide +kernel)) ggL_law_X5_setting
set_option maxRecDepth 20000 in
theorem ggL_law_L_ifLoaded : GoodIn wsL_law wsL_ifLoaded := goodIn_ca (goodIn_r _ [700, 82, 701, 702, 703, 2, 704, 87, 88, 28, 90, 91, 92, 93, 94, 95, 441, 442, 443, 27, 444, 383, 405, 445, 402, 403, 404, 406, 68, 407, 408, 409, 410, 69, 411, 412, 413, 705, 706, 707, 708, 439, 16, 440, 535, 536, 537, 15, 538, 35, 290, 189, 190, 191, 38, 539, 136, 137, 138, 139, 140, 141, 866, 867, 868, 869, 870, 871, 872, 894, 895, 896, 897, 898, 883, 884, 885, 886, 887, 888, 889, 890] (by decide +kernel) (by decide +kernel)) (goodIn_sub (fun _ h => List.mem_append_left _ (List.mem_append_left _ (List.mem_append_right _ h))) (by decide +kernel))
set_option maxRecDepth 20000 in
theorem gL_law_L_ifLoaded : GoodIn wsL_law (va_wsS RL 173 yL_ifLoaded wsL_ifLoaded) := goodIn_app (goodIn_of _ (by decide +kernel)) ggL_law_L_ifLoaded
set_option maxRecDepth 20000 in
theorem ggL_law_X5_ifLoaded : GoodIn wsL_law wsX5_ifLoaded := goodIn_r _ [712, 147, 148, 5, 149, 150, 151, 152, 156, 157, 158, 159, 160, 419, 420, 421, 422, 418, 423, 388, 76, 424, 425, 426, 427, 77, 428, 429, 430, 431, 713, 714, 715, 716, 166, 167, 168, 169, 74, 450, 451, 452, 453, 196, 197, 198, 199, 200, 201, 202, 203, 204, 205, 206, 170, 171, 172, 173, 207, 208, 209, 873, 874, 875, 876, 877, 878, 879, 880, 881, 882] (by decide +kernel) (by decide +kernel)
set_option maxRecDepth 20000 in
theorem gL_law_X5_ifLoaded : GoodIn wsL_law (wsV RL 175 RX5 yX5_ifLoaded wsX5_ifLoaded) := goodIn_app (goodIn_of _ (by decide +kernel)) ggL_law_X5_ifLoaded
set_option maxRecDepth 20000 in
theorem ggL_law_X4_bestPlace : GoodIn wsL_law wsX4_bestPlace := goodIn_r _ [720, 28, 441, 442, 443, 27, 444, 383, 405, 445, 402, 403, 404, 406, 68, 407, 408, 409, 410, 69, 411, 412, 413, 705, 706, 707, 2, 708, 439, 16, 440, 535, 536, 537, 15, 538, 35, 290, 189, 190, 191, 38, 539, 136, 137, 138, 139, 140, 141, 866, 867, 868, 869, 870, 871, 872, 894, 895, 896, 897, 898, 883, 884, 885, 886, 887, 888, 889, 890] (by decide +kernel) (by decide +kernel)
set_option maxRecDepth 20000 in
theorem gL_law_X4_bestPlace : GoodIn wsL_law (wsV RL 176 RX4 yX4_bestPlace wsX4_bestPlace) := goodIn_app (goodIn_of _ (by decide +kernel)) ggL_law_X4_bestPlace
set_option maxRecDepth 20000 in
theorem ggL_law_X5_bestPlace : GoodIn wsL_law wsX5_bestPlace := goodIn_r _ [724, 160, 725, 726, 727, 5, 728, 419, 420, 421, 422, 418, 423, 388, 76, 424, 425, 426, 427, 77, 428, 429, 430, 431, 150, 151, 152, 713, 714, 715, 716, 166, 167, 168, 169, 74, 450, 451, 452, 453, 196, 197, 198, 199, 200, 201, 202, 203, 204, 205, 206, 170, 171, 172, 173, 207, 208, 209, 873, 874, 875, 876, 877, 878, 879, 880, 881, 882] (by decide +kernel) (by decide +kernel)
set_option maxRecDepth 20000 in
theorem gL_law_X5_bestPlace : GoodIn wsL_law (wsV RL 179 RX5 yX5_bestPlace wsX5_bestPlace) := goodIn_app (goodIn_of _ (by decide +kernel)) ggL_law_X5_bestPlace
set_option maxRecDepth 20000 in
theorem ggL_law_X4_bestGuard : GoodIn wsL_law wsX4_bestGuard := goodIn_r _ [732, 17, 16, 217, 487, 106, 107, 15, 108, 35, 109, 110, 111, 112, 36, 37, 38, 42, 113, 114, 115, 116, 117, 118, 41, 119, 47, 120, 48, 53, 54, 55, 56, 57, 142, 133, 2, 134, 647, 648, 649, 650, 275, 276, 277, 278, 279, 280, 281, 282, 283, 284, 131, 285, 286, 287, 288, 289, 866, 867, 868, 869, 870, 871, 872, 883, 884, 885, 886, 887, 888, 889, 890, 899, 900, 901, 902, 903, 904, 905] (by decide +kernel) (by decide +kernel)
set_option maxRecDepth 20000 in
theorem gL_law_X4_bestGuard : GoodIn wsL_law (wsV RL 180 RX4 yX4_bestGuard wsX4_bestGuard) := goodIn_app (goodIn_of _ (by decide +kernel)) ggL_law_X4_bestGuard
set_option maxRecDepth 20000 in
theorem ggL_law_X5_bestGuard : GoodIn wsL_law wsX5_bestGuard := goodIn_r _ [736, 160, 737, 738, 739, 5, 740, 74, 204, 205, 206, 166, 167, 168, 169, 675, 676, 677, 678, 299, 300, 301, 302, 303, 304, 305, 306, 307, 308, 309, 310, 311, 312, 313, 314, 315, 316, 317, 318, 200, 201, 202, 203, 549, 550, 551, 552, 873, 874, 875, 876, 877, 878, 879, 880, 881, 882] (by decide +kernel) (by decide +kernel)
set_option maxRecDepth 20000 in
theorem gL_law_X5_bestGuard : GoodIn wsL_law (wsV RL 183 RX5 yX5_bestGuard wsX5_bestGuard) := goodIn_app (goodIn_of _ (by decide +kernel)) ggL_law_X5_bestGuard
set_option maxRecDepth 20000 in
theorem ggL_law_L_lastsFor : GoodIn wsL_law wsL_lastsFor := goodIn_ca (goodIn_r _ [743, 82, 744, 745, 746, 2, 747, 87, 88, 16, 90, 91, 92, 93, 94, 95, 748, 749, 750, 15, 751, 38, 37, 35, 133, 134, 866, 867, 868, 869, 870, 871, 872, 883, 884, 885, 886, 887, 888, 889, 890] (by decide +kernel) (by decide +kernel)) (goodIn_sub (fun _ h => List.mem_append_left _ (List.mem_append_left _ (List.mem_append_right _ h))) (by decide +kernel))
set_option maxRecDepth 20000 in
theorem gL_law_L_lastsFor : GoodIn wsL_law (va_wsS RL 184 yL_lastsFor wsL_lastsFor) := goodIn_app (goodIn_of _ (by decide +kernel)) ggL_law_L_lastsFor
set_option maxRecDepth 20000 in
theorem ggL_law_X5_lastsFor : GoodIn wsL_law wsX5_lastsFor := goodIn_r _ [755, 147, 148, 5, 149, 150, 151, 152, 156, 157, 158, 159, 160, 756, 757, 758, 759, 299, 300, 301, 302, 303, 304, 305, 306, 74, 307, 308, 309, 310, 311, 312, 313, 314, 315, 316, 317, 318, 204, 205, 206, 200, 201, 202, 203, 166, 167, 168, 169, 295, 296, 297, 298, 170, 171, 172, 173, 873, 874, 875, 876, 877, 878, 879, 880, 881, 882] (by decide +kernel) (by decide +kernel)
set_option maxRecDepth 20000 in
theorem gL_law_X5_lastsFor : GoodIn wsL_law (wsV RL 186 RX5 yX5_lastsFor wsX5_lastsFor) := goodIn_app (goodIn_of _ (by decide +kernel)) ggL_law_X5_lastsFor
set_option maxRecDepth 20000 in
theorem ggL_law_L_ifGone : GoodIn wsL_law wsL_ifGone := goodIn_ca (goodIn_r _ [762, 181, 763, 764, 765, 2, 766, 186, 187, 17, 16, 323, 606, 605, 609, 93, 94, 95, 487, 106, 107, 15, 108, 35, 109, 110, 111, 112, 36, 37, 38, 42, 113, 114, 115, 116, 117, 118, 41, 119, 47, 120, 48, 53, 54, 55, 56, 57, 337, 338, 339, 340, 341, 342, 343, 268, 269, 270, 271, 272, 273, 274, 275, 276, 277, 278, 133, 134, 279, 280, 281, 282, 283, 284, 131, 285, 286, 287, 288, 289, 290, 189, 190, 191, 125, 126, 127, 128, 129, 130, 132, 344, 345, 346, 347, 348, 349, 350, 351, 866, 867, 868, 869, 870, 871, 872, 883, 884, 885, 886, 887, 888, 889, 890, 899, 900, 901, 902, 903, 904, 905] (by decide +kernel) (by decide +kernel)) (goodIn_sub (fun _ h => List.mem_append_left _ (List.mem_append_right _ h)) (by decide +kernel))
set_option maxRecDepth 20000 in
theorem gL_law_L_ifGone : GoodIn wsL_law (va_wsS RL 187 yL_ifGone wsL_ifGone) := goodIn_app (goodIn_of _ (by decide +kernel)) ggL_law_L_ifGone
set_option maxRecDepth 20000 in
theorem ggL_law_X5_ifGone : GoodIn wsL_law wsX5_ifGone := goodIn_r _ [770, 150, 151, 5, 152, 156, 157, 158, 159, 160, 771, 772, 773, 774, 74, 166, 167, 168, 169, 356, 357, 358, 359, 360, 361, 362, 363, 295, 296, 297, 298, 299, 300, 301, 302, 303, 304, 305, 306, 307, 308, 309, 310, 311, 312, 313, 314, 315, 316, 317, 318, 204, 205, 206, 200, 201, 202, 203, 170, 171, 172, 173, 364, 365, 366, 367, 873, 874, 875, 876, 877, 878, 879, 880, 881, 882] (by decide +kernel) (by decide +kernel)
set_option maxRecDepth 20000 in
theorem gL_law_X5_ifGone : GoodIn wsL_law (wsV RL 189 RX5 yX5_ifGone wsX5_ifGone) := goodIn_app (goodIn_of _ (by decide +kernel)) ggL_law_X5_ifGone
set_option maxRecDepth 20000 in
theorem ggL_law_X4_rightShare : GoodIn wsL_law wsX4_rightShare := goodIn_r _ [778, 16, 779, 647, 648, 649, 15, 650, 35, 275, 276, 277, 278, 38, 133, 2, 134, 279, 280, 281, 282, 283, 284, 131, 285, 37, 286, 287, 288, 289, 113, 866, 867, 868, 869, 870, 871, 872, 883, 884, 885, 886, 887, 888, 889, 890] (by decide +kernel) (by decide +kernel)
set_option maxRecDepth 20000 in
theorem gL_law_X4_rightShare : GoodIn wsL_law (wsV RL 190 RX4 yX4_rightShare wsX4_rightShare) := goodIn_app (goodIn_of _ (by decide +kernel)) ggL_law_X4_rightShare
set_option maxRecDepth 20000 in
theorem ggL_law_X5_rightShare : GoodIn wsL_law wsX5_rightShare := goodIn_r _ [783, 160, 784, 785, 786, 5, 787, 788, 675, 676, 677, 678, 299, 300, 301, 302, 303, 304, 305, 306, 74, 307, 308, 309, 310, 311, 312, 313, 314, 315, 316, 317, 318, 204, 205, 206, 200, 201, 202, 203, 549, 550, 551, 552, 873, 874, 875, 876, 877, 878, 879, 880, 881, 882] (by decide +kernel) (by decide +kernel)
set_option maxRecDepth 20000 in
theorem gL_law_X5_rightShare : GoodIn wsL_law (wsV RL 194 RX5 yX5_rightShare wsX5_rightShare) := goodIn_app (goodIn_of _ (by decide +kernel)) ggL_law_X5_rightShare
set_option maxRecDepth 20000 in
theorem ggL_law_X4_meanWear : GoodIn wsL_law wsX4_meanWear := goodIn_r _ [792, 16, 793, 794, 795, 796, 15, 797, 37, 866, 867, 868, 869, 870, 871, 872, 883, 884, 885, 886, 887, 888, 889, 890] (by decide +kernel) (by decide +kernel)
set_option maxRecDepth 20000 in
theorem gL_law_X4_meanWear : GoodIn wsL_law (wsV RL 195 RX4 yX4_meanWear wsX4_meanWear) := goodIn_app (goodIn_of _ (by decide +kernel)) ggL_law_X4_meanWear
set_option maxRecDepth 20000 in
theorem ggL_law_X5_meanWear : GoodIn wsL_law wsX5_meanWear := goodIn_r _ [801, 160, 802, 803, 804, 5, 805, 74, 806, 873, 874, 875, 876, 877, 878, 879, 880, 881, 882] (by decide +kernel) (by decide +kernel)
set_option maxRecDepth 20000 in
theorem gL_law_X5_meanWear : GoodIn wsL_law (wsV RL 199 RX5 yX5_meanWear wsX5_meanWear) := goodIn_app (goodIn_of _ (by decide +kernel)) ggL_law_X5_meanWear
