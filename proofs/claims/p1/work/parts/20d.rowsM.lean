theorem dX5_counted_101 : decode cX5_counted 101 = .ok (.if_icmp .ne 7, 3) := by decide +kernel
theorem dX5_counted_104 : decode cX5_counted 104 = .ok (.iconst 1, 1) := by decide +kernel
theorem dX5_counted_105 : decode cX5_counted 105 = .ok (.goto 4, 3) := by decide +kernel
theorem dX5_counted_108 : decode cX5_counted 108 = .ok (.iconst 0, 1) := by decide +kernel
theorem dX5_counted_109 : decode cX5_counted 109 = .ok (.invokevirtual 158, 3) := by decide +kernel
theorem dX5_counted_112 : decode cX5_counted 112 = .ok (.ireturn, 1) := by decide +kernel
theorem dX5_counted_113 : decode cX5_counted 113 = .ok (.aload_n 0, 1) := by decide +kernel
theorem dX5_counted_114 : decode cX5_counted 114 = .ok (.getfield 76, 3) := by decide +kernel
theorem dX5_counted_117 : decode cX5_counted 117 = .ok (.ireturn, 1) := by decide +kernel
set_option maxRecDepth 20000 in
theorem ggX5_count_X5_in : GoodIn wsX5_count wsX5_in := goodIn_r _ [4] (by decide +kernel) (by decide +kernel)
set_option maxRecDepth 20000 in
theorem gX5_count_X5_in : GoodIn wsX5_count (va_wsS RX5 27 yX5_in wsX5_in) := goodIn_app (goodIn_of _ (by decide +kernel)) ggX5_count_X5_in
set_option maxRecDepth 20000 in
theorem ggX5_count_X5_holds : GoodIn wsX5_count wsX5_holds := goodIn_r _ [8, 9, 74, 75, 76, 77, 78, 79, 80, 81, 82, 83] (by decide +kernel) (by decide +kernel)
set_option maxRecDepth 20000 in
theorem gX5_count_X5_holds : GoodIn wsX5_count (wsV RX5 90 RX5 yX5_holds wsX5_holds) := goodIn_app (goodIn_of _ (by decide +kernel)) ggX5_count_X5_holds
set_option maxRecDepth 20000 in
theorem ggX5_count_X5_counted : GoodIn wsX5_count wsX5_counted := goodIn_r _ [13, 14, 15, 16, 17, 18, 3, 19, 20, 21, 22, 23, 24, 25, 26, 27, 28, 29, 30, 31, 32, 33, 34, 35, 36, 37, 38, 39, 40, 41, 42, 43, 44, 45, 46, 47, 48, 49, 50, 51, 52, 53, 54, 55, 56, 57, 58, 59, 60, 61, 62, 63, 64, 65, 66, 67, 68, 69, 70, 71, 72, 73, 74, 75, 76, 77, 78, 79, 80, 81, 82, 83] (by decide +kernel) (by decide +kernel)
set_option maxRecDepth 20000 in
theorem gX5_count_X5_counted : GoodIn wsX5_count (wsV RX5 162 RX5 yX5_counted wsX5_counted) := goodIn_app (goodIn_of _ (by decide +kernel)) ggX5_count_X5_counted
theorem dX5_count_0 : decode cX5_count 0 = .ok (.aload_n 0, 1) := by decide +kernel
theorem dX5_count_1 : decode cX5_count 1 = .ok (.iload_n 1, 1) := by decide +kernel
theorem dX5_count_2 : decode cX5_count 2 = .ok (.iconst 0, 1) := by decide +kernel
theorem dX5_count_3 : decode cX5_count 3 = .ok (.bipush 9, 2) := by decide +kernel
theorem dX5_count_5 : decode cX5_count 5 = .ok (.invokestatic 27, 3) := by decide +kernel
theorem dX5_count_8 : decode cX5_count 8 = .ok (.ifCond .eq 7, 3) := by decide +kernel
theorem dX5_count_11 : decode cX5_count 11 = .ok (.iconst 0, 1) := by decide +kernel
theorem dX5_count_12 : decode cX5_count 12 = .ok (.goto 4, 3) := by decide +kernel
theorem dX5_count_15 : decode cX5_count 15 = .ok (.iconst 1, 1) := by decide +kernel
theorem dX5_count_16 : decode cX5_count 16 = .ok (.invokevirtual 90, 3) := by decide +kernel
theorem dX5_count_19 : decode cX5_count 19 = .ok (.ifCond .eq 11, 3) := by decide +kernel
theorem dX5_count_22 : decode cX5_count 22 = .ok (.aload_n 0, 1) := by decide +kernel
theorem dX5_count_23 : decode cX5_count 23 = .ok (.iload_n 1, 1) := by decide +kernel
theorem dX5_count_24 : decode cX5_count 24 = .ok (.invokevirtual 162, 3) := by decide +kernel
theorem dX5_count_27 : decode cX5_count 27 = .ok (.goto 4, 3) := by decide +kernel
theorem dX5_count_30 : decode cX5_count 30 = .ok (.iconst 0, 1) := by decide +kernel
theorem dX5_count_31 : decode cX5_count 31 = .ok (.ireturn, 1) := by decide +kernel
set_option maxRecDepth 20000 in
theorem ggX5_setting_X5_in : GoodIn wsX5_setting wsX5_in := goodIn_r _ [5] (by decide +kernel) (by decide +kernel)
set_option maxRecDepth 20000 in
theorem gX5_setting_X5_in : GoodIn wsX5_setting (va_wsS RX5 27 yX5_in wsX5_in) := goodIn_app (goodIn_of _ (by decide +kernel)) ggX5_setting_X5_in
set_option maxRecDepth 20000 in
theorem ggX5_setting_X5_holds : GoodIn wsX5_setting wsX5_holds := goodIn_r _ [9, 10, 11, 12, 13, 14, 15, 16, 17, 18, 19, 20] (by decide +kernel) (by decide +kernel)
set_option maxRecDepth 20000 in
theorem gX5_setting_X5_holds : GoodIn wsX5_setting (wsV RX5 90 RX5 yX5_holds wsX5_holds) := goodIn_app (goodIn_of _ (by decide +kernel)) ggX5_setting_X5_holds
theorem dX5_setting_0 : decode cX5_setting 0 = .ok (.aload_n 0, 1) := by decide +kernel
theorem dX5_setting_1 : decode cX5_setting 1 = .ok (.iload_n 1, 1) := by decide +kernel
theorem dX5_setting_2 : decode cX5_setting 2 = .ok (.iconst 0, 1) := by decide +kernel
theorem dX5_setting_3 : decode cX5_setting 3 = .ok (.iconst 1, 1) := by decide +kernel
theorem dX5_setting_4 : decode cX5_setting 4 = .ok (.invokestatic 27, 3) := by decide +kernel
theorem dX5_setting_7 : decode cX5_setting 7 = .ok (.ifCond .eq 7, 3) := by decide +kernel
theorem dX5_setting_10 : decode cX5_setting 10 = .ok (.iconst 0, 1) := by decide +kernel
theorem dX5_setting_11 : decode cX5_setting 11 = .ok (.goto 4, 3) := by decide +kernel
theorem dX5_setting_14 : decode cX5_setting 14 = .ok (.iconst 1, 1) := by decide +kernel
theorem dX5_setting_15 : decode cX5_setting 15 = .ok (.invokevirtual 90, 3) := by decide +kernel
theorem dX5_setting_18 : decode cX5_setting 18 = .ok (.ifCond .eq 15, 3) := by decide +kernel
theorem dX5_setting_21 : decode cX5_setting 21 = .ok (.aload_n 0, 1) := by decide +kernel
theorem dX5_setting_22 : decode cX5_setting 22 = .ok (.getfield 7, 3) := by decide +kernel
theorem dX5_setting_25 : decode cX5_setting 25 = .ok (.bipush 25, 2) := by decide +kernel
theorem dX5_setting_27 : decode cX5_setting 27 = .ok (.iload_n 1, 1) := by decide +kernel
theorem dX5_setting_28 : decode cX5_setting 28 = .ok (.iadd, 1) := by decide +kernel
theorem dX5_setting_29 : decode cX5_setting 29 = .ok (.iaload, 1) := by decide +kernel
theorem dX5_setting_30 : decode cX5_setting 30 = .ok (.goto 4, 3) := by decide +kernel
theorem dX5_setting_33 : decode cX5_setting 33 = .ok (.iconst 0, 1) := by decide +kernel
theorem dX5_setting_34 : decode cX5_setting 34 = .ok (.ireturn, 1) := by decide +kernel
set_option maxRecDepth 20000 in
theorem ggX5_wouldLoad_X5_copies : GoodIn wsX5_wouldLoad wsX5_copies := goodIn_r _ [5, 6, 31, 32, 33, 34, 35, 36, 37, 38, 39, 40] (by decide +kernel) (by decide +kernel)
set_option maxRecDepth 20000 in
theorem gX5_wouldLoad_X5_copies : GoodIn wsX5_wouldLoad (wsV RX5 79 RX5 yX5_copies wsX5_copies) := goodIn_app (goodIn_of _ (by decide +kernel)) ggX5_wouldLoad_X5_copies
set_option maxRecDepth 20000 in
theorem ggX5_wouldLoad_X5_loads : GoodIn wsX5_wouldLoad wsX5_loads := goodIn_r _ [10, 11, 12, 13, 14, 15, 4, 16, 6, 17, 18, 19, 20, 21, 22, 23, 24, 25, 26, 27, 28, 29, 30, 31, 32, 33, 34, 35, 36, 37, 38, 39, 40] (by decide +kernel) (by decide +kernel)
set_option maxRecDepth 20000 in
theorem gX5_wouldLoad_X5_loads : GoodIn wsX5_wouldLoad (wsV RX5 125 RX5 yX5_loads wsX5_loads) := goodIn_app (goodIn_of _ (by decide +kernel)) ggX5_wouldLoad_X5_loads
theorem dX5_wouldLoad_0 : decode cX5_wouldLoad 0 = .ok (.aload_n 0, 1) := by decide +kernel
theorem dX5_wouldLoad_1 : decode cX5_wouldLoad 1 = .ok (.iconst 0, 1) := by decide +kernel
theorem dX5_wouldLoad_2 : decode cX5_wouldLoad 2 = .ok (.bipush 9, 2) := by decide +kernel
theorem dX5_wouldLoad_4 : decode cX5_wouldLoad 4 = .ok (.invokevirtual 79, 3) := by decide +kernel
theorem dX5_wouldLoad_7 : decode cX5_wouldLoad 7 = .ok (.aload_n 0, 1) := by decide +kernel
theorem dX5_wouldLoad_8 : decode cX5_wouldLoad 8 = .ok (.sipush 558, 3) := by decide +kernel
theorem dX5_wouldLoad_11 : decode cX5_wouldLoad 11 = .ok (.iload_n 1, 1) := by decide +kernel
theorem dX5_wouldLoad_12 : decode cX5_wouldLoad 12 = .ok (.invokevirtual 125, 3) := by decide +kernel
theorem dX5_wouldLoad_15 : decode cX5_wouldLoad 15 = .ok (.ireturn, 1) := by decide +kernel
set_option maxRecDepth 20000 in
theorem ggX5_ifLoaded_X5_isThread : GoodIn wsX5_ifLoaded wsX5_isThread := goodIn_r _ [4, 5, 6, 3, 7] (by decide +kernel) (by decide +kernel)
set_option maxRecDepth 20000 in
theorem gX5_ifLoaded_X5_isThread : GoodIn wsX5_ifLoaded (va_wsS RX5 83 yX5_isThread wsX5_isThread) := goodIn_app (goodIn_of _ (by decide +kernel)) ggX5_ifLoaded_X5_isThread
set_option maxRecDepth 20000 in
theorem ggX5_ifLoaded_X5_holds : GoodIn wsX5_ifLoaded wsX5_holds := goodIn_r _ [11, 12, 61, 62, 63, 64, 65, 66, 67, 68, 69, 70] (by decide +kernel) (by decide +kernel)
set_option maxRecDepth 20000 in
theorem gX5_ifLoaded_X5_holds : GoodIn wsX5_ifLoaded (wsV RX5 90 RX5 yX5_holds wsX5_holds) := goodIn_app (goodIn_of _ (by decide +kernel)) ggX5_ifLoaded_X5_holds
set_option maxRecDepth 20000 in
theorem ggX5_ifLoaded_X5_isProgram : GoodIn wsX5_ifLoaded wsX5_isProgram := goodIn_r _ [16, 17, 18, 19, 20, 21, 22, 23, 3, 24, 25, 26, 27, 28, 29, 5, 6, 7, 61, 62, 63, 64, 65, 66, 67, 68, 69, 70] (by decide +kernel) (by decide +kernel)
set_option maxRecDepth 20000 in
theorem gX5_ifLoaded_X5_isProgram : GoodIn wsX5_ifLoaded (wsV RX5 122 RX5 yX5_isProgram wsX5_isProgram) := goodIn_app (goodIn_of _ (by decide +kernel)) ggX5_ifLoaded_X5_isProgram
set_option maxRecDepth 20000 in
theorem ggX5_ifLoaded_X5_wouldLoad : GoodIn wsX5_ifLoaded wsX5_wouldLoad := goodIn_r _ [33, 34, 35, 36, 3, 37, 38, 39, 40, 41, 42, 18, 25, 43, 44, 45, 46, 47, 48, 49, 50, 51, 52, 53, 54, 55, 56, 57, 58, 59, 60, 61, 62, 63, 64, 65, 66, 67, 68, 69, 70] (by decide +kernel) (by decide +kernel)
set_option maxRecDepth 20000 in
theorem gX5_ifLoaded_X5_wouldLoad : GoodIn wsX5_ifLoaded (wsV RX5 165 RX5 yX5_wouldLoad wsX5_wouldLoad) := goodIn_app (goodIn_of _ (by decide +kernel)) ggX5_ifLoaded_X5_wouldLoad
theorem dX5_ifLoaded_0 : decode cX5_ifLoaded 0 = .ok (.aload_n 0, 1) := by decide +kernel
theorem dX5_ifLoaded_1 : decode cX5_ifLoaded 1 = .ok (.iload_n 1, 1) := by decide +kernel
theorem dX5_ifLoaded_2 : decode cX5_ifLoaded 2 = .ok (.invokestatic 83, 3) := by decide +kernel
theorem dX5_ifLoaded_5 : decode cX5_ifLoaded 5 = .ok (.ifCond .eq 7, 3) := by decide +kernel
theorem dX5_ifLoaded_8 : decode cX5_ifLoaded 8 = .ok (.iconst 0, 1) := by decide +kernel
theorem dX5_ifLoaded_9 : decode cX5_ifLoaded 9 = .ok (.goto 4, 3) := by decide +kernel
theorem dX5_ifLoaded_12 : decode cX5_ifLoaded 12 = .ok (.iconst 1, 1) := by decide +kernel
theorem dX5_ifLoaded_13 : decode cX5_ifLoaded 13 = .ok (.invokevirtual 90, 3) := by decide +kernel
theorem dX5_ifLoaded_16 : decode cX5_ifLoaded 16 = .ok (.ifCond .ne 5, 3) := by decide +kernel
theorem dX5_ifLoaded_19 : decode cX5_ifLoaded 19 = .ok (.iconst 0, 1) := by decide +kernel
theorem dX5_ifLoaded_20 : decode cX5_ifLoaded 20 = .ok (.ireturn, 1) := by decide +kernel
theorem dX5_ifLoaded_21 : decode cX5_ifLoaded 21 = .ok (.aload_n 0, 1) := by decide +kernel
theorem dX5_ifLoaded_22 : decode cX5_ifLoaded 22 = .ok (.invokevirtual 122, 3) := by decide +kernel
theorem dX5_ifLoaded_25 : decode cX5_ifLoaded 25 = .ok (.ifCond .eq 11, 3) := by decide +kernel
theorem dX5_ifLoaded_28 : decode cX5_ifLoaded 28 = .ok (.aload_n 0, 1) := by decide +kernel
theorem dX5_ifLoaded_29 : decode cX5_ifLoaded 29 = .ok (.iload_n 1, 1) := by decide +kernel
theorem dX5_ifLoaded_30 : decode cX5_ifLoaded 30 = .ok (.invokevirtual 165, 3) := by decide +kernel
theorem dX5_ifLoaded_33 : decode cX5_ifLoaded 33 = .ok (.goto 4, 3) := by decide +kernel
theorem dX5_ifLoaded_36 : decode cX5_ifLoaded 36 = .ok (.iconst (-1), 1) := by decide +kernel
theorem dX5_ifLoaded_37 : decode cX5_ifLoaded 37 = .ok (.ireturn, 1) := by decide +kernel
set_option maxRecDepth 20000 in
theorem ggX5_placeFound_X5_isProgram : GoodIn wsX5_placeFound wsX5_isProgram := goodIn_r _ [5, 6, 7, 8, 9, 10, 11, 12, 4, 13, 14, 15, 16, 17, 18, 19, 20, 21, 53, 54, 55, 56, 57, 58, 59, 60, 61, 62] (by decide +kernel) (by decide +kernel)
set_option maxRecDepth 20000 in
theorem gX5_placeFound_X5_isProgram : GoodIn wsX5_placeFound (wsV RX5 122 RX5 yX5_isProgram wsX5_isProgram) := goodIn_app (goodIn_of _ (by decide +kernel)) ggX5_placeFound_X5_isProgram
set_option maxRecDepth 20000 in
theorem ggX5_placeFound_X5_wouldLoad : GoodIn wsX5_placeFound wsX5_wouldLoad := goodIn_r _ [25, 26, 27, 28, 4, 29, 30, 31, 32, 33, 34, 7, 14, 35, 36, 37, 38, 39, 40, 41, 42, 43, 44, 45, 46, 47, 48, 49, 50, 51, 52, 53, 54, 55, 56, 57, 58, 59, 60, 61, 62] (by decide +kernel) (by decide +kernel)
set_option maxRecDepth 20000 in
theorem gX5_placeFound_X5_wouldLoad : GoodIn wsX5_placeFound (wsV RX5 165 RX5 yX5_wouldLoad wsX5_wouldLoad) := goodIn_app (goodIn_of _ (by decide +kernel)) ggX5_placeFound_X5_wouldLoad
theorem dX5_placeFound_0 : decode cX5_placeFound 0 = .ok (.aload_n 0, 1) := by decide +kernel
theorem dX5_placeFound_1 : decode cX5_placeFound 1 = .ok (.invokevirtual 122, 3) := by decide +kernel
theorem dX5_placeFound_4 : decode cX5_placeFound 4 = .ok (.ifCond .ne 5, 3) := by decide +kernel
theorem dX5_placeFound_7 : decode cX5_placeFound 7 = .ok (.iconst (-1), 1) := by decide +kernel
theorem dX5_placeFound_8 : decode cX5_placeFound 8 = .ok (.ireturn, 1) := by decide +kernel
theorem dX5_placeFound_9 : decode cX5_placeFound 9 = .ok (.iconst 0, 1) := by decide +kernel
theorem dX5_placeFound_10 : decode cX5_placeFound 10 = .ok (.istore_n 1, 1) := by decide +kernel
theorem dX5_placeFound_11 : decode cX5_placeFound 11 = .ok (.iconst 1, 1) := by decide +kernel
theorem dX5_placeFound_12 : decode cX5_placeFound 12 = .ok (.istore_n 2, 1) := by decide +kernel
theorem dX5_placeFound_13 : decode cX5_placeFound 13 = .ok (.iload_n 2, 1) := by decide +kernel
theorem dX5_placeFound_14 : decode cX5_placeFound 14 = .ok (.bipush 16, 2) := by decide +kernel
theorem dX5_placeFound_16 : decode cX5_placeFound 16 = .ok (.if_icmp .ge 28, 3) := by decide +kernel
theorem dX5_placeFound_19 : decode cX5_placeFound 19 = .ok (.aload_n 0, 1) := by decide +kernel
theorem dX5_placeFound_20 : decode cX5_placeFound 20 = .ok (.iload_n 2, 1) := by decide +kernel
theorem dX5_placeFound_21 : decode cX5_placeFound 21 = .ok (.invokevirtual 165, 3) := by decide +kernel
theorem dX5_placeFound_24 : decode cX5_placeFound 24 = .ok (.aload_n 0, 1) := by decide +kernel
theorem dX5_placeFound_25 : decode cX5_placeFound 25 = .ok (.iload_n 1, 1) := by decide +kernel
theorem dX5_placeFound_26 : decode cX5_placeFound 26 = .ok (.invokevirtual 165, 3) := by decide +kernel
theorem dX5_placeFound_29 : decode cX5_placeFound 29 = .ok (.if_icmp .ge 7, 3) := by decide +kernel
theorem dX5_placeFound_32 : decode cX5_placeFound 32 = .ok (.iload_n 2, 1) := by decide +kernel
theorem dX5_placeFound_33 : decode cX5_placeFound 33 = .ok (.goto 4, 3) := by decide +kernel
theorem dX5_placeFound_36 : decode cX5_placeFound 36 = .ok (.iload_n 1, 1) := by decide +kernel
theorem dX5_placeFound_37 : decode cX5_placeFound 37 = .ok (.istore_n 1, 1) := by decide +kernel
theorem dX5_placeFound_38 : decode cX5_placeFound 38 = .ok (.iinc 2 1, 3) := by decide +kernel
theorem dX5_placeFound_41 : decode cX5_placeFound 41 = .ok (.goto (-28), 3) := by decide +kernel
theorem dX5_placeFound_44 : decode cX5_placeFound 44 = .ok (.iload_n 1, 1) := by decide +kernel
theorem dX5_placeFound_45 : decode cX5_placeFound 45 = .ok (.ireturn, 1) := by decide +kernel
set_option maxRecDepth 20000 in
theorem ggX5_bestPlace_X5_placeFound : GoodIn wsX5_bestPlace wsX5_placeFound := goodIn_r _ [6, 7, 8, 9, 5, 10, 11, 12, 13, 14, 15, 16, 17, 18, 19, 20, 21, 22, 23, 24, 25, 26, 27, 28, 29, 30, 31, 32, 33, 34, 35, 36, 37, 38, 39, 40, 41, 42, 43, 44, 45, 46, 47, 48, 49, 50, 51, 52, 53, 54, 55, 56, 57, 58, 59, 60, 61, 62, 63, 64, 65, 66, 67] (by decide +kernel) (by decide +kernel)
set_option maxRecDepth 20000 in
theorem gX5_bestPlace_X5_placeFound : GoodIn wsX5_bestPlace (wsV RX5 168 RX5 yX5_placeFound wsX5_placeFound) := goodIn_app (goodIn_of _ (by decide +kernel)) ggX5_bestPlace_X5_placeFound
theorem dX5_bestPlace_0 : decode cX5_bestPlace 0 = .ok (.aload_n 0, 1) := by decide +kernel
theorem dX5_bestPlace_1 : decode cX5_bestPlace 1 = .ok (.iconst 0, 1) := by decide +kernel
theorem dX5_bestPlace_2 : decode cX5_bestPlace 2 = .ok (.putfield 23, 3) := by decide +kernel
theorem dX5_bestPlace_5 : decode cX5_bestPlace 5 = .ok (.aload_n 0, 1) := by decide +kernel
theorem dX5_bestPlace_6 : decode cX5_bestPlace 6 = .ok (.invokevirtual 168, 3) := by decide +kernel
theorem dX5_bestPlace_9 : decode cX5_bestPlace 9 = .ok (.ireturn, 1) := by decide +kernel
set_option maxRecDepth 20000 in
theorem ggX5_guardFound_X5_has : GoodIn wsX5_guardFound wsX5_has := goodIn_r _ [5] (by decide +kernel) (by decide +kernel)
set_option maxRecDepth 20000 in
theorem gX5_guardFound_X5_has : GoodIn wsX5_guardFound (va_wsS RX5 31 yX5_has wsX5_has) := goodIn_app (goodIn_of _ (by decide +kernel)) ggX5_guardFound_X5_has
set_option maxRecDepth 20000 in
theorem ggX5_guardFound_X5_copies : GoodIn wsX5_guardFound wsX5_copies := goodIn_r _ [9, 1, 42, 43, 44, 45, 46, 47, 48, 49, 50, 51] (by decide +kernel) (by decide +kernel)
set_option maxRecDepth 20000 in
theorem gX5_guardFound_X5_copies : GoodIn wsX5_guardFound (wsV RX5 79 RX5 yX5_copies wsX5_copies) := goodIn_app (goodIn_of _ (by decide +kernel)) ggX5_guardFound_X5_copies
set_option maxRecDepth 20000 in
theorem ggX5_guardFound_X5_right : GoodIn wsX5_guardFound wsX5_right := goodIn_r _ [13, 14, 15, 16, 4, 17, 18, 19, 20, 21, 1, 22, 23, 24, 25, 26, 27, 28, 29, 30, 31, 32, 33, 2, 3, 5, 34, 35, 36, 37, 38, 39, 40, 41, 42, 43, 44, 45, 46, 47, 48, 49, 50, 51] (by decide +kernel) (by decide +kernel)
set_option maxRecDepth 20000 in
theorem gX5_guardFound_X5_right : GoodIn wsX5_guardFound (wsV RX5 152 RX5 yX5_right wsX5_right) := goodIn_app (goodIn_of _ (by decide +kernel)) ggX5_guardFound_X5_right
theorem dX5_guardFound_0 : decode cX5_guardFound 0 = .ok (.iconst (-1), 1) := by decide +kernel
theorem dX5_guardFound_1 : decode cX5_guardFound 1 = .ok (.istore_n 1, 1) := by decide +kernel
theorem dX5_guardFound_2 : decode cX5_guardFound 2 = .ok (.iconst (-1), 1) := by decide +kernel
theorem dX5_guardFound_3 : decode cX5_guardFound 3 = .ok (.istore_n 2, 1) := by decide +kernel
theorem dX5_guardFound_4 : decode cX5_guardFound 4 = .ok (.iconst 0, 1) := by decide +kernel
theorem dX5_guardFound_5 : decode cX5_guardFound 5 = .ok (.istore_n 3, 1) := by decide +kernel
theorem dX5_guardFound_6 : decode cX5_guardFound 6 = .ok (.iload_n 3, 1) := by decide +kernel
theorem dX5_guardFound_7 : decode cX5_guardFound 7 = .ok (.bipush 16, 2) := by decide +kernel
theorem dX5_guardFound_9 : decode cX5_guardFound 9 = .ok (.if_icmp .ge 78, 3) := by decide +kernel
theorem dX5_guardFound_12 : decode cX5_guardFound 12 = .ok (.aload_n 0, 1) := by decide +kernel
theorem dX5_guardFound_13 : decode cX5_guardFound 13 = .ok (.getfield 7, 3) := by decide +kernel
theorem dX5_guardFound_16 : decode cX5_guardFound 16 = .ok (.bipush 16, 2) := by decide +kernel
theorem dX5_guardFound_18 : decode cX5_guardFound 18 = .ok (.iaload, 1) := by decide +kernel
theorem dX5_guardFound_19 : decode cX5_guardFound 19 = .ok (.iload_n 3, 1) := by decide +kernel
theorem dX5_guardFound_20 : decode cX5_guardFound 20 = .ok (.invokestatic 31, 3) := by decide +kernel
theorem dX5_guardFound_23 : decode cX5_guardFound 23 = .ok (.ifCond .ne 58, 3) := by decide +kernel
theorem dX5_guardFound_26 : decode cX5_guardFound 26 = .ok (.aload_n 0, 1) := by decide +kernel
theorem dX5_guardFound_27 : decode cX5_guardFound 27 = .ok (.iconst 0, 1) := by decide +kernel
theorem dX5_guardFound_28 : decode cX5_guardFound 28 = .ok (.bipush 9, 2) := by decide +kernel
theorem dX5_guardFound_30 : decode cX5_guardFound 30 = .ok (.invokevirtual 79, 3) := by decide +kernel
theorem dX5_guardFound_33 : decode cX5_guardFound 33 = .ok (.aload_n 0, 1) := by decide +kernel
theorem dX5_guardFound_34 : decode cX5_guardFound 34 = .ok (.getfield 7, 3) := by decide +kernel
theorem dX5_guardFound_37 : decode cX5_guardFound 37 = .ok (.sipush 574, 3) := by decide +kernel
theorem dX5_guardFound_40 : decode cX5_guardFound 40 = .ok (.dup2, 1) := by decide +kernel
theorem dX5_guardFound_41 : decode cX5_guardFound 41 = .ok (.iaload, 1) := by decide +kernel
theorem dX5_guardFound_42 : decode cX5_guardFound 42 = .ok (.iconst 1, 1) := by decide +kernel
theorem dX5_guardFound_43 : decode cX5_guardFound 43 = .ok (.iload_n 3, 1) := by decide +kernel
theorem dX5_guardFound_44 : decode cX5_guardFound 44 = .ok (.ishl, 1) := by decide +kernel
theorem dX5_guardFound_45 : decode cX5_guardFound 45 = .ok (.iadd, 1) := by decide +kernel
theorem dX5_guardFound_46 : decode cX5_guardFound 46 = .ok (.iastore, 1) := by decide +kernel
theorem dX5_guardFound_47 : decode cX5_guardFound 47 = .ok (.aload_n 0, 1) := by decide +kernel
theorem dX5_guardFound_48 : decode cX5_guardFound 48 = .ok (.sipush 558, 3) := by decide +kernel
theorem dX5_guardFound_51 : decode cX5_guardFound 51 = .ok (.invokevirtual 152, 3) := by decide +kernel
theorem dX5_guardFound_54 : decode cX5_guardFound 54 = .ok (.istore 4, 2) := by decide +kernel
theorem dX5_guardFound_56 : decode cX5_guardFound 56 = .ok (.iload 4, 2) := by decide +kernel
theorem dX5_guardFound_58 : decode cX5_guardFound 58 = .ok (.iload_n 2, 1) := by decide +kernel
theorem dX5_guardFound_59 : decode cX5_guardFound 59 = .ok (.if_icmp .le 7, 3) := by decide +kernel
theorem dX5_guardFound_62 : decode cX5_guardFound 62 = .ok (.iload_n 3, 1) := by decide +kernel
theorem dX5_guardFound_63 : decode cX5_guardFound 63 = .ok (.goto 4, 3) := by decide +kernel
theorem dX5_guardFound_66 : decode cX5_guardFound 66 = .ok (.iload_n 1, 1) := by decide +kernel
theorem dX5_guardFound_67 : decode cX5_guardFound 67 = .ok (.istore_n 1, 1) := by decide +kernel
theorem dX5_guardFound_68 : decode cX5_guardFound 68 = .ok (.iload 4, 2) := by decide +kernel
theorem dX5_guardFound_70 : decode cX5_guardFound 70 = .ok (.iload_n 2, 1) := by decide +kernel
theorem dX5_guardFound_71 : decode cX5_guardFound 71 = .ok (.if_icmp .le 8, 3) := by decide +kernel
theorem dX5_guardFound_74 : decode cX5_guardFound 74 = .ok (.iload 4, 2) := by decide +kernel
theorem dX5_guardFound_76 : decode cX5_guardFound 76 = .ok (.goto 4, 3) := by decide +kernel
theorem dX5_guardFound_79 : decode cX5_guardFound 79 = .ok (.iload_n 2, 1) := by decide +kernel
theorem dX5_guardFound_80 : decode cX5_guardFound 80 = .ok (.istore_n 2, 1) := by decide +kernel
theorem dX5_guardFound_81 : decode cX5_guardFound 81 = .ok (.iinc 3 1, 3) := by decide +kernel
theorem dX5_guardFound_84 : decode cX5_guardFound 84 = .ok (.goto (-78), 3) := by decide +kernel
theorem dX5_guardFound_87 : decode cX5_guardFound 87 = .ok (.iload_n 1, 1) := by decide +kernel
theorem dX5_guardFound_88 : decode cX5_guardFound 88 = .ok (.ireturn, 1) := by decide +kernel
set_option maxRecDepth 20000 in
theorem ggX5_bestGuard_X5_guardFound : GoodIn wsX5_bestGuard wsX5_guardFound := goodIn_r _ [6, 7, 8, 9, 5, 10, 11, 12, 13, 14, 15, 16, 17, 18, 19, 20, 21, 22, 23, 24, 25, 26, 27, 28, 29, 30, 31, 32, 33, 34, 35, 36, 37, 38, 39, 40, 41, 42, 43, 44, 45, 46, 47, 48, 49, 50, 51, 52, 53, 54, 55, 56] (by decide +kernel) (by decide +kernel)
set_option maxRecDepth 20000 in
theorem gX5_bestGuard_X5_guardFound : GoodIn wsX5_bestGuard (wsV RX5 171 RX5 yX5_guardFound wsX5_guardFound) := goodIn_app (goodIn_of _ (by decide +kernel)) ggX5_bestGuard_X5_guardFound
theorem dX5_bestGuard_0 : decode cX5_bestGuard 0 = .ok (.aload_n 0, 1) := by decide +kernel
theorem dX5_bestGuard_1 : decode cX5_bestGuard 1 = .ok (.iconst 0, 1) := by decide +kernel
theorem dX5_bestGuard_2 : decode cX5_bestGuard 2 = .ok (.putfield 23, 3) := by decide +kernel
theorem dX5_bestGuard_5 : decode cX5_bestGuard 5 = .ok (.aload_n 0, 1) := by decide +kernel
theorem dX5_bestGuard_6 : decode cX5_bestGuard 6 = .ok (.invokevirtual 171, 3) := by decide +kernel
theorem dX5_bestGuard_9 : decode cX5_bestGuard 9 = .ok (.ireturn, 1) := by decide +kernel
set_option maxRecDepth 20000 in
theorem ggX5_readingsLeft_X5_wordOf : GoodIn wsX5_readingsLeft wsX5_wordOf := goodIn_r _ [5, 6, 7, 8, 4, 9, 10, 11, 12, 13, 14, 15, 16, 17, 18, 19, 20, 21, 22, 23, 24, 25, 26, 27, 28, 29, 42, 43, 44, 45, 46, 47, 48, 49, 50, 51] (by decide +kernel) (by decide +kernel)
set_option maxRecDepth 20000 in
theorem gX5_readingsLeft_X5_wordOf : GoodIn wsX5_readingsLeft (wsV RX5 52 RX5 yX5_wordOf wsX5_wordOf) := goodIn_app (goodIn_of _ (by decide +kernel)) ggX5_readingsLeft_X5_wordOf
set_option maxRecDepth 20000 in
theorem ggX5_readingsLeft_X5_copies : GoodIn wsX5_readingsLeft wsX5_copies := goodIn_r _ [33, 10, 42, 43, 44, 45, 46, 47, 48, 49, 50, 51] (by decide +kernel) (by decide +kernel)
set_option maxRecDepth 20000 in
theorem gX5_readingsLeft_X5_copies : GoodIn wsX5_readingsLeft (wsV RX5 79 RX5 yX5_copies wsX5_copies) := goodIn_app (goodIn_of _ (by decide +kernel)) ggX5_readingsLeft_X5_copies
set_option maxRecDepth 20000 in
theorem ggX5_readingsLeft_X5_reads : GoodIn wsX5_readingsLeft wsX5_reads := goodIn_r _ [37, 10, 1, 2, 3, 4, 5, 6, 7, 8, 9, 11, 12, 13, 14, 15, 16, 17, 18, 19, 20, 21, 22, 23, 24, 25, 26, 27, 28, 29, 38, 39, 40, 41, 42, 43, 44, 45, 46, 47, 48, 49, 50, 51] (by decide +kernel) (by decide +kernel)
set_option maxRecDepth 20000 in
theorem gX5_readingsLeft_X5_reads : GoodIn wsX5_readingsLeft (wsV RX5 66 RX5 yX5_reads wsX5_reads) := goodIn_app (goodIn_of _ (by decide +kernel)) ggX5_readingsLeft_X5_reads
theorem dX5_readingsLeft_0 : decode cX5_readingsLeft 0 = .ok (.aload_n 0, 1) := by decide +kernel
theorem dX5_readingsLeft_1 : decode cX5_readingsLeft 1 = .ok (.iconst 0, 1) := by decide +kernel
theorem dX5_readingsLeft_2 : decode cX5_readingsLeft 2 = .ok (.iload_n 1, 1) := by decide +kernel
theorem dX5_readingsLeft_3 : decode cX5_readingsLeft 3 = .ok (.invokevirtual 52, 3) := by decide +kernel
theorem dX5_readingsLeft_6 : decode cX5_readingsLeft 6 = .ok (.istore_n 2, 1) := by decide +kernel
theorem dX5_readingsLeft_7 : decode cX5_readingsLeft 7 = .ok (.aload_n 0, 1) := by decide +kernel
theorem dX5_readingsLeft_8 : decode cX5_readingsLeft 8 = .ok (.iconst 0, 1) := by decide +kernel
theorem dX5_readingsLeft_9 : decode cX5_readingsLeft 9 = .ok (.bipush 9, 2) := by decide +kernel
theorem dX5_readingsLeft_11 : decode cX5_readingsLeft 11 = .ok (.invokevirtual 79, 3) := by decide +kernel
theorem dX5_readingsLeft_14 : decode cX5_readingsLeft 14 = .ok (.iconst 1, 1) := by decide +kernel
theorem dX5_readingsLeft_15 : decode cX5_readingsLeft 15 = .ok (.istore_n 3, 1) := by decide +kernel
theorem dX5_readingsLeft_16 : decode cX5_readingsLeft 16 = .ok (.iload_n 3, 1) := by decide +kernel
theorem dX5_readingsLeft_17 : decode cX5_readingsLeft 17 = .ok (.bipush 100, 2) := by decide +kernel
theorem dX5_readingsLeft_19 : decode cX5_readingsLeft 19 = .ok (.if_icmp .ge 32, 3) := by decide +kernel
theorem dX5_readingsLeft_22 : decode cX5_readingsLeft 22 = .ok (.aload_n 0, 1) := by decide +kernel
theorem dX5_readingsLeft_23 : decode cX5_readingsLeft 23 = .ok (.sipush 558, 3) := by decide +kernel
theorem dX5_readingsLeft_26 : decode cX5_readingsLeft 26 = .ok (.iload_n 1, 1) := by decide +kernel
theorem dX5_readingsLeft_27 : decode cX5_readingsLeft 27 = .ok (.invokevirtual 66, 3) := by decide +kernel
theorem dX5_readingsLeft_30 : decode cX5_readingsLeft 30 = .ok (.pop, 1) := by decide +kernel
theorem dX5_readingsLeft_31 : decode cX5_readingsLeft 31 = .ok (.aload_n 0, 1) := by decide +kernel
theorem dX5_readingsLeft_32 : decode cX5_readingsLeft 32 = .ok (.sipush 558, 3) := by decide +kernel
theorem dX5_readingsLeft_35 : decode cX5_readingsLeft 35 = .ok (.iload_n 1, 1) := by decide +kernel
theorem dX5_readingsLeft_36 : decode cX5_readingsLeft 36 = .ok (.invokevirtual 52, 3) := by decide +kernel
theorem dX5_readingsLeft_39 : decode cX5_readingsLeft 39 = .ok (.iload_n 2, 1) := by decide +kernel
theorem dX5_readingsLeft_40 : decode cX5_readingsLeft 40 = .ok (.if_icmp .eq 5, 3) := by decide +kernel
theorem dX5_readingsLeft_43 : decode cX5_readingsLeft 43 = .ok (.iload_n 3, 1) := by decide +kernel
theorem dX5_readingsLeft_44 : decode cX5_readingsLeft 44 = .ok (.ireturn, 1) := by decide +kernel
theorem dX5_readingsLeft_45 : decode cX5_readingsLeft 45 = .ok (.iinc 3 1, 3) := by decide +kernel
theorem dX5_readingsLeft_48 : decode cX5_readingsLeft 48 = .ok (.goto (-32), 3) := by decide +kernel
theorem dX5_readingsLeft_51 : decode cX5_readingsLeft 51 = .ok (.iconst (-1), 1) := by decide +kernel
theorem dX5_readingsLeft_52 : decode cX5_readingsLeft 52 = .ok (.ireturn, 1) := by decide +kernel
set_option maxRecDepth 20000 in
theorem ggX5_lastsFor_X5_isThread : GoodIn wsX5_lastsFor wsX5_isThread := goodIn_r _ [4, 5, 6, 3, 7] (by decide +kernel) (by decide +kernel)
set_option maxRecDepth 20000 in
theorem gX5_lastsFor_X5_isThread : GoodIn wsX5_lastsFor (va_wsS RX5 83 yX5_isThread wsX5_isThread) := goodIn_app (goodIn_of _ (by decide +kernel)) ggX5_lastsFor_X5_isThread
set_option maxRecDepth 20000 in
theorem ggX5_lastsFor_X5_holds : GoodIn wsX5_lastsFor wsX5_holds := goodIn_r _ [11, 12, 57, 58, 59, 60, 61, 62, 63, 64, 65, 66] (by decide +kernel) (by decide +kernel)
set_option maxRecDepth 20000 in
theorem gX5_lastsFor_X5_holds : GoodIn wsX5_lastsFor (wsV RX5 90 RX5 yX5_holds wsX5_holds) := goodIn_app (goodIn_of _ (by decide +kernel)) ggX5_lastsFor_X5_holds
set_option maxRecDepth 20000 in
theorem ggX5_lastsFor_X5_readingsLeft : GoodIn wsX5_lastsFor wsX5_readingsLeft := goodIn_r _ [16, 17, 18, 19, 3, 20, 21, 22, 23, 24, 25, 26, 27, 28, 29, 30, 31, 32, 33, 34, 35, 36, 37, 38, 39, 40, 41, 42, 43, 44, 45, 46, 47, 48, 49, 50, 51, 52, 53, 54, 55, 56, 57, 58, 59, 60, 61, 62, 63, 64, 65, 66] (by decide +kernel) (by decide +kernel)
set_option maxRecDepth 20000 in
theorem gX5_lastsFor_X5_readingsLeft : GoodIn wsX5_lastsFor (wsV RX5 174 RX5 yX5_readingsLeft wsX5_readingsLeft) := goodIn_app (goodIn_of _ (by decide +kernel)) ggX5_lastsFor_X5_readingsLeft
theorem dX5_lastsFor_0 : decode cX5_lastsFor 0 = .ok (.aload_n 0, 1) := by decide +kernel
theorem dX5_lastsFor_1 : decode cX5_lastsFor 1 = .ok (.iload_n 1, 1) := by decide +kernel
theorem dX5_lastsFor_2 : decode cX5_lastsFor 2 = .ok (.invokestatic 83, 3) := by decide +kernel
theorem dX5_lastsFor_5 : decode cX5_lastsFor 5 = .ok (.ifCond .eq 7, 3) := by decide +kernel
theorem dX5_lastsFor_8 : decode cX5_lastsFor 8 = .ok (.iconst 0, 1) := by decide +kernel
theorem dX5_lastsFor_9 : decode cX5_lastsFor 9 = .ok (.goto 4, 3) := by decide +kernel
theorem dX5_lastsFor_12 : decode cX5_lastsFor 12 = .ok (.iconst 1, 1) := by decide +kernel
theorem dX5_lastsFor_13 : decode cX5_lastsFor 13 = .ok (.invokevirtual 90, 3) := by decide +kernel
theorem dX5_lastsFor_16 : decode cX5_lastsFor 16 = .ok (.ifCond .eq 11, 3) := by decide +kernel
theorem dX5_lastsFor_19 : decode cX5_lastsFor 19 = .ok (.aload_n 0, 1) := by decide +kernel
theorem dX5_lastsFor_20 : decode cX5_lastsFor 20 = .ok (.iload_n 1, 1) := by decide +kernel
theorem dX5_lastsFor_21 : decode cX5_lastsFor 21 = .ok (.invokevirtual 174, 3) := by decide +kernel
theorem dX5_lastsFor_24 : decode cX5_lastsFor 24 = .ok (.goto 4, 3) := by decide +kernel
theorem dX5_lastsFor_27 : decode cX5_lastsFor 27 = .ok (.iconst 0, 1) := by decide +kernel
theorem dX5_lastsFor_28 : decode cX5_lastsFor 28 = .ok (.ireturn, 1) := by decide +kernel
set_option maxRecDepth 20000 in
theorem ggX5_gone_X5_copies : GoodIn wsX5_gone wsX5_copies := goodIn_r _ [6, 1, 54, 55, 56, 57, 58, 59, 60, 61, 62, 63] (by decide +kernel) (by decide +kernel)
set_option maxRecDepth 20000 in
theorem gX5_gone_X5_copies : GoodIn wsX5_gone (wsV RX5 79 RX5 yX5_copies wsX5_copies) := goodIn_app (goodIn_of _ (by decide +kernel)) ggX5_gone_X5_copies
set_option maxRecDepth 20000 in
theorem ggX5_gone_X5_goes : GoodIn wsX5_gone wsX5_goes := goodIn_r _ [10, 1, 11, 12, 13, 5, 14, 15, 16, 17, 18, 19, 20, 21, 22, 23, 24, 25, 26, 27, 28, 29, 30, 31, 32, 33, 34, 35, 36, 37, 38, 39, 40, 41, 42, 43, 44, 45, 46, 47, 48, 49, 50, 51, 52, 53, 54, 55, 56, 57, 58, 59, 60, 61, 62, 63] (by decide +kernel) (by decide +kernel)
set_option maxRecDepth 20000 in
theorem gX5_gone_X5_goes : GoodIn wsX5_gone (wsV RX5 102 RX5 yX5_goes wsX5_goes) := goodIn_app (goodIn_of _ (by decide +kernel)) ggX5_gone_X5_goes
theorem dX5_gone_0 : decode cX5_gone 0 = .ok (.aload_n 0, 1) := by decide +kernel
theorem dX5_gone_1 : decode cX5_gone 1 = .ok (.iconst 0, 1) := by decide +kernel
theorem dX5_gone_2 : decode cX5_gone 2 = .ok (.bipush 9, 2) := by decide +kernel
theorem dX5_gone_4 : decode cX5_gone 4 = .ok (.invokevirtual 79, 3) := by decide +kernel
theorem dX5_gone_7 : decode cX5_gone 7 = .ok (.aload_n 0, 1) := by decide +kernel
theorem dX5_gone_8 : decode cX5_gone 8 = .ok (.sipush 558, 3) := by decide +kernel
theorem dX5_gone_11 : decode cX5_gone 11 = .ok (.iload_n 1, 1) := by decide +kernel
theorem dX5_gone_12 : decode cX5_gone 12 = .ok (.invokevirtual 102, 3) := by decide +kernel
theorem dX5_gone_15 : decode cX5_gone 15 = .ok (.istore_n 3, 1) := by decide +kernel
theorem dX5_gone_16 : decode cX5_gone 16 = .ok (.iload_n 2, 1) := by decide +kernel
theorem dX5_gone_17 : decode cX5_gone 17 = .ok (.ifCond .ne 7, 3) := by decide +kernel
theorem dX5_gone_20 : decode cX5_gone 20 = .ok (.iload_n 3, 1) := by decide +kernel
theorem dX5_gone_21 : decode cX5_gone 21 = .ok (.goto 51, 3) := by decide +kernel
theorem dX5_gone_24 : decode cX5_gone 24 = .ok (.iload_n 2, 1) := by decide +kernel
theorem dX5_gone_25 : decode cX5_gone 25 = .ok (.iconst 1, 1) := by decide +kernel
theorem dX5_gone_26 : decode cX5_gone 26 = .ok (.if_icmp .ne 14, 3) := by decide +kernel
theorem dX5_gone_29 : decode cX5_gone 29 = .ok (.aload_n 0, 1) := by decide +kernel
theorem dX5_gone_30 : decode cX5_gone 30 = .ok (.getfield 7, 3) := by decide +kernel
theorem dX5_gone_33 : decode cX5_gone 33 = .ok (.sipush 586, 3) := by decide +kernel
theorem dX5_gone_36 : decode cX5_gone 36 = .ok (.iaload, 1) := by decide +kernel
theorem dX5_gone_37 : decode cX5_gone 37 = .ok (.goto 35, 3) := by decide +kernel
theorem dX5_gone_40 : decode cX5_gone 40 = .ok (.iload_n 2, 1) := by decide +kernel
theorem dX5_gone_41 : decode cX5_gone 41 = .ok (.iconst 2, 1) := by decide +kernel
theorem dX5_gone_42 : decode cX5_gone 42 = .ok (.if_icmp .ne 14, 3) := by decide +kernel
theorem dX5_gone_45 : decode cX5_gone 45 = .ok (.aload_n 0, 1) := by decide +kernel
theorem dX5_gone_46 : decode cX5_gone 46 = .ok (.getfield 7, 3) := by decide +kernel
theorem dX5_gone_49 : decode cX5_gone 49 = .ok (.sipush 585, 3) := by decide +kernel
theorem dX5_gone_52 : decode cX5_gone 52 = .ok (.iaload, 1) := by decide +kernel
theorem dX5_gone_53 : decode cX5_gone 53 = .ok (.goto 19, 3) := by decide +kernel
theorem dX5_gone_56 : decode cX5_gone 56 = .ok (.aload_n 0, 1) := by decide +kernel
theorem dX5_gone_57 : decode cX5_gone 57 = .ok (.getfield 7, 3) := by decide +kernel
theorem dX5_gone_60 : decode cX5_gone 60 = .ok (.sipush 593, 3) := by decide +kernel
theorem dX5_gone_63 : decode cX5_gone 63 = .ok (.iaload, 1) := by decide +kernel
theorem dX5_gone_64 : decode cX5_gone 64 = .ok (.aload_n 0, 1) := by decide +kernel
theorem dX5_gone_65 : decode cX5_gone 65 = .ok (.getfield 7, 3) := by decide +kernel
theorem dX5_gone_68 : decode cX5_gone 68 = .ok (.bipush 35, 2) := by decide +kernel
theorem dX5_gone_70 : decode cX5_gone 70 = .ok (.iaload, 1) := by decide +kernel
theorem dX5_gone_71 : decode cX5_gone 71 = .ok (.isub, 1) := by decide +kernel
theorem dX5_gone_72 : decode cX5_gone 72 = .ok (.ireturn, 1) := by decide +kernel
set_option maxRecDepth 20000 in
theorem ggX5_ifGone_X5_in : GoodIn wsX5_ifGone wsX5_in := goodIn_r _ [4] (by decide +kernel) (by decide +kernel)
set_option maxRecDepth 20000 in
theorem gX5_ifGone_X5_in : GoodIn wsX5_ifGone (va_wsS RX5 27 yX5_in wsX5_in) := goodIn_app (goodIn_of _ (by decide +kernel)) ggX5_ifGone_X5_in
set_option maxRecDepth 20000 in
theorem ggX5_ifGone_X5_holds : GoodIn wsX5_ifGone wsX5_holds := goodIn_r _ [8, 9, 66, 67, 68, 69, 70, 71, 72, 73, 74, 75] (by decide +kernel) (by decide +kernel)
set_option maxRecDepth 20000 in
theorem gX5_ifGone_X5_holds : GoodIn wsX5_ifGone (wsV RX5 90 RX5 yX5_holds wsX5_holds) := goodIn_app (goodIn_of _ (by decide +kernel)) ggX5_ifGone_X5_holds
set_option maxRecDepth 20000 in
theorem ggX5_ifGone_X5_gone : GoodIn wsX5_ifGone wsX5_gone := goodIn_r _ [13, 14, 15, 16, 17, 3, 18, 19, 20, 21, 22, 23, 24, 25, 26, 27, 28, 29, 30, 31, 32, 33, 34, 35, 36, 37, 38, 39, 40, 41, 42, 43, 44, 45, 46, 47, 48, 49, 50, 51, 52, 53, 54, 55, 56, 57, 58, 59, 60, 61, 62, 63, 64, 65, 66, 67, 68, 69, 70, 71, 72, 73, 74, 75] (by decide +kernel) (by decide +kernel)
set_option maxRecDepth 20000 in
theorem gX5_ifGone_X5_gone : GoodIn wsX5_ifGone (wsV RX5 177 RX5 yX5_gone wsX5_gone) := goodIn_app (goodIn_of _ (by decide +kernel)) ggX5_ifGone_X5_gone
theorem dX5_ifGone_0 : decode cX5_ifGone 0 = .ok (.aload_n 0, 1) := by decide +kernel
theorem dX5_ifGone_1 : decode cX5_ifGone 1 = .ok (.iload_n 1, 1) := by decide +kernel
theorem dX5_ifGone_2 : decode cX5_ifGone 2 = .ok (.iconst 1, 1) := by decide +kernel
theorem dX5_ifGone_3 : decode cX5_ifGone 3 = .ok (.bipush 99, 2) := by decide +kernel
theorem dX5_ifGone_5 : decode cX5_ifGone 5 = .ok (.invokestatic 27, 3) := by decide +kernel
theorem dX5_ifGone_8 : decode cX5_ifGone 8 = .ok (.ifCond .eq 16, 3) := by decide +kernel
theorem dX5_ifGone_11 : decode cX5_ifGone 11 = .ok (.iload_n 2, 1) := by decide +kernel
theorem dX5_ifGone_12 : decode cX5_ifGone 12 = .ok (.iconst 0, 1) := by decide +kernel
theorem dX5_ifGone_13 : decode cX5_ifGone 13 = .ok (.iconst 3, 1) := by decide +kernel
theorem dX5_ifGone_14 : decode cX5_ifGone 14 = .ok (.invokestatic 27, 3) := by decide +kernel
theorem dX5_ifGone_17 : decode cX5_ifGone 17 = .ok (.ifCond .eq 7, 3) := by decide +kernel
theorem dX5_ifGone_20 : decode cX5_ifGone 20 = .ok (.iconst 0, 1) := by decide +kernel
theorem dX5_ifGone_21 : decode cX5_ifGone 21 = .ok (.goto 4, 3) := by decide +kernel
theorem dX5_ifGone_24 : decode cX5_ifGone 24 = .ok (.iconst 1, 1) := by decide +kernel
theorem dX5_ifGone_25 : decode cX5_ifGone 25 = .ok (.invokevirtual 90, 3) := by decide +kernel
theorem dX5_ifGone_28 : decode cX5_ifGone 28 = .ok (.ifCond .eq 12, 3) := by decide +kernel
theorem dX5_ifGone_31 : decode cX5_ifGone 31 = .ok (.aload_n 0, 1) := by decide +kernel
theorem dX5_ifGone_32 : decode cX5_ifGone 32 = .ok (.iload_n 1, 1) := by decide +kernel
theorem dX5_ifGone_33 : decode cX5_ifGone 33 = .ok (.iload_n 2, 1) := by decide +kernel
theorem dX5_ifGone_34 : decode cX5_ifGone 34 = .ok (.invokevirtual 177, 3) := by decide +kernel
theorem dX5_ifGone_37 : decode cX5_ifGone 37 = .ok (.goto 4, 3) := by decide +kernel
theorem dX5_ifGone_40 : decode cX5_ifGone 40 = .ok (.iconst 0, 1) := by decide +kernel
theorem dX5_ifGone_41 : decode cX5_ifGone 41 = .ok (.ireturn, 1) := by decide +kernel
set_option maxRecDepth 20000 in
theorem ggX5_share_X5_right : GoodIn wsX5_share wsX5_right := goodIn_r _ [6, 7, 8, 9, 5, 10, 11, 12, 13, 14, 15, 16, 17, 18, 19, 20, 21, 22, 23, 24, 25, 26, 27, 28, 29, 30, 31, 32, 33, 34, 35, 36, 37, 38, 39, 40, 41, 42, 43, 44, 45, 46, 47, 48] (by decide +kernel) (by decide +kernel)
set_option maxRecDepth 20000 in
theorem gX5_share_X5_right : GoodIn wsX5_share (wsV RX5 152 RX5 yX5_right wsX5_right) := goodIn_app (goodIn_of _ (by decide +kernel)) ggX5_share_X5_right
theorem dX5_share_0 : decode cX5_share 0 = .ok (.aload_n 0, 1) := by decide +kernel
theorem dX5_share_1 : decode cX5_share 1 = .ok (.iconst 0, 1) := by decide +kernel
theorem dX5_share_2 : decode cX5_share 2 = .ok (.invokevirtual 152, 3) := by decide +kernel
theorem dX5_share_5 : decode cX5_share 5 = .ok (.i2d, 1) := by decide +kernel
theorem dX5_share_6 : decode cX5_share 6 = .ok (.ldc2_w 180, 3) := by decide +kernel
theorem dX5_share_9 : decode cX5_share 9 = .ok (.ddiv, 1) := by decide +kernel
theorem dX5_share_10 : decode cX5_share 10 = .ok (.dreturn, 1) := by decide +kernel
set_option maxRecDepth 20000 in
theorem ggX5_rightShare_X5_share : GoodIn wsX5_rightShare wsX5_share := goodIn_r _ [6, 7, 8, 9, 10, 5, 11, 12, 13, 14, 15, 16, 17, 18, 19, 20, 21, 22, 23, 24, 25, 26, 27, 28, 29, 30, 31, 32, 33, 34, 35, 36, 37, 38, 39, 40, 41, 42, 43, 44, 45, 46, 47, 48, 49, 50, 51, 52, 53] (by decide +kernel) (by decide +kernel)
set_option maxRecDepth 20000 in
theorem gX5_rightShare_X5_share : GoodIn wsX5_rightShare (wsV RX5 182 RX5 yX5_share wsX5_share) := goodIn_app (goodIn_of _ (by decide +kernel)) ggX5_rightShare_X5_share
theorem dX5_rightShare_0 : decode cX5_rightShare 0 = .ok (.aload_n 0, 1) := by decide +kernel
theorem dX5_rightShare_1 : decode cX5_rightShare 1 = .ok (.iconst 0, 1) := by decide +kernel
theorem dX5_rightShare_2 : decode cX5_rightShare 2 = .ok (.putfield 23, 3) := by decide +kernel
theorem dX5_rightShare_5 : decode cX5_rightShare 5 = .ok (.aload_n 0, 1) := by decide +kernel
theorem dX5_rightShare_6 : decode cX5_rightShare 6 = .ok (.invokevirtual 182, 3) := by decide +kernel
theorem dX5_rightShare_9 : decode cX5_rightShare 9 = .ok (.dreturn, 1) := by decide +kernel
theorem dX5_mean_0 : decode cX5_mean 0 = .ok (.iconst 0, 1) := by decide +kernel
theorem dX5_mean_1 : decode cX5_mean 1 = .ok (.istore_n 1, 1) := by decide +kernel
theorem dX5_mean_2 : decode cX5_mean 2 = .ok (.iconst 0, 1) := by decide +kernel
theorem dX5_mean_3 : decode cX5_mean 3 = .ok (.istore_n 2, 1) := by decide +kernel
theorem dX5_mean_4 : decode cX5_mean 4 = .ok (.iload_n 2, 1) := by decide +kernel
theorem dX5_mean_5 : decode cX5_mean 5 = .ok (.bipush 8, 2) := by decide +kernel
theorem dX5_mean_7 : decode cX5_mean 7 = .ok (.if_icmp .ge 21, 3) := by decide +kernel
theorem dX5_mean_10 : decode cX5_mean 10 = .ok (.iload_n 1, 1) := by decide +kernel
theorem dX5_mean_11 : decode cX5_mean 11 = .ok (.aload_n 0, 1) := by decide +kernel
theorem dX5_mean_12 : decode cX5_mean 12 = .ok (.getfield 7, 3) := by decide +kernel
theorem dX5_mean_15 : decode cX5_mean 15 = .ok (.bipush 17, 2) := by decide +kernel
theorem dX5_mean_17 : decode cX5_mean 17 = .ok (.iload_n 2, 1) := by decide +kernel
theorem dX5_mean_18 : decode cX5_mean 18 = .ok (.iadd, 1) := by decide +kernel
theorem dX5_mean_19 : decode cX5_mean 19 = .ok (.iaload, 1) := by decide +kernel
theorem dX5_mean_20 : decode cX5_mean 20 = .ok (.iadd, 1) := by decide +kernel
theorem dX5_mean_21 : decode cX5_mean 21 = .ok (.istore_n 1, 1) := by decide +kernel
theorem dX5_mean_22 : decode cX5_mean 22 = .ok (.iinc 2 1, 3) := by decide +kernel
theorem dX5_mean_25 : decode cX5_mean 25 = .ok (.goto (-21), 3) := by decide +kernel
theorem dX5_mean_28 : decode cX5_mean 28 = .ok (.iload_n 1, 1) := by decide +kernel
theorem dX5_mean_29 : decode cX5_mean 29 = .ok (.i2f, 1) := by decide +kernel
theorem dX5_mean_30 : decode cX5_mean 30 = .ok (.ldc 186, 2) := by decide +kernel
theorem dX5_mean_32 : decode cX5_mean 32 = .ok (.fdiv, 1) := by decide +kernel
theorem dX5_mean_33 : decode cX5_mean 33 = .ok (.freturn, 1) := by decide +kernel
set_option maxRecDepth 20000 in
theorem ggX5_meanWear_X5_mean : GoodIn wsX5_meanWear wsX5_mean := goodIn_r _ [6, 7, 8, 9, 10, 11, 12, 13, 14, 15, 16, 17, 18] (by decide +kernel) (by decide +kernel)
set_option maxRecDepth 20000 in
theorem gX5_meanWear_X5_mean : GoodIn wsX5_meanWear (wsV RX5 187 RX5 yX5_mean wsX5_mean) := goodIn_app (goodIn_of _ (by decide +kernel)) ggX5_meanWear_X5_mean
theorem dX5_meanWear_0 : decode cX5_meanWear 0 = .ok (.aload_n 0, 1) := by decide +kernel
theorem dX5_meanWear_1 : decode cX5_meanWear 1 = .ok (.iconst 0, 1) := by decide +kernel
theorem dX5_meanWear_2 : decode cX5_meanWear 2 = .ok (.putfield 23, 3) := by decide +kernel
theorem dX5_meanWear_5 : decode cX5_meanWear 5 = .ok (.aload_n 0, 1) := by decide +kernel
theorem dX5_meanWear_6 : decode cX5_meanWear 6 = .ok (.invokevirtual 187, 3) := by decide +kernel
theorem dX5_meanWear_9 : decode cX5_meanWear 9 = .ok (.freturn, 1) := by decide +kernel
theorem dX5_mix_0 : decode cX5_mix 0 = .ok (.aload_n 0, 1) := by decide +kernel
theorem dX5_mix_1 : decode cX5_mix 1 = .ok (.ldc2_w 191, 3) := by decide +kernel
theorem dX5_mix_4 : decode cX5_mix 4 = .ok (.aload_n 0, 1) := by decide +kernel
theorem dX5_mix_5 : decode cX5_mix 5 = .ok (.getfield 193, 3) := by decide +kernel
theorem dX5_mix_8 : decode cX5_mix 8 = .ok (.lmul, 1) := by decide +kernel
theorem dX5_mix_9 : decode cX5_mix 9 = .ok (.lload_n 1, 1) := by decide +kernel
theorem dX5_mix_10 : decode cX5_mix 10 = .ok (.ladd, 1) := by decide +kernel
theorem dX5_mix_11 : decode cX5_mix 11 = .ok (.putfield 193, 3) := by decide +kernel
theorem dX5_mix_14 : decode cX5_mix 14 = .ok (.return_, 1) := by decide +kernel
theorem dX5_bits_0 : decode cX5_bits 0 = .ok (.dload_n 0, 1) := by decide +kernel
theorem dX5_bits_1 : decode cX5_bits 1 = .ok (.dconst 0, 1) := by decide +kernel
theorem dX5_bits_2 : decode cX5_bits 2 = .ok (.dcmp .l, 1) := by decide +kernel
theorem dX5_bits_3 : decode cX5_bits 3 = .ok (.ifCond .ne 5, 3) := by decide +kernel
theorem dX5_bits_6 : decode cX5_bits 6 = .ok (.lconst 0, 1) := by decide +kernel
theorem dX5_bits_7 : decode cX5_bits 7 = .ok (.lreturn, 1) := by decide +kernel
theorem dX5_bits_8 : decode cX5_bits 8 = .ok (.dload_n 0, 1) := by decide +kernel
theorem dX5_bits_9 : decode cX5_bits 9 = .ok (.dstore 6, 2) := by decide +kernel
theorem dX5_bits_11 : decode cX5_bits 11 = .ok (.lload 4, 2) := by decide +kernel
theorem dX5_bits_13 : decode cX5_bits 13 = .ok (.lstore 8, 2) := by decide +kernel
theorem dX5_bits_15 : decode cX5_bits 15 = .ok (.dload 6, 2) := by decide +kernel
theorem dX5_bits_17 : decode cX5_bits 17 = .ok (.ldc2_w 197, 3) := by decide +kernel
theorem dX5_bits_20 : decode cX5_bits 20 = .ok (.dcmp .l, 1) := by decide +kernel
theorem dX5_bits_21 : decode cX5_bits 21 = .ok (.ifCond .lt 20, 3) := by decide +kernel
theorem dX5_bits_24 : decode cX5_bits 24 = .ok (.dload 6, 2) := by decide +kernel
theorem dX5_bits_26 : decode cX5_bits 26 = .ok (.ldc2_w 197, 3) := by decide +kernel
theorem dX5_bits_29 : decode cX5_bits 29 = .ok (.ddiv, 1) := by decide +kernel
theorem dX5_bits_30 : decode cX5_bits 30 = .ok (.dstore 6, 2) := by decide +kernel
theorem dX5_bits_32 : decode cX5_bits 32 = .ok (.lload 8, 2) := by decide +kernel
theorem dX5_bits_34 : decode cX5_bits 34 = .ok (.lconst 1, 1) := by decide +kernel
theorem dX5_bits_35 : decode cX5_bits 35 = .ok (.ladd, 1) := by decide +kernel
theorem dX5_bits_36 : decode cX5_bits 36 = .ok (.lstore 8, 2) := by decide +kernel
theorem dX5_bits_38 : decode cX5_bits 38 = .ok (.goto (-23), 3) := by decide +kernel
theorem dX5_bits_41 : decode cX5_bits 41 = .ok (.dload 6, 2) := by decide +kernel
theorem dX5_bits_43 : decode cX5_bits 43 = .ok (.dconst 1, 1) := by decide +kernel
theorem dX5_bits_44 : decode cX5_bits 44 = .ok (.dcmp .g, 1) := by decide +kernel
theorem dX5_bits_45 : decode cX5_bits 45 = .ok (.ifCond .ge 20, 3) := by decide +kernel
theorem dX5_bits_48 : decode cX5_bits 48 = .ok (.dload 6, 2) := by decide +kernel
theorem dX5_bits_50 : decode cX5_bits 50 = .ok (.ldc2_w 197, 3) := by decide +kernel
theorem dX5_bits_53 : decode cX5_bits 53 = .ok (.dmul, 1) := by decide +kernel
theorem dX5_bits_54 : decode cX5_bits 54 = .ok (.dstore 6, 2) := by decide +kernel
theorem dX5_bits_56 : decode cX5_bits 56 = .ok (.lload 8, 2) := by decide +kernel
theorem dX5_bits_58 : decode cX5_bits 58 = .ok (.lconst 1, 1) := by decide +kernel
theorem dX5_bits_59 : decode cX5_bits 59 = .ok (.lsub, 1) := by decide +kernel
theorem dX5_bits_60 : decode cX5_bits 60 = .ok (.lstore 8, 2) := by decide +kernel
theorem dX5_bits_62 : decode cX5_bits 62 = .ok (.goto (-21), 3) := by decide +kernel
theorem dX5_bits_65 : decode cX5_bits 65 = .ok (.lload 8, 2) := by decide +kernel
theorem dX5_bits_67 : decode cX5_bits 67 = .ok (.lload_n 2, 1) := by decide +kernel
theorem dX5_bits_68 : decode cX5_bits 68 = .ok (.lmul, 1) := by decide +kernel
theorem dX5_bits_69 : decode cX5_bits 69 = .ok (.dload 6, 2) := by decide +kernel
theorem dX5_bits_71 : decode cX5_bits 71 = .ok (.dconst 1, 1) := by decide +kernel
theorem dX5_bits_72 : decode cX5_bits 72 = .ok (.dsub, 1) := by decide +kernel
theorem dX5_bits_73 : decode cX5_bits 73 = .ok (.lload_n 2, 1) := by decide +kernel
theorem dX5_bits_74 : decode cX5_bits 74 = .ok (.l2d, 1) := by decide +kernel
theorem dX5_bits_75 : decode cX5_bits 75 = .ok (.dmul, 1) := by decide +kernel
theorem dX5_bits_76 : decode cX5_bits 76 = .ok (.d2l, 1) := by decide +kernel
theorem dX5_bits_77 : decode cX5_bits 77 = .ok (.ladd, 1) := by decide +kernel
theorem dX5_bits_78 : decode cX5_bits 78 = .ok (.lreturn, 1) := by decide +kernel
set_option maxRecDepth 20000 in
theorem ggX5_mixThreads_X5_ofThread : GoodIn wsX5_mixThreads wsX5_ofThread := goodIn_r _ [5, 6, 7, 8, 9, 4, 10, 11, 12, 13, 14, 15, 16, 17, 18, 19, 20, 21, 22, 23, 24, 25, 26, 27, 28, 29, 30, 31, 32, 33, 34, 35, 36, 37, 38, 39, 40, 75, 76, 77, 78, 79, 80, 81, 82, 83, 84] (by decide +kernel) (by decide +kernel)
set_option maxRecDepth 20000 in
theorem gX5_mixThreads_X5_ofThread : GoodIn wsX5_mixThreads (wsV RX5 134 RX5 yX5_ofThread wsX5_ofThread) := goodIn_app (goodIn_of _ (by decide +kernel)) ggX5_mixThreads_X5_ofThread
set_option maxRecDepth 20000 in
theorem ggX5_mixThreads_X5_mix : GoodIn wsX5_mixThreads wsX5_mix := goodIn_r _ [44, 45, 46, 75, 76, 77, 78, 79, 80, 81, 82, 83, 84] (by decide +kernel) (by decide +kernel)
set_option maxRecDepth 20000 in
theorem gX5_mixThreads_X5_mix : GoodIn wsX5_mixThreads (wsV RX5 199 RX5 yX5_mix wsX5_mix) := goodIn_app (goodIn_of _ (by decide +kernel)) ggX5_mixThreads_X5_mix
set_option maxRecDepth 20000 in
theorem ggX5_mixThreads_X5_readingsLeft : GoodIn wsX5_mixThreads wsX5_readingsLeft := goodIn_r _ [50, 15, 16, 17, 4, 18, 19, 20, 21, 22, 6, 23, 24, 25, 26, 27, 28, 29, 30, 31, 32, 33, 34, 35, 36, 37, 11, 12, 13, 14, 51, 52, 53, 54, 55, 56, 57, 58, 59, 60, 61, 62, 75, 76, 77, 78, 79, 80, 81, 82, 83, 84] (by decide +kernel) (by decide +kernel)
set_option maxRecDepth 20000 in
theorem gX5_mixThreads_X5_readingsLeft : GoodIn wsX5_mixThreads (wsV RX5 174 RX5 yX5_readingsLeft wsX5_readingsLeft) := goodIn_app (goodIn_of _ (by decide +kernel)) ggX5_mixThreads_X5_readingsLeft
set_option maxRecDepth 20000 in
theorem ggX5_mixThreads_X5_ofRing : GoodIn wsX5_mixThreads wsX5_ofRing := goodIn_r _ [66, 6, 67, 68, 69, 4, 70, 35, 36, 37, 38, 39, 40, 71, 72, 73, 74, 19, 20, 21, 22, 23, 24, 25, 26, 27, 28, 29, 30, 31, 32, 33, 34, 75, 76, 77, 78, 79, 80, 81, 82, 83, 84] (by decide +kernel) (by decide +kernel)
set_option maxRecDepth 20000 in
theorem gX5_mixThreads_X5_ofRing : GoodIn wsX5_mixThreads (wsV RX5 140 RX5 yX5_ofRing wsX5_ofRing) := goodIn_app (goodIn_of _ (by decide +kernel)) ggX5_mixThreads_X5_ofRing
set_option maxRecDepth 20000 in
theorem ggX5_mixThreads_X5_strengthIn : GoodIn wsX5_mixThreads wsX5_strengthIn := goodIn_r _ [26, 6, 27, 28, 29, 4, 30, 31, 32, 33, 34, 35, 36, 37, 75, 76, 77, 78, 79, 80, 81, 82, 83, 84] (by decide +kernel) (by decide +kernel)
set_option maxRecDepth 20000 in
theorem gX5_mixThreads_X5_strengthIn : GoodIn wsX5_mixThreads (wsV RX5 42 RX5 yX5_strengthIn wsX5_strengthIn) := goodIn_app (goodIn_of _ (by decide +kernel)) ggX5_mixThreads_X5_strengthIn
theorem dX5_mixThreads_0 : decode cX5_mixThreads 0 = .ok (.iconst 0, 1) := by decide +kernel
theorem dX5_mixThreads_1 : decode cX5_mixThreads 1 = .ok (.istore_n 1, 1) := by decide +kernel
theorem dX5_mixThreads_2 : decode cX5_mixThreads 2 = .ok (.iload_n 1, 1) := by decide +kernel
theorem dX5_mixThreads_3 : decode cX5_mixThreads 3 = .ok (.bipush 16, 2) := by decide +kernel
theorem dX5_mixThreads_5 : decode cX5_mixThreads 5 = .ok (.if_icmp .ge 44, 3) := by decide +kernel
theorem dX5_mixThreads_8 : decode cX5_mixThreads 8 = .ok (.iconst 0, 1) := by decide +kernel
theorem dX5_mixThreads_9 : decode cX5_mixThreads 9 = .ok (.istore_n 2, 1) := by decide +kernel
theorem dX5_mixThreads_10 : decode cX5_mixThreads 10 = .ok (.iload_n 2, 1) := by decide +kernel
theorem dX5_mixThreads_11 : decode cX5_mixThreads 11 = .ok (.bipush 8, 2) := by decide +kernel
theorem dX5_mixThreads_13 : decode cX5_mixThreads 13 = .ok (.if_icmp .ge 20, 3) := by decide +kernel
theorem dX5_mixThreads_16 : decode cX5_mixThreads 16 = .ok (.aload_n 0, 1) := by decide +kernel
theorem dX5_mixThreads_17 : decode cX5_mixThreads 17 = .ok (.aload_n 0, 1) := by decide +kernel
theorem dX5_mixThreads_18 : decode cX5_mixThreads 18 = .ok (.iload_n 1, 1) := by decide +kernel
theorem dX5_mixThreads_19 : decode cX5_mixThreads 19 = .ok (.iload_n 2, 1) := by decide +kernel
theorem dX5_mixThreads_20 : decode cX5_mixThreads 20 = .ok (.invokevirtual 134, 3) := by decide +kernel
theorem dX5_mixThreads_23 : decode cX5_mixThreads 23 = .ok (.i2l, 1) := by decide +kernel
theorem dX5_mixThreads_24 : decode cX5_mixThreads 24 = .ok (.invokevirtual 199, 3) := by decide +kernel
theorem dX5_mixThreads_27 : decode cX5_mixThreads 27 = .ok (.iinc 2 1, 3) := by decide +kernel
theorem dX5_mixThreads_30 : decode cX5_mixThreads 30 = .ok (.goto (-20), 3) := by decide +kernel
theorem dX5_mixThreads_33 : decode cX5_mixThreads 33 = .ok (.aload_n 0, 1) := by decide +kernel
theorem dX5_mixThreads_34 : decode cX5_mixThreads 34 = .ok (.aload_n 0, 1) := by decide +kernel
theorem dX5_mixThreads_35 : decode cX5_mixThreads 35 = .ok (.iload_n 1, 1) := by decide +kernel
theorem dX5_mixThreads_36 : decode cX5_mixThreads 36 = .ok (.invokevirtual 174, 3) := by decide +kernel
theorem dX5_mixThreads_39 : decode cX5_mixThreads 39 = .ok (.i2l, 1) := by decide +kernel
theorem dX5_mixThreads_40 : decode cX5_mixThreads 40 = .ok (.invokevirtual 199, 3) := by decide +kernel
theorem dX5_mixThreads_43 : decode cX5_mixThreads 43 = .ok (.iinc 1 1, 3) := by decide +kernel
theorem dX5_mixThreads_46 : decode cX5_mixThreads 46 = .ok (.goto (-44), 3) := by decide +kernel
theorem dX5_mixThreads_49 : decode cX5_mixThreads 49 = .ok (.iconst 0, 1) := by decide +kernel
theorem dX5_mixThreads_50 : decode cX5_mixThreads 50 = .ok (.istore_n 1, 1) := by decide +kernel
theorem dX5_mixThreads_51 : decode cX5_mixThreads 51 = .ok (.iload_n 1, 1) := by decide +kernel
theorem dX5_mixThreads_52 : decode cX5_mixThreads 52 = .ok (.bipush 40, 2) := by decide +kernel
theorem dX5_mixThreads_54 : decode cX5_mixThreads 54 = .ok (.if_icmp .ge 24, 3) := by decide +kernel
theorem dX5_mixThreads_57 : decode cX5_mixThreads 57 = .ok (.aload_n 0, 1) := by decide +kernel
theorem dX5_mixThreads_58 : decode cX5_mixThreads 58 = .ok (.aload_n 0, 1) := by decide +kernel
theorem dX5_mixThreads_59 : decode cX5_mixThreads 59 = .ok (.iload_n 1, 1) := by decide +kernel
theorem dX5_mixThreads_60 : decode cX5_mixThreads 60 = .ok (.iconst 5, 1) := by decide +kernel
theorem dX5_mixThreads_61 : decode cX5_mixThreads 61 = .ok (.idiv, 1) := by decide +kernel
theorem dX5_mixThreads_62 : decode cX5_mixThreads 62 = .ok (.iload_n 1, 1) := by decide +kernel
theorem dX5_mixThreads_63 : decode cX5_mixThreads 63 = .ok (.iconst 5, 1) := by decide +kernel
theorem dX5_mixThreads_64 : decode cX5_mixThreads 64 = .ok (.irem, 1) := by decide +kernel
theorem dX5_mixThreads_65 : decode cX5_mixThreads 65 = .ok (.invokevirtual 140, 3) := by decide +kernel
theorem dX5_mixThreads_68 : decode cX5_mixThreads 68 = .ok (.i2l, 1) := by decide +kernel
theorem dX5_mixThreads_69 : decode cX5_mixThreads 69 = .ok (.invokevirtual 199, 3) := by decide +kernel
theorem dX5_mixThreads_72 : decode cX5_mixThreads 72 = .ok (.iinc 1 1, 3) := by decide +kernel
theorem dX5_mixThreads_75 : decode cX5_mixThreads 75 = .ok (.goto (-24), 3) := by decide +kernel
theorem dX5_mixThreads_78 : decode cX5_mixThreads 78 = .ok (.iconst 0, 1) := by decide +kernel
theorem dX5_mixThreads_79 : decode cX5_mixThreads 79 = .ok (.istore_n 1, 1) := by decide +kernel
theorem dX5_mixThreads_80 : decode cX5_mixThreads 80 = .ok (.iload_n 1, 1) := by decide +kernel
theorem dX5_mixThreads_81 : decode cX5_mixThreads 81 = .ok (.bipush 16, 2) := by decide +kernel
theorem dX5_mixThreads_83 : decode cX5_mixThreads 83 = .ok (.if_icmp .ge 27, 3) := by decide +kernel
theorem dX5_mixThreads_86 : decode cX5_mixThreads 86 = .ok (.aload_n 0, 1) := by decide +kernel
theorem dX5_mixThreads_87 : decode cX5_mixThreads 87 = .ok (.aload_n 0, 1) := by decide +kernel
theorem dX5_mixThreads_88 : decode cX5_mixThreads 88 = .ok (.iconst 0, 1) := by decide +kernel
theorem dX5_mixThreads_89 : decode cX5_mixThreads 89 = .ok (.iload_n 1, 1) := by decide +kernel
theorem dX5_mixThreads_90 : decode cX5_mixThreads 90 = .ok (.bipush 8, 2) := by decide +kernel
theorem dX5_mixThreads_92 : decode cX5_mixThreads 92 = .ok (.idiv, 1) := by decide +kernel
theorem dX5_mixThreads_93 : decode cX5_mixThreads 93 = .ok (.iload_n 1, 1) := by decide +kernel
theorem dX5_mixThreads_94 : decode cX5_mixThreads 94 = .ok (.bipush 8, 2) := by decide +kernel
theorem dX5_mixThreads_96 : decode cX5_mixThreads 96 = .ok (.irem, 1) := by decide +kernel
theorem dX5_mixThreads_97 : decode cX5_mixThreads 97 = .ok (.invokevirtual 42, 3) := by decide +kernel
theorem dX5_mixThreads_100 : decode cX5_mixThreads 100 = .ok (.i2l, 1) := by decide +kernel
theorem dX5_mixThreads_101 : decode cX5_mixThreads 101 = .ok (.invokevirtual 199, 3) := by decide +kernel
theorem dX5_mixThreads_104 : decode cX5_mixThreads 104 = .ok (.iinc 1 1, 3) := by decide +kernel
theorem dX5_mixThreads_107 : decode cX5_mixThreads 107 = .ok (.goto (-27), 3) := by decide +kernel
theorem dX5_mixThreads_110 : decode cX5_mixThreads 110 = .ok (.return_, 1) := by decide +kernel
set_option maxRecDepth 20000 in
theorem ggX5_digest_X5_counted : GoodIn wsX5_digest wsX5_counted := goodIn_r _ [17, 4, 18, 19, 20, 21, 16, 22, 23, 24, 25, 26, 27, 28, 29, 30, 31, 32, 33, 34, 35, 36, 37, 38, 39, 40, 41, 42, 43, 44, 45, 46, 47, 48, 49, 50, 51, 52, 53, 54, 55, 56, 57, 58, 59, 60, 61, 62, 63, 64, 65, 66, 67, 68, 69, 70, 71, 72, 73, 74, 75, 76, 190, 191, 192, 193, 194, 195, 196, 197, 198, 199] (by decide +kernel) (by decide +kernel)
set_option maxRecDepth 20000 in
theorem gX5_digest_X5_counted : GoodIn wsX5_digest (wsV RX5 162 RX5 yX5_counted wsX5_counted) := goodIn_app (goodIn_of _ (by decide +kernel)) ggX5_digest_X5_counted
set_option maxRecDepth 20000 in
theorem ggX5_digest_X5_mix : GoodIn wsX5_digest wsX5_mix := goodIn_r _ [80, 81, 3, 190, 191, 192, 193, 194, 195, 196, 197, 198, 199] (by decide +kernel) (by decide +kernel)
set_option maxRecDepth 20000 in
theorem gX5_digest_X5_mix : GoodIn wsX5_digest (wsV RX5 199 RX5 yX5_mix wsX5_mix) := goodIn_app (goodIn_of _ (by decide +kernel)) ggX5_digest_X5_mix
set_option maxRecDepth 20000 in
theorem ggX5_digest_X5_mixThreads : GoodIn wsX5_digest wsX5_mixThreads := goodIn_r _ [85, 86, 87, 88, 16, 89, 4, 65, 66, 67, 68, 61, 62, 63, 64, 41, 42, 43, 44, 45, 46, 47, 48, 49, 50, 51, 52, 53, 54, 55, 56, 57, 58, 59, 60, 34, 35, 36, 23, 24, 25, 77, 78, 79, 80, 81, 3, 90, 91, 92, 93, 94, 95, 96, 97, 98, 99, 100, 101, 102, 103, 104, 105, 106, 107, 108, 109, 30, 31, 32, 33, 110, 111, 112, 113, 190, 191, 192, 193, 194, 195, 196, 197, 198, 199] (by decide +kernel) (by decide +kernel)
set_option maxRecDepth 20000 in
theorem gX5_digest_X5_mixThreads : GoodIn wsX5_digest (wsV RX5 205 RX5 yX5_mixThreads wsX5_mixThreads) := goodIn_app (goodIn_of _ (by decide +kernel)) ggX5_digest_X5_mixThreads
set_option maxRecDepth 20000 in
theorem ggX5_digest_X5_ofMachine : GoodIn wsX5_digest wsX5_ofMachine := goodIn_r _ [117, 4, 190, 191, 192, 193, 194, 195, 196, 197, 198, 199] (by decide +kernel) (by decide +kernel)
set_option maxRecDepth 20000 in
theorem gX5_digest_X5_ofMachine : GoodIn wsX5_digest (wsV RX5 143 RX5 yX5_ofMachine wsX5_ofMachine) := goodIn_app (goodIn_of _ (by decide +kernel)) ggX5_digest_X5_ofMachine
set_option maxRecDepth 20000 in
theorem ggX5_digest_X5_toldAgo : GoodIn wsX5_digest wsX5_toldAgo := goodIn_r _ [121, 4, 190, 191, 192, 193, 194, 195, 196, 197, 198, 199] (by decide +kernel) (by decide +kernel)
set_option maxRecDepth 20000 in
theorem gX5_digest_X5_toldAgo : GoodIn wsX5_digest (wsV RX5 146 RX5 yX5_toldAgo wsX5_toldAgo) := goodIn_app (goodIn_of _ (by decide +kernel)) ggX5_digest_X5_toldAgo
set_option maxRecDepth 20000 in
theorem ggX5_digest_X5_gone : GoodIn wsX5_digest wsX5_gone := goodIn_r _ [125, 4, 94, 95, 96, 16, 97, 126, 127, 128, 129, 130, 131, 132, 133, 98, 99, 100, 101, 41, 42, 43, 44, 45, 46, 47, 48, 49, 50, 51, 52, 53, 54, 55, 56, 57, 58, 59, 60, 34, 35, 36, 61, 62, 63, 64, 102, 103, 104, 105, 134, 135, 136, 137, 190, 191, 192, 193, 194, 195, 196, 197, 198, 199] (by decide +kernel) (by decide +kernel)
set_option maxRecDepth 20000 in
theorem gX5_digest_X5_gone : GoodIn wsX5_digest (wsV RX5 177 RX5 yX5_gone wsX5_gone) := goodIn_app (goodIn_of _ (by decide +kernel)) ggX5_digest_X5_gone
set_option maxRecDepth 20000 in
theorem ggX5_digest_X5_isProgram : GoodIn wsX5_digest wsX5_isProgram := goodIn_r _ [141, 142, 143, 11, 12, 144, 145, 146, 16, 147, 148, 149, 150, 151, 152, 153, 154, 155, 190, 191, 192, 193, 194, 195, 196, 197, 198, 199] (by decide +kernel) (by decide +kernel)
set_option maxRecDepth 20000 in
theorem gX5_digest_X5_isProgram : GoodIn wsX5_digest (wsV RX5 122 RX5 yX5_isProgram wsX5_isProgram) := goodIn_app (goodIn_of _ (by decide +kernel)) ggX5_digest_X5_isProgram
set_option maxRecDepth 20000 in
theorem ggX5_digest_X5_wouldLoad : GoodIn wsX5_digest wsX5_wouldLoad := goodIn_r _ [159, 94, 95, 96, 16, 97, 4, 160, 161, 162, 163, 143, 148, 164, 165, 166, 167, 61, 62, 63, 64, 34, 35, 36, 102, 103, 104, 105, 23, 24, 25, 190, 191, 192, 193, 194, 195, 196, 197, 198, 199] (by decide +kernel) (by decide +kernel)
set_option maxRecDepth 20000 in
theorem gX5_digest_X5_wouldLoad : GoodIn wsX5_digest (wsV RX5 165 RX5 yX5_wouldLoad wsX5_wouldLoad) := goodIn_app (goodIn_of _ (by decide +kernel)) ggX5_digest_X5_wouldLoad
set_option maxRecDepth 20000 in
theorem ggX5_digest_X5_placeFound : GoodIn wsX5_digest wsX5_placeFound := goodIn_r _ [171, 138, 139, 140, 16, 141, 142, 143, 11, 12, 144, 145, 146, 147, 148, 149, 150, 151, 152, 153, 154, 155, 156, 157, 158, 159, 94, 95, 96, 97, 4, 160, 161, 162, 163, 164, 165, 166, 167, 61, 62, 63, 64, 34, 35, 36, 102, 103, 104, 105, 23, 24, 25, 190, 191, 192, 193, 194, 195, 196, 197, 198, 199] (by decide +kernel) (by decide +kernel)
set_option maxRecDepth 20000 in
theorem gX5_digest_X5_placeFound : GoodIn wsX5_digest (wsV RX5 168 RX5 yX5_placeFound wsX5_placeFound) := goodIn_app (goodIn_of _ (by decide +kernel)) ggX5_digest_X5_placeFound
set_option maxRecDepth 20000 in
theorem ggX5_digest_X5_guardFound : GoodIn wsX5_digest wsX5_guardFound := goodIn_r _ [175, 4, 34, 35, 16, 36, 94, 95, 96, 97, 37, 38, 39, 40, 41, 42, 43, 44, 45, 46, 47, 48, 49, 50, 51, 52, 53, 54, 55, 56, 57, 58, 59, 60, 61, 62, 63, 64, 65, 66, 67, 68, 190, 191, 192, 193, 194, 195, 196, 197, 198, 199] (by decide +kernel) (by decide +kernel)
set_option maxRecDepth 20000 in
theorem gX5_digest_X5_guardFound : GoodIn wsX5_digest (wsV RX5 171 RX5 yX5_guardFound wsX5_guardFound) := goodIn_app (goodIn_of _ (by decide +kernel)) ggX5_digest_X5_guardFound
set_option maxRecDepth 20000 in
theorem ggX5_digest_X5_share : GoodIn wsX5_digest wsX5_share := goodIn_r _ [179, 180, 37, 38, 39, 16, 40, 41, 42, 43, 44, 45, 46, 47, 48, 4, 49, 50, 51, 52, 53, 54, 55, 56, 57, 58, 59, 60, 34, 35, 36, 61, 62, 63, 64, 65, 66, 67, 68, 190, 191, 192, 193, 194, 195, 196, 197, 198, 199] (by decide +kernel) (by decide +kernel)
set_option maxRecDepth 20000 in
theorem gX5_digest_X5_share : GoodIn wsX5_digest (wsV RX5 182 RX5 yX5_share wsX5_share) := goodIn_app (goodIn_of _ (by decide +kernel)) ggX5_digest_X5_share
set_option maxRecDepth 20000 in
theorem ggX5_digest_X5_bits : GoodIn wsX5_digest wsX5_bits := goodIn_r _ [183, 184] (by decide +kernel) (by decide +kernel)
set_option maxRecDepth 20000 in
theorem gX5_digest_X5_bits : GoodIn wsX5_digest (va_wsS RX5 214 yX5_bits wsX5_bits) := goodIn_app (goodIn_of _ (by decide +kernel)) ggX5_digest_X5_bits
set_option maxRecDepth 20000 in
theorem ggX5_digest_X5_mean : GoodIn wsX5_digest wsX5_mean := goodIn_r _ [188, 4, 189, 190, 191, 192, 193, 194, 195, 196, 197, 198, 199] (by decide +kernel) (by decide +kernel)
set_option maxRecDepth 20000 in
theorem gX5_digest_X5_mean : GoodIn wsX5_digest (wsV RX5 187 RX5 yX5_mean wsX5_mean) := goodIn_app (goodIn_of _ (by decide +kernel)) ggX5_digest_X5_mean
theorem dX5_digest_0 : decode cX5_digest 0 = .ok (.aload_n 0, 1) := by decide +kernel
theorem dX5_digest_1 : decode cX5_digest 1 = .ok (.iconst 0, 1) := by decide +kernel
theorem dX5_digest_2 : decode cX5_digest 2 = .ok (.putfield 23, 3) := by decide +kernel
theorem dX5_digest_5 : decode cX5_digest 5 = .ok (.aload_n 0, 1) := by decide +kernel
theorem dX5_digest_6 : decode cX5_digest 6 = .ok (.ldc2_w 203, 3) := by decide +kernel
theorem dX5_digest_9 : decode cX5_digest 9 = .ok (.putfield 193, 3) := by decide +kernel
theorem dX5_digest_12 : decode cX5_digest 12 = .ok (.iconst 0, 1) := by decide +kernel
theorem dX5_digest_13 : decode cX5_digest 13 = .ok (.istore_n 1, 1) := by decide +kernel
theorem dX5_digest_14 : decode cX5_digest 14 = .ok (.iload_n 1, 1) := by decide +kernel
theorem dX5_digest_15 : decode cX5_digest 15 = .ok (.bipush 10, 2) := by decide +kernel
theorem dX5_digest_17 : decode cX5_digest 17 = .ok (.if_icmp .ge 19, 3) := by decide +kernel
theorem dX5_digest_20 : decode cX5_digest 20 = .ok (.aload_n 0, 1) := by decide +kernel
theorem dX5_digest_21 : decode cX5_digest 21 = .ok (.aload_n 0, 1) := by decide +kernel
theorem dX5_digest_22 : decode cX5_digest 22 = .ok (.iload_n 1, 1) := by decide +kernel
theorem dX5_digest_23 : decode cX5_digest 23 = .ok (.invokevirtual 162, 3) := by decide +kernel
theorem dX5_digest_26 : decode cX5_digest 26 = .ok (.i2l, 1) := by decide +kernel
theorem dX5_digest_27 : decode cX5_digest 27 = .ok (.invokevirtual 199, 3) := by decide +kernel
theorem dX5_digest_30 : decode cX5_digest 30 = .ok (.iinc 1 1, 3) := by decide +kernel
theorem dX5_digest_33 : decode cX5_digest 33 = .ok (.goto (-19), 3) := by decide +kernel
theorem dX5_digest_36 : decode cX5_digest 36 = .ok (.aload_n 0, 1) := by decide +kernel
theorem dX5_digest_37 : decode cX5_digest 37 = .ok (.aload_n 0, 1) := by decide +kernel
theorem dX5_digest_38 : decode cX5_digest 38 = .ok (.getfield 7, 3) := by decide +kernel
theorem dX5_digest_41 : decode cX5_digest 41 = .ok (.bipush 25, 2) := by decide +kernel
theorem dX5_digest_43 : decode cX5_digest 43 = .ok (.iaload, 1) := by decide +kernel
theorem dX5_digest_44 : decode cX5_digest 44 = .ok (.i2l, 1) := by decide +kernel
theorem dX5_digest_45 : decode cX5_digest 45 = .ok (.invokevirtual 199, 3) := by decide +kernel
theorem dX5_digest_48 : decode cX5_digest 48 = .ok (.aload_n 0, 1) := by decide +kernel
theorem dX5_digest_49 : decode cX5_digest 49 = .ok (.aload_n 0, 1) := by decide +kernel
theorem dX5_digest_50 : decode cX5_digest 50 = .ok (.getfield 7, 3) := by decide +kernel
theorem dX5_digest_53 : decode cX5_digest 53 = .ok (.bipush 26, 2) := by decide +kernel
theorem dX5_digest_55 : decode cX5_digest 55 = .ok (.iaload, 1) := by decide +kernel
theorem dX5_digest_56 : decode cX5_digest 56 = .ok (.i2l, 1) := by decide +kernel
theorem dX5_digest_57 : decode cX5_digest 57 = .ok (.invokevirtual 199, 3) := by decide +kernel
theorem dX5_digest_60 : decode cX5_digest 60 = .ok (.aload_n 0, 1) := by decide +kernel
theorem dX5_digest_61 : decode cX5_digest 61 = .ok (.invokevirtual 205, 3) := by decide +kernel
theorem dX5_digest_64 : decode cX5_digest 64 = .ok (.iconst 0, 1) := by decide +kernel
theorem dX5_digest_65 : decode cX5_digest 65 = .ok (.istore_n 1, 1) := by decide +kernel
theorem dX5_digest_66 : decode cX5_digest 66 = .ok (.iload_n 1, 1) := by decide +kernel
theorem dX5_digest_67 : decode cX5_digest 67 = .ok (.bipush 9, 2) := by decide +kernel
theorem dX5_digest_69 : decode cX5_digest 69 = .ok (.if_icmp .ge 19, 3) := by decide +kernel
theorem dX5_digest_72 : decode cX5_digest 72 = .ok (.aload_n 0, 1) := by decide +kernel
theorem dX5_digest_73 : decode cX5_digest 73 = .ok (.aload_n 0, 1) := by decide +kernel
theorem dX5_digest_74 : decode cX5_digest 74 = .ok (.iload_n 1, 1) := by decide +kernel
theorem dX5_digest_75 : decode cX5_digest 75 = .ok (.invokevirtual 143, 3) := by decide +kernel
theorem dX5_digest_78 : decode cX5_digest 78 = .ok (.i2l, 1) := by decide +kernel
theorem dX5_digest_79 : decode cX5_digest 79 = .ok (.invokevirtual 199, 3) := by decide +kernel
theorem dX5_digest_82 : decode cX5_digest 82 = .ok (.iinc 1 1, 3) := by decide +kernel
theorem dX5_digest_85 : decode cX5_digest 85 = .ok (.goto (-19), 3) := by decide +kernel
theorem dX5_digest_88 : decode cX5_digest 88 = .ok (.iconst 0, 1) := by decide +kernel
theorem dX5_digest_89 : decode cX5_digest 89 = .ok (.istore_n 1, 1) := by decide +kernel
theorem dX5_digest_90 : decode cX5_digest 90 = .ok (.iload_n 1, 1) := by decide +kernel
theorem dX5_digest_91 : decode cX5_digest 91 = .ok (.bipush 8, 2) := by decide +kernel
theorem dX5_digest_93 : decode cX5_digest 93 = .ok (.if_icmp .ge 19, 3) := by decide +kernel
theorem dX5_digest_96 : decode cX5_digest 96 = .ok (.aload_n 0, 1) := by decide +kernel
theorem dX5_digest_97 : decode cX5_digest 97 = .ok (.aload_n 0, 1) := by decide +kernel
theorem dX5_digest_98 : decode cX5_digest 98 = .ok (.iload_n 1, 1) := by decide +kernel
theorem dX5_digest_99 : decode cX5_digest 99 = .ok (.invokevirtual 146, 3) := by decide +kernel
theorem dX5_digest_102 : decode cX5_digest 102 = .ok (.i2l, 1) := by decide +kernel
theorem dX5_digest_103 : decode cX5_digest 103 = .ok (.invokevirtual 199, 3) := by decide +kernel
theorem dX5_digest_106 : decode cX5_digest 106 = .ok (.iinc 1 1, 3) := by decide +kernel
theorem dX5_digest_109 : decode cX5_digest 109 = .ok (.goto (-19), 3) := by decide +kernel
theorem dX5_digest_112 : decode cX5_digest 112 = .ok (.iconst 0, 1) := by decide +kernel
theorem dX5_digest_113 : decode cX5_digest 113 = .ok (.istore_n 1, 1) := by decide +kernel
theorem dX5_digest_114 : decode cX5_digest 114 = .ok (.iload_n 1, 1) := by decide +kernel
theorem dX5_digest_115 : decode cX5_digest 115 = .ok (.iconst 4, 1) := by decide +kernel
theorem dX5_digest_116 : decode cX5_digest 116 = .ok (.if_icmp .ge 21, 3) := by decide +kernel
theorem dX5_digest_119 : decode cX5_digest 119 = .ok (.aload_n 0, 1) := by decide +kernel
theorem dX5_digest_120 : decode cX5_digest 120 = .ok (.aload_n 0, 1) := by decide +kernel
theorem dX5_digest_121 : decode cX5_digest 121 = .ok (.bipush 20, 2) := by decide +kernel
theorem dX5_digest_123 : decode cX5_digest 123 = .ok (.iload_n 1, 1) := by decide +kernel
theorem dX5_digest_124 : decode cX5_digest 124 = .ok (.invokevirtual 177, 3) := by decide +kernel
theorem dX5_digest_127 : decode cX5_digest 127 = .ok (.i2l, 1) := by decide +kernel
theorem dX5_digest_128 : decode cX5_digest 128 = .ok (.invokevirtual 199, 3) := by decide +kernel
theorem dX5_digest_131 : decode cX5_digest 131 = .ok (.iinc 1 1, 3) := by decide +kernel
theorem dX5_digest_134 : decode cX5_digest 134 = .ok (.goto (-20), 3) := by decide +kernel
theorem dX5_digest_137 : decode cX5_digest 137 = .ok (.aload_n 0, 1) := by decide +kernel
theorem dX5_digest_138 : decode cX5_digest 138 = .ok (.aload_n 0, 1) := by decide +kernel
theorem dX5_digest_139 : decode cX5_digest 139 = .ok (.invokevirtual 122, 3) := by decide +kernel
theorem dX5_digest_142 : decode cX5_digest 142 = .ok (.ifCond .eq 12, 3) := by decide +kernel
theorem dX5_digest_145 : decode cX5_digest 145 = .ok (.aload_n 0, 1) := by decide +kernel
theorem dX5_digest_146 : decode cX5_digest 146 = .ok (.iconst 0, 1) := by decide +kernel
theorem dX5_digest_147 : decode cX5_digest 147 = .ok (.invokevirtual 165, 3) := by decide +kernel
theorem dX5_digest_150 : decode cX5_digest 150 = .ok (.i2l, 1) := by decide +kernel
theorem dX5_digest_151 : decode cX5_digest 151 = .ok (.goto 6, 3) := by decide +kernel
theorem dX5_digest_154 : decode cX5_digest 154 = .ok (.ldc2_w 208, 3) := by decide +kernel
theorem dX5_digest_157 : decode cX5_digest 157 = .ok (.invokevirtual 199, 3) := by decide +kernel
theorem dX5_digest_160 : decode cX5_digest 160 = .ok (.aload_n 0, 1) := by decide +kernel
theorem dX5_digest_161 : decode cX5_digest 161 = .ok (.aload_n 0, 1) := by decide +kernel
theorem dX5_digest_162 : decode cX5_digest 162 = .ok (.invokevirtual 168, 3) := by decide +kernel
theorem dX5_digest_165 : decode cX5_digest 165 = .ok (.i2l, 1) := by decide +kernel
theorem dX5_digest_166 : decode cX5_digest 166 = .ok (.invokevirtual 199, 3) := by decide +kernel
theorem dX5_digest_169 : decode cX5_digest 169 = .ok (.aload_n 0, 1) := by decide +kernel
theorem dX5_digest_170 : decode cX5_digest 170 = .ok (.aload_n 0, 1) := by decide +kernel
theorem dX5_digest_171 : decode cX5_digest 171 = .ok (.invokevirtual 171, 3) := by decide +kernel
theorem dX5_digest_174 : decode cX5_digest 174 = .ok (.i2l, 1) := by decide +kernel
theorem dX5_digest_175 : decode cX5_digest 175 = .ok (.invokevirtual 199, 3) := by decide +kernel
theorem dX5_digest_178 : decode cX5_digest 178 = .ok (.aload_n 0, 1) := by decide +kernel
theorem dX5_digest_179 : decode cX5_digest 179 = .ok (.aload_n 0, 1) := by decide +kernel
theorem dX5_digest_180 : decode cX5_digest 180 = .ok (.invokevirtual 182, 3) := by decide +kernel
theorem dX5_digest_183 : decode cX5_digest 183 = .ok (.ldc2_w 210, 3) := by decide +kernel
theorem dX5_digest_186 : decode cX5_digest 186 = .ok (.ldc2_w 212, 3) := by decide +kernel
theorem dX5_digest_189 : decode cX5_digest 189 = .ok (.invokestatic 214, 3) := by decide +kernel
theorem dX5_digest_192 : decode cX5_digest 192 = .ok (.invokevirtual 199, 3) := by decide +kernel
theorem dX5_digest_195 : decode cX5_digest 195 = .ok (.aload_n 0, 1) := by decide +kernel
theorem dX5_digest_196 : decode cX5_digest 196 = .ok (.aload_n 0, 1) := by decide +kernel
theorem dX5_digest_197 : decode cX5_digest 197 = .ok (.invokevirtual 187, 3) := by decide +kernel
theorem dX5_digest_200 : decode cX5_digest 200 = .ok (.f2d, 1) := by decide +kernel
theorem dX5_digest_201 : decode cX5_digest 201 = .ok (.ldc2_w 218, 3) := by decide +kernel
theorem dX5_digest_204 : decode cX5_digest 204 = .ok (.ldc2_w 220, 3) := by decide +kernel
theorem dX5_digest_207 : decode cX5_digest 207 = .ok (.invokestatic 214, 3) := by decide +kernel
theorem dX5_digest_210 : decode cX5_digest 210 = .ok (.invokevirtual 199, 3) := by decide +kernel
theorem dX5_digest_213 : decode cX5_digest 213 = .ok (.aload_n 0, 1) := by decide +kernel
theorem dX5_digest_214 : decode cX5_digest 214 = .ok (.aload_n 0, 1) := by decide +kernel
theorem dX5_digest_215 : decode cX5_digest 215 = .ok (.getfield 13, 3) := by decide +kernel
theorem dX5_digest_218 : decode cX5_digest 218 = .ok (.iconst 0, 1) := by decide +kernel
theorem dX5_digest_219 : decode cX5_digest 219 = .ok (.baload, 1) := by decide +kernel
theorem dX5_digest_220 : decode cX5_digest 220 = .ok (.ifCond .eq 7, 3) := by decide +kernel
theorem dX5_digest_223 : decode cX5_digest 223 = .ok (.lconst 1, 1) := by decide +kernel
theorem dX5_digest_224 : decode cX5_digest 224 = .ok (.goto 4, 3) := by decide +kernel
theorem dX5_digest_227 : decode cX5_digest 227 = .ok (.lconst 0, 1) := by decide +kernel
theorem dX5_digest_228 : decode cX5_digest 228 = .ok (.invokevirtual 199, 3) := by decide +kernel
theorem dX5_digest_231 : decode cX5_digest 231 = .ok (.aload_n 0, 1) := by decide +kernel
theorem dX5_digest_232 : decode cX5_digest 232 = .ok (.aload_n 0, 1) := by decide +kernel
theorem dX5_digest_233 : decode cX5_digest 233 = .ok (.getfield 13, 3) := by decide +kernel
theorem dX5_digest_236 : decode cX5_digest 236 = .ok (.iconst 1, 1) := by decide +kernel
theorem dX5_digest_237 : decode cX5_digest 237 = .ok (.baload, 1) := by decide +kernel
theorem dX5_digest_238 : decode cX5_digest 238 = .ok (.ifCond .eq 7, 3) := by decide +kernel
theorem dX5_digest_241 : decode cX5_digest 241 = .ok (.lconst 1, 1) := by decide +kernel
theorem dX5_digest_242 : decode cX5_digest 242 = .ok (.goto 4, 3) := by decide +kernel
theorem dX5_digest_245 : decode cX5_digest 245 = .ok (.lconst 0, 1) := by decide +kernel
theorem dX5_digest_246 : decode cX5_digest 246 = .ok (.invokevirtual 199, 3) := by decide +kernel
theorem dX5_digest_249 : decode cX5_digest 249 = .ok (.aload_n 0, 1) := by decide +kernel
theorem dX5_digest_250 : decode cX5_digest 250 = .ok (.aload_n 0, 1) := by decide +kernel
theorem dX5_digest_251 : decode cX5_digest 251 = .ok (.getfield 105, 3) := by decide +kernel
theorem dX5_digest_254 : decode cX5_digest 254 = .ok (.i2l, 1) := by decide +kernel
theorem dX5_digest_255 : decode cX5_digest 255 = .ok (.invokevirtual 199, 3) := by decide +kernel
theorem dX5_digest_258 : decode cX5_digest 258 = .ok (.iconst 0, 1) := by decide +kernel
theorem dX5_digest_259 : decode cX5_digest 259 = .ok (.istore_n 1, 1) := by decide +kernel
theorem dX5_digest_260 : decode cX5_digest 260 = .ok (.iload_n 1, 1) := by decide +kernel
theorem dX5_digest_261 : decode cX5_digest 261 = .ok (.aload_n 0, 1) := by decide +kernel
theorem dX5_digest_262 : decode cX5_digest 262 = .ok (.getfield 105, 3) := by decide +kernel
theorem dX5_digest_265 : decode cX5_digest 265 = .ok (.if_icmp .ge 20, 3) := by decide +kernel
theorem dX5_digest_268 : decode cX5_digest 268 = .ok (.aload_n 0, 1) := by decide +kernel
theorem dX5_digest_269 : decode cX5_digest 269 = .ok (.aload_n 0, 1) := by decide +kernel
theorem dX5_digest_270 : decode cX5_digest 270 = .ok (.getfield 17, 3) := by decide +kernel
theorem dX5_digest_273 : decode cX5_digest 273 = .ok (.iload_n 1, 1) := by decide +kernel
theorem dX5_digest_274 : decode cX5_digest 274 = .ok (.iaload, 1) := by decide +kernel
theorem dX5_digest_275 : decode cX5_digest 275 = .ok (.i2l, 1) := by decide +kernel
theorem dX5_digest_276 : decode cX5_digest 276 = .ok (.invokevirtual 199, 3) := by decide +kernel
theorem dX5_digest_279 : decode cX5_digest 279 = .ok (.iinc 1 1, 3) := by decide +kernel
theorem dX5_digest_282 : decode cX5_digest 282 = .ok (.goto (-22), 3) := by decide +kernel
theorem dX5_digest_285 : decode cX5_digest 285 = .ok (.aload_n 0, 1) := by decide +kernel
theorem dX5_digest_286 : decode cX5_digest 286 = .ok (.getfield 193, 3) := by decide +kernel
theorem dX5_digest_289 : decode cX5_digest 289 = .ok (.lreturn, 1) := by decide +kernel
