theorem dX5_load_32 : decode cX5_load 32 = .ok (.aload_n 0, 1) := by decide +kernel
theorem dX5_load_33 : decode cX5_load 33 = .ok (.invokevirtual 93, 3) := by decide +kernel
theorem dX5_load_36 : decode cX5_load 36 = .ok (.aload_n 0, 1) := by decide +kernel
theorem dX5_load_37 : decode cX5_load 37 = .ok (.iconst 0, 1) := by decide +kernel
theorem dX5_load_38 : decode cX5_load 38 = .ok (.putfield 105, 3) := by decide +kernel
theorem dX5_load_41 : decode cX5_load 41 = .ok (.aload_n 0, 1) := by decide +kernel
theorem dX5_load_42 : decode cX5_load 42 = .ok (.iconst 0, 1) := by decide +kernel
theorem dX5_load_43 : decode cX5_load 43 = .ok (.iload_n 1, 1) := by decide +kernel
theorem dX5_load_44 : decode cX5_load 44 = .ok (.invokevirtual 125, 3) := by decide +kernel
theorem dX5_load_47 : decode cX5_load 47 = .ok (.ireturn, 1) := by decide +kernel
theorem dX5_sign_0 : decode cX5_sign 0 = .ok (.iload_n 0, 1) := by decide +kernel
theorem dX5_sign_1 : decode cX5_sign 1 = .ok (.bipush 10, 2) := by decide +kernel
theorem dX5_sign_3 : decode cX5_sign 3 = .ok (.if_icmp .ge 10, 3) := by decide +kernel
theorem dX5_sign_6 : decode cX5_sign 6 = .ok (.bipush 48, 2) := by decide +kernel
theorem dX5_sign_8 : decode cX5_sign 8 = .ok (.iload_n 0, 1) := by decide +kernel
theorem dX5_sign_9 : decode cX5_sign 9 = .ok (.iadd, 1) := by decide +kernel
theorem dX5_sign_10 : decode cX5_sign 10 = .ok (.goto 10, 3) := by decide +kernel
theorem dX5_sign_13 : decode cX5_sign 13 = .ok (.bipush 97, 2) := by decide +kernel
theorem dX5_sign_15 : decode cX5_sign 15 = .ok (.iload_n 0, 1) := by decide +kernel
theorem dX5_sign_16 : decode cX5_sign 16 = .ok (.iadd, 1) := by decide +kernel
theorem dX5_sign_17 : decode cX5_sign 17 = .ok (.bipush 10, 2) := by decide +kernel
theorem dX5_sign_19 : decode cX5_sign 19 = .ok (.isub, 1) := by decide +kernel
theorem dX5_sign_20 : decode cX5_sign 20 = .ok (.ireturn, 1) := by decide +kernel
set_option maxRecDepth 20000 in
theorem ggX5_write_X5_isThread : GoodIn wsX5_write wsX5_isThread := goodIn_r _ [6, 7, 8, 5, 9] (by decide +kernel) (by decide +kernel)
set_option maxRecDepth 20000 in
theorem gX5_write_X5_isThread : GoodIn wsX5_write (va_wsS RX5 83 yX5_isThread wsX5_isThread) := goodIn_app (goodIn_of _ (by decide +kernel)) ggX5_write_X5_isThread
set_option maxRecDepth 20000 in
theorem ggX5_write_X5_holds : GoodIn wsX5_write wsX5_holds := goodIn_r _ [13, 14, 46, 47, 48, 49, 50, 51, 52, 53, 54, 55] (by decide +kernel) (by decide +kernel)
set_option maxRecDepth 20000 in
theorem gX5_write_X5_holds : GoodIn wsX5_write (wsV RX5 90 RX5 yX5_holds wsX5_holds) := goodIn_app (goodIn_of _ (by decide +kernel)) ggX5_write_X5_holds
set_option maxRecDepth 20000 in
theorem ggX5_write_X5_wordOf : GoodIn wsX5_write wsX5_wordOf := goodIn_r _ [18, 19, 20, 21, 5, 22, 23, 24, 25, 26, 27, 28, 29, 30, 31, 32, 33, 34, 35, 36, 37, 38, 39, 40, 41, 42, 46, 47, 48, 49, 50, 51, 52, 53, 54, 55] (by decide +kernel) (by decide +kernel)
set_option maxRecDepth 20000 in
theorem gX5_write_X5_wordOf : GoodIn wsX5_write (wsV RX5 52 RX5 yX5_wordOf wsX5_wordOf) := goodIn_app (goodIn_of _ (by decide +kernel)) ggX5_write_X5_wordOf
set_option maxRecDepth 20000 in
theorem ggX5_write_X5_sign : GoodIn wsX5_write wsX5_sign := goodIn_r _ [45] (by decide +kernel) (by decide +kernel)
set_option maxRecDepth 20000 in
theorem gX5_write_X5_sign : GoodIn wsX5_write (va_wsS RX5 128 yX5_sign wsX5_sign) := goodIn_app (goodIn_of _ (by decide +kernel)) ggX5_write_X5_sign
theorem dX5_write_0 : decode cX5_write 0 = .ok (.aload_n 0, 1) := by decide +kernel
theorem dX5_write_1 : decode cX5_write 1 = .ok (.iload_n 1, 1) := by decide +kernel
theorem dX5_write_2 : decode cX5_write 2 = .ok (.invokestatic 83, 3) := by decide +kernel
theorem dX5_write_5 : decode cX5_write 5 = .ok (.ifCond .eq 19, 3) := by decide +kernel
theorem dX5_write_8 : decode cX5_write 8 = .ok (.iload_n 2, 1) := by decide +kernel
theorem dX5_write_9 : decode cX5_write 9 = .ok (.invokestatic 83, 3) := by decide +kernel
theorem dX5_write_12 : decode cX5_write 12 = .ok (.ifCond .eq 12, 3) := by decide +kernel
theorem dX5_write_15 : decode cX5_write 15 = .ok (.iload_n 1, 1) := by decide +kernel
theorem dX5_write_16 : decode cX5_write 16 = .ok (.iload_n 2, 1) := by decide +kernel
theorem dX5_write_17 : decode cX5_write 17 = .ok (.if_icmp .gt 7, 3) := by decide +kernel
theorem dX5_write_20 : decode cX5_write 20 = .ok (.iconst 0, 1) := by decide +kernel
theorem dX5_write_21 : decode cX5_write 21 = .ok (.goto 4, 3) := by decide +kernel
theorem dX5_write_24 : decode cX5_write 24 = .ok (.iconst 1, 1) := by decide +kernel
theorem dX5_write_25 : decode cX5_write 25 = .ok (.invokevirtual 90, 3) := by decide +kernel
theorem dX5_write_28 : decode cX5_write 28 = .ok (.ifCond .ne 5, 3) := by decide +kernel
theorem dX5_write_31 : decode cX5_write 31 = .ok (.iconst 0, 1) := by decide +kernel
theorem dX5_write_32 : decode cX5_write 32 = .ok (.ireturn, 1) := by decide +kernel
theorem dX5_write_33 : decode cX5_write 33 = .ok (.aload_n 0, 1) := by decide +kernel
theorem dX5_write_34 : decode cX5_write 34 = .ok (.iconst 0, 1) := by decide +kernel
theorem dX5_write_35 : decode cX5_write 35 = .ok (.putfield 105, 3) := by decide +kernel
theorem dX5_write_38 : decode cX5_write 38 = .ok (.iload_n 1, 1) := by decide +kernel
theorem dX5_write_39 : decode cX5_write 39 = .ok (.istore_n 3, 1) := by decide +kernel
theorem dX5_write_40 : decode cX5_write 40 = .ok (.iload_n 3, 1) := by decide +kernel
theorem dX5_write_41 : decode cX5_write 41 = .ok (.iload_n 2, 1) := by decide +kernel
theorem dX5_write_42 : decode cX5_write 42 = .ok (.if_icmp .gt 63, 3) := by decide +kernel
theorem dX5_write_45 : decode cX5_write 45 = .ok (.aload_n 0, 1) := by decide +kernel
theorem dX5_write_46 : decode cX5_write 46 = .ok (.iconst 0, 1) := by decide +kernel
theorem dX5_write_47 : decode cX5_write 47 = .ok (.iload_n 3, 1) := by decide +kernel
theorem dX5_write_48 : decode cX5_write 48 = .ok (.invokevirtual 52, 3) := by decide +kernel
theorem dX5_write_51 : decode cX5_write 51 = .ok (.istore 4, 2) := by decide +kernel
theorem dX5_write_53 : decode cX5_write 53 = .ok (.aload_n 0, 1) := by decide +kernel
theorem dX5_write_54 : decode cX5_write 54 = .ok (.getfield 17, 3) := by decide +kernel
theorem dX5_write_57 : decode cX5_write 57 = .ok (.aload_n 0, 1) := by decide +kernel
theorem dX5_write_58 : decode cX5_write 58 = .ok (.getfield 105, 3) := by decide +kernel
theorem dX5_write_61 : decode cX5_write 61 = .ok (.iload 4, 2) := by decide +kernel
theorem dX5_write_63 : decode cX5_write 63 = .ok (.bipush 16, 2) := by decide +kernel
theorem dX5_write_65 : decode cX5_write 65 = .ok (.idiv, 1) := by decide +kernel
theorem dX5_write_66 : decode cX5_write 66 = .ok (.invokestatic 128, 3) := by decide +kernel
theorem dX5_write_69 : decode cX5_write 69 = .ok (.iastore, 1) := by decide +kernel
theorem dX5_write_70 : decode cX5_write 70 = .ok (.aload_n 0, 1) := by decide +kernel
theorem dX5_write_71 : decode cX5_write 71 = .ok (.getfield 17, 3) := by decide +kernel
theorem dX5_write_74 : decode cX5_write 74 = .ok (.aload_n 0, 1) := by decide +kernel
theorem dX5_write_75 : decode cX5_write 75 = .ok (.getfield 105, 3) := by decide +kernel
theorem dX5_write_78 : decode cX5_write 78 = .ok (.iconst 1, 1) := by decide +kernel
theorem dX5_write_79 : decode cX5_write 79 = .ok (.iadd, 1) := by decide +kernel
theorem dX5_write_80 : decode cX5_write 80 = .ok (.iload 4, 2) := by decide +kernel
theorem dX5_write_82 : decode cX5_write 82 = .ok (.bipush 16, 2) := by decide +kernel
theorem dX5_write_84 : decode cX5_write 84 = .ok (.irem, 1) := by decide +kernel
theorem dX5_write_85 : decode cX5_write 85 = .ok (.invokestatic 128, 3) := by decide +kernel
theorem dX5_write_88 : decode cX5_write 88 = .ok (.iastore, 1) := by decide +kernel
theorem dX5_write_89 : decode cX5_write 89 = .ok (.aload_n 0, 1) := by decide +kernel
theorem dX5_write_90 : decode cX5_write 90 = .ok (.dup, 1) := by decide +kernel
theorem dX5_write_91 : decode cX5_write 91 = .ok (.getfield 105, 3) := by decide +kernel
theorem dX5_write_94 : decode cX5_write 94 = .ok (.iconst 2, 1) := by decide +kernel
theorem dX5_write_95 : decode cX5_write 95 = .ok (.iadd, 1) := by decide +kernel
theorem dX5_write_96 : decode cX5_write 96 = .ok (.putfield 105, 3) := by decide +kernel
theorem dX5_write_99 : decode cX5_write 99 = .ok (.iinc 3 1, 3) := by decide +kernel
theorem dX5_write_102 : decode cX5_write 102 = .ok (.goto (-62), 3) := by decide +kernel
theorem dX5_write_105 : decode cX5_write 105 = .ok (.aload_n 0, 1) := by decide +kernel
theorem dX5_write_106 : decode cX5_write 106 = .ok (.getfield 105, 3) := by decide +kernel
theorem dX5_write_109 : decode cX5_write 109 = .ok (.ireturn, 1) := by decide +kernel
set_option maxRecDepth 20000 in
theorem ggX5_keep_X5_in : GoodIn wsX5_keep wsX5_in := goodIn_r _ [5] (by decide +kernel) (by decide +kernel)
set_option maxRecDepth 20000 in
theorem gX5_keep_X5_in : GoodIn wsX5_keep (va_wsS RX5 27 yX5_in wsX5_in) := goodIn_app (goodIn_of _ (by decide +kernel)) ggX5_keep_X5_in
set_option maxRecDepth 20000 in
theorem ggX5_keep_X5_holds : GoodIn wsX5_keep wsX5_holds := goodIn_r _ [9, 10, 23, 24, 25, 26, 27, 28, 29, 30, 31, 32] (by decide +kernel) (by decide +kernel)
set_option maxRecDepth 20000 in
theorem gX5_keep_X5_holds : GoodIn wsX5_keep (wsV RX5 90 RX5 yX5_holds wsX5_holds) := goodIn_app (goodIn_of _ (by decide +kernel)) ggX5_keep_X5_holds
set_option maxRecDepth 20000 in
theorem ggX5_keep_X5_copies : GoodIn wsX5_keep wsX5_copies := goodIn_r _ [14, 15, 23, 24, 25, 26, 27, 28, 29, 30, 31, 32] (by decide +kernel) (by decide +kernel)
set_option maxRecDepth 20000 in
theorem gX5_keep_X5_copies : GoodIn wsX5_keep (wsV RX5 79 RX5 yX5_copies wsX5_copies) := goodIn_app (goodIn_of _ (by decide +kernel)) ggX5_keep_X5_copies
set_option maxRecDepth 20000 in
theorem ggX5_keep_X5_crossings : GoodIn wsX5_keep wsX5_crossings := goodIn_r _ [19, 15, 20, 21, 4, 22, 23, 24, 25, 26, 27, 28, 29, 30, 31, 32] (by decide +kernel) (by decide +kernel)
set_option maxRecDepth 20000 in
theorem gX5_keep_X5_crossings : GoodIn wsX5_keep (wsV RX5 131 RX5 yX5_crossings wsX5_crossings) := goodIn_app (goodIn_of _ (by decide +kernel)) ggX5_keep_X5_crossings
theorem dX5_keep_0 : decode cX5_keep 0 = .ok (.aload_n 0, 1) := by decide +kernel
theorem dX5_keep_1 : decode cX5_keep 1 = .ok (.iload_n 1, 1) := by decide +kernel
theorem dX5_keep_2 : decode cX5_keep 2 = .ok (.iconst 0, 1) := by decide +kernel
theorem dX5_keep_3 : decode cX5_keep 3 = .ok (.iconst 1, 1) := by decide +kernel
theorem dX5_keep_4 : decode cX5_keep 4 = .ok (.invokestatic 27, 3) := by decide +kernel
theorem dX5_keep_7 : decode cX5_keep 7 = .ok (.ifCond .eq 7, 3) := by decide +kernel
theorem dX5_keep_10 : decode cX5_keep 10 = .ok (.iconst 0, 1) := by decide +kernel
theorem dX5_keep_11 : decode cX5_keep 11 = .ok (.goto 4, 3) := by decide +kernel
theorem dX5_keep_14 : decode cX5_keep 14 = .ok (.iconst 1, 1) := by decide +kernel
theorem dX5_keep_15 : decode cX5_keep 15 = .ok (.invokevirtual 90, 3) := by decide +kernel
theorem dX5_keep_18 : decode cX5_keep 18 = .ok (.ifCond .ne 5, 3) := by decide +kernel
theorem dX5_keep_21 : decode cX5_keep 21 = .ok (.iconst 0, 1) := by decide +kernel
theorem dX5_keep_22 : decode cX5_keep 22 = .ok (.ireturn, 1) := by decide +kernel
theorem dX5_keep_23 : decode cX5_keep 23 = .ok (.aload_n 0, 1) := by decide +kernel
theorem dX5_keep_24 : decode cX5_keep 24 = .ok (.iconst 0, 1) := by decide +kernel
theorem dX5_keep_25 : decode cX5_keep 25 = .ok (.bipush 7, 2) := by decide +kernel
theorem dX5_keep_27 : decode cX5_keep 27 = .ok (.iload_n 1, 1) := by decide +kernel
theorem dX5_keep_28 : decode cX5_keep 28 = .ok (.iadd, 1) := by decide +kernel
theorem dX5_keep_29 : decode cX5_keep 29 = .ok (.invokevirtual 79, 3) := by decide +kernel
theorem dX5_keep_32 : decode cX5_keep 32 = .ok (.aload_n 0, 1) := by decide +kernel
theorem dX5_keep_33 : decode cX5_keep 33 = .ok (.getfield 13, 3) := by decide +kernel
theorem dX5_keep_36 : decode cX5_keep 36 = .ok (.iload_n 1, 1) := by decide +kernel
theorem dX5_keep_37 : decode cX5_keep 37 = .ok (.iconst 1, 1) := by decide +kernel
theorem dX5_keep_38 : decode cX5_keep 38 = .ok (.bastore, 1) := by decide +kernel
theorem dX5_keep_39 : decode cX5_keep 39 = .ok (.aload_n 0, 1) := by decide +kernel
theorem dX5_keep_40 : decode cX5_keep 40 = .ok (.iconst 0, 1) := by decide +kernel
theorem dX5_keep_41 : decode cX5_keep 41 = .ok (.invokevirtual 131, 3) := by decide +kernel
theorem dX5_keep_44 : decode cX5_keep 44 = .ok (.ireturn, 1) := by decide +kernel
set_option maxRecDepth 20000 in
theorem ggX5_goBack_X5_in : GoodIn wsX5_goBack wsX5_in := goodIn_r _ [5] (by decide +kernel) (by decide +kernel)
set_option maxRecDepth 20000 in
theorem gX5_goBack_X5_in : GoodIn wsX5_goBack (va_wsS RX5 27 yX5_in wsX5_in) := goodIn_app (goodIn_of _ (by decide +kernel)) ggX5_goBack_X5_in
set_option maxRecDepth 20000 in
theorem ggX5_goBack_X5_holds : GoodIn wsX5_goBack wsX5_holds := goodIn_r _ [9, 10, 28, 29, 30, 31, 32, 33, 34, 35, 36, 37] (by decide +kernel) (by decide +kernel)
set_option maxRecDepth 20000 in
theorem gX5_goBack_X5_holds : GoodIn wsX5_goBack (wsV RX5 90 RX5 yX5_holds wsX5_holds) := goodIn_app (goodIn_of _ (by decide +kernel)) ggX5_goBack_X5_holds
set_option maxRecDepth 20000 in
theorem ggX5_goBack_X5_save : GoodIn wsX5_goBack wsX5_save := goodIn_r _ [14, 15, 16, 17, 18, 4, 19, 20, 28, 29, 30, 31, 32, 33, 34, 35, 36, 37] (by decide +kernel) (by decide +kernel)
set_option maxRecDepth 20000 in
theorem gX5_goBack_X5_save : GoodIn wsX5_goBack (wsV RX5 93 RX5 yX5_save wsX5_save) := goodIn_app (goodIn_of _ (by decide +kernel)) ggX5_goBack_X5_save
set_option maxRecDepth 20000 in
theorem ggX5_goBack_X5_copies : GoodIn wsX5_goBack wsX5_copies := goodIn_r _ [19, 20, 28, 29, 30, 31, 32, 33, 34, 35, 36, 37] (by decide +kernel) (by decide +kernel)
set_option maxRecDepth 20000 in
theorem gX5_goBack_X5_copies : GoodIn wsX5_goBack (wsV RX5 79 RX5 yX5_copies wsX5_copies) := goodIn_app (goodIn_of _ (by decide +kernel)) ggX5_goBack_X5_copies
set_option maxRecDepth 20000 in
theorem ggX5_goBack_X5_crossings : GoodIn wsX5_goBack wsX5_crossings := goodIn_r _ [24, 20, 25, 26, 4, 27, 28, 29, 30, 31, 32, 33, 34, 35, 36, 37] (by decide +kernel) (by decide +kernel)
set_option maxRecDepth 20000 in
theorem gX5_goBack_X5_crossings : GoodIn wsX5_goBack (wsV RX5 131 RX5 yX5_crossings wsX5_crossings) := goodIn_app (goodIn_of _ (by decide +kernel)) ggX5_goBack_X5_crossings
theorem dX5_goBack_0 : decode cX5_goBack 0 = .ok (.aload_n 0, 1) := by decide +kernel
theorem dX5_goBack_1 : decode cX5_goBack 1 = .ok (.iload_n 1, 1) := by decide +kernel
theorem dX5_goBack_2 : decode cX5_goBack 2 = .ok (.iconst 0, 1) := by decide +kernel
theorem dX5_goBack_3 : decode cX5_goBack 3 = .ok (.iconst 1, 1) := by decide +kernel
theorem dX5_goBack_4 : decode cX5_goBack 4 = .ok (.invokestatic 27, 3) := by decide +kernel
theorem dX5_goBack_7 : decode cX5_goBack 7 = .ok (.ifCond .ne 7, 3) := by decide +kernel
theorem dX5_goBack_10 : decode cX5_goBack 10 = .ok (.iconst 1, 1) := by decide +kernel
theorem dX5_goBack_11 : decode cX5_goBack 11 = .ok (.goto 17, 3) := by decide +kernel
theorem dX5_goBack_14 : decode cX5_goBack 14 = .ok (.aload_n 0, 1) := by decide +kernel
theorem dX5_goBack_15 : decode cX5_goBack 15 = .ok (.getfield 13, 3) := by decide +kernel
theorem dX5_goBack_18 : decode cX5_goBack 18 = .ok (.iload_n 1, 1) := by decide +kernel
theorem dX5_goBack_19 : decode cX5_goBack 19 = .ok (.baload, 1) := by decide +kernel
theorem dX5_goBack_20 : decode cX5_goBack 20 = .ok (.ifCond .ne 7, 3) := by decide +kernel
theorem dX5_goBack_23 : decode cX5_goBack 23 = .ok (.iconst 2, 1) := by decide +kernel
theorem dX5_goBack_24 : decode cX5_goBack 24 = .ok (.goto 4, 3) := by decide +kernel
theorem dX5_goBack_27 : decode cX5_goBack 27 = .ok (.iconst 0, 1) := by decide +kernel
theorem dX5_goBack_28 : decode cX5_goBack 28 = .ok (.invokevirtual 90, 3) := by decide +kernel
theorem dX5_goBack_31 : decode cX5_goBack 31 = .ok (.ifCond .ne 5, 3) := by decide +kernel
theorem dX5_goBack_34 : decode cX5_goBack 34 = .ok (.iconst 0, 1) := by decide +kernel
theorem dX5_goBack_35 : decode cX5_goBack 35 = .ok (.ireturn, 1) := by decide +kernel
theorem dX5_goBack_36 : decode cX5_goBack 36 = .ok (.aload_n 0, 1) := by decide +kernel
theorem dX5_goBack_37 : decode cX5_goBack 37 = .ok (.invokevirtual 93, 3) := by decide +kernel
theorem dX5_goBack_40 : decode cX5_goBack 40 = .ok (.aload_n 0, 1) := by decide +kernel
theorem dX5_goBack_41 : decode cX5_goBack 41 = .ok (.bipush 7, 2) := by decide +kernel
theorem dX5_goBack_43 : decode cX5_goBack 43 = .ok (.iload_n 1, 1) := by decide +kernel
theorem dX5_goBack_44 : decode cX5_goBack 44 = .ok (.iadd, 1) := by decide +kernel
theorem dX5_goBack_45 : decode cX5_goBack 45 = .ok (.iconst 0, 1) := by decide +kernel
theorem dX5_goBack_46 : decode cX5_goBack 46 = .ok (.invokevirtual 79, 3) := by decide +kernel
theorem dX5_goBack_49 : decode cX5_goBack 49 = .ok (.aload_n 0, 1) := by decide +kernel
theorem dX5_goBack_50 : decode cX5_goBack 50 = .ok (.iconst 0, 1) := by decide +kernel
theorem dX5_goBack_51 : decode cX5_goBack 51 = .ok (.invokevirtual 131, 3) := by decide +kernel
theorem dX5_goBack_54 : decode cX5_goBack 54 = .ok (.ireturn, 1) := by decide +kernel
set_option maxRecDepth 20000 in
theorem ggX5_undo_X5_holds : GoodIn wsX5_undo wsX5_holds := goodIn_r _ [6, 7, 13, 14, 15, 16, 17, 18, 19, 20, 21, 22] (by decide +kernel) (by decide +kernel)
set_option maxRecDepth 20000 in
theorem gX5_undo_X5_holds : GoodIn wsX5_undo (wsV RX5 90 RX5 yX5_holds wsX5_holds) := goodIn_app (goodIn_of _ (by decide +kernel)) ggX5_undo_X5_holds
set_option maxRecDepth 20000 in
theorem ggX5_undo_X5_copies : GoodIn wsX5_undo wsX5_copies := goodIn_r _ [11, 12, 13, 14, 15, 16, 17, 18, 19, 20, 21, 22] (by decide +kernel) (by decide +kernel)
set_option maxRecDepth 20000 in
theorem gX5_undo_X5_copies : GoodIn wsX5_undo (wsV RX5 79 RX5 yX5_copies wsX5_copies) := goodIn_app (goodIn_of _ (by decide +kernel)) ggX5_undo_X5_copies
theorem dX5_undo_0 : decode cX5_undo 0 = .ok (.aload_n 0, 1) := by decide +kernel
theorem dX5_undo_1 : decode cX5_undo 1 = .ok (.aload_n 0, 1) := by decide +kernel
theorem dX5_undo_2 : decode cX5_undo 2 = .ok (.getfield 76, 3) := by decide +kernel
theorem dX5_undo_5 : decode cX5_undo 5 = .ok (.ifCond .le 7, 3) := by decide +kernel
theorem dX5_undo_8 : decode cX5_undo 8 = .ok (.iconst 0, 1) := by decide +kernel
theorem dX5_undo_9 : decode cX5_undo 9 = .ok (.goto 4, 3) := by decide +kernel
theorem dX5_undo_12 : decode cX5_undo 12 = .ok (.iconst 1, 1) := by decide +kernel
theorem dX5_undo_13 : decode cX5_undo 13 = .ok (.invokevirtual 90, 3) := by decide +kernel
theorem dX5_undo_16 : decode cX5_undo 16 = .ok (.ifCond .ne 5, 3) := by decide +kernel
theorem dX5_undo_19 : decode cX5_undo 19 = .ok (.iconst 0, 1) := by decide +kernel
theorem dX5_undo_20 : decode cX5_undo 20 = .ok (.ireturn, 1) := by decide +kernel
theorem dX5_undo_21 : decode cX5_undo 21 = .ok (.aload_n 0, 1) := by decide +kernel
theorem dX5_undo_22 : decode cX5_undo 22 = .ok (.aload_n 0, 1) := by decide +kernel
theorem dX5_undo_23 : decode cX5_undo 23 = .ok (.getfield 76, 3) := by decide +kernel
theorem dX5_undo_26 : decode cX5_undo 26 = .ok (.iconst 0, 1) := by decide +kernel
theorem dX5_undo_27 : decode cX5_undo 27 = .ok (.invokevirtual 79, 3) := by decide +kernel
theorem dX5_undo_30 : decode cX5_undo 30 = .ok (.aload_n 0, 1) := by decide +kernel
theorem dX5_undo_31 : decode cX5_undo 31 = .ok (.dup, 1) := by decide +kernel
theorem dX5_undo_32 : decode cX5_undo 32 = .ok (.getfield 76, 3) := by decide +kernel
theorem dX5_undo_35 : decode cX5_undo 35 = .ok (.iconst 1, 1) := by decide +kernel
theorem dX5_undo_36 : decode cX5_undo 36 = .ok (.isub, 1) := by decide +kernel
theorem dX5_undo_37 : decode cX5_undo 37 = .ok (.putfield 76, 3) := by decide +kernel
theorem dX5_undo_40 : decode cX5_undo 40 = .ok (.aload_n 0, 1) := by decide +kernel
theorem dX5_undo_41 : decode cX5_undo 41 = .ok (.getfield 76, 3) := by decide +kernel
theorem dX5_undo_44 : decode cX5_undo 44 = .ok (.ireturn, 1) := by decide +kernel
set_option maxRecDepth 20000 in
theorem ggX5_ofThread_X5_meant : GoodIn wsX5_ofThread wsX5_meant := goodIn_r _ [6, 1, 7, 8, 9, 5, 10, 37, 38, 39, 40, 41, 42, 43, 44, 45, 46] (by decide +kernel) (by decide +kernel)
set_option maxRecDepth 20000 in
theorem gX5_ofThread_X5_meant : GoodIn wsX5_ofThread (wsV RX5 63 RX5 yX5_meant wsX5_meant) := goodIn_app (goodIn_of _ (by decide +kernel)) ggX5_ofThread_X5_meant
set_option maxRecDepth 20000 in
theorem ggX5_ofThread_X5_wordOf : GoodIn wsX5_ofThread wsX5_wordOf := goodIn_r _ [14, 15, 16, 17, 5, 18, 1, 19, 20, 21, 22, 23, 24, 25, 26, 27, 28, 29, 30, 31, 32, 33, 7, 8, 9, 10, 37, 38, 39, 40, 41, 42, 43, 44, 45, 46] (by decide +kernel) (by decide +kernel)
set_option maxRecDepth 20000 in
theorem gX5_ofThread_X5_wordOf : GoodIn wsX5_ofThread (wsV RX5 52 RX5 yX5_wordOf wsX5_wordOf) := goodIn_app (goodIn_of _ (by decide +kernel)) ggX5_ofThread_X5_wordOf
set_option maxRecDepth 20000 in
theorem ggX5_ofThread_X5_ones : GoodIn wsX5_ofThread wsX5_ones := goodIn_r _ [36] (by decide +kernel) (by decide +kernel)
set_option maxRecDepth 20000 in
theorem gX5_ofThread_X5_ones : GoodIn wsX5_ofThread (va_wsS RX5 59 yX5_ones wsX5_ones) := goodIn_app (goodIn_of _ (by decide +kernel)) ggX5_ofThread_X5_ones
set_option maxRecDepth 20000 in
theorem ggX5_ofThread_X5_answers : GoodIn wsX5_ofThread wsX5_answers := goodIn_r _ [18, 1, 19, 20, 21, 5, 22, 23, 24, 25, 26, 27, 28, 29, 30, 31, 32, 33, 37, 38, 39, 40, 41, 42, 43, 44, 45, 46] (by decide +kernel) (by decide +kernel)
set_option maxRecDepth 20000 in
theorem gX5_ofThread_X5_answers : GoodIn wsX5_ofThread (wsV RX5 45 RX5 yX5_answers wsX5_answers) := goodIn_app (goodIn_of _ (by decide +kernel)) ggX5_ofThread_X5_answers
theorem dX5_ofThread_0 : decode cX5_ofThread 0 = .ok (.iload_n 2, 1) := by decide +kernel
theorem dX5_ofThread_1 : decode cX5_ofThread 1 = .ok (.tableswitch 129 0 6 #[43, 50, 62, 69, 76, 93, 111], 43) := by decide +kernel
theorem dX5_ofThread_44 : decode cX5_ofThread 44 = .ok (.aload_n 0, 1) := by decide +kernel
theorem dX5_ofThread_45 : decode cX5_ofThread 45 = .ok (.getfield 7, 3) := by decide +kernel
theorem dX5_ofThread_48 : decode cX5_ofThread 48 = .ok (.iload_n 1, 1) := by decide +kernel
theorem dX5_ofThread_49 : decode cX5_ofThread 49 = .ok (.iaload, 1) := by decide +kernel
theorem dX5_ofThread_50 : decode cX5_ofThread 50 = .ok (.ireturn, 1) := by decide +kernel
theorem dX5_ofThread_51 : decode cX5_ofThread 51 = .ok (.aload_n 0, 1) := by decide +kernel
theorem dX5_ofThread_52 : decode cX5_ofThread 52 = .ok (.getfield 7, 3) := by decide +kernel
theorem dX5_ofThread_55 : decode cX5_ofThread 55 = .ok (.bipush 16, 2) := by decide +kernel
theorem dX5_ofThread_57 : decode cX5_ofThread 57 = .ok (.iaload, 1) := by decide +kernel
theorem dX5_ofThread_58 : decode cX5_ofThread 58 = .ok (.iload_n 1, 1) := by decide +kernel
theorem dX5_ofThread_59 : decode cX5_ofThread 59 = .ok (.ishr, 1) := by decide +kernel
theorem dX5_ofThread_60 : decode cX5_ofThread 60 = .ok (.iconst 1, 1) := by decide +kernel
theorem dX5_ofThread_61 : decode cX5_ofThread 61 = .ok (.iand, 1) := by decide +kernel
theorem dX5_ofThread_62 : decode cX5_ofThread 62 = .ok (.ireturn, 1) := by decide +kernel
theorem dX5_ofThread_63 : decode cX5_ofThread 63 = .ok (.aload_n 0, 1) := by decide +kernel
theorem dX5_ofThread_64 : decode cX5_ofThread 64 = .ok (.iconst 0, 1) := by decide +kernel
theorem dX5_ofThread_65 : decode cX5_ofThread 65 = .ok (.iload_n 1, 1) := by decide +kernel
theorem dX5_ofThread_66 : decode cX5_ofThread 66 = .ok (.invokevirtual 63, 3) := by decide +kernel
theorem dX5_ofThread_69 : decode cX5_ofThread 69 = .ok (.ireturn, 1) := by decide +kernel
theorem dX5_ofThread_70 : decode cX5_ofThread 70 = .ok (.aload_n 0, 1) := by decide +kernel
theorem dX5_ofThread_71 : decode cX5_ofThread 71 = .ok (.iconst 0, 1) := by decide +kernel
theorem dX5_ofThread_72 : decode cX5_ofThread 72 = .ok (.iload_n 1, 1) := by decide +kernel
theorem dX5_ofThread_73 : decode cX5_ofThread 73 = .ok (.invokevirtual 52, 3) := by decide +kernel
theorem dX5_ofThread_76 : decode cX5_ofThread 76 = .ok (.ireturn, 1) := by decide +kernel
theorem dX5_ofThread_77 : decode cX5_ofThread 77 = .ok (.aload_n 0, 1) := by decide +kernel
theorem dX5_ofThread_78 : decode cX5_ofThread 78 = .ok (.iconst 0, 1) := by decide +kernel
theorem dX5_ofThread_79 : decode cX5_ofThread 79 = .ok (.iload_n 1, 1) := by decide +kernel
theorem dX5_ofThread_80 : decode cX5_ofThread 80 = .ok (.invokevirtual 63, 3) := by decide +kernel
theorem dX5_ofThread_83 : decode cX5_ofThread 83 = .ok (.aload_n 0, 1) := by decide +kernel
theorem dX5_ofThread_84 : decode cX5_ofThread 84 = .ok (.iconst 0, 1) := by decide +kernel
theorem dX5_ofThread_85 : decode cX5_ofThread 85 = .ok (.iload_n 1, 1) := by decide +kernel
theorem dX5_ofThread_86 : decode cX5_ofThread 86 = .ok (.invokevirtual 52, 3) := by decide +kernel
theorem dX5_ofThread_89 : decode cX5_ofThread 89 = .ok (.ixor, 1) := by decide +kernel
theorem dX5_ofThread_90 : decode cX5_ofThread 90 = .ok (.invokestatic 59, 3) := by decide +kernel
theorem dX5_ofThread_93 : decode cX5_ofThread 93 = .ok (.ireturn, 1) := by decide +kernel
theorem dX5_ofThread_94 : decode cX5_ofThread 94 = .ok (.aload_n 0, 1) := by decide +kernel
theorem dX5_ofThread_95 : decode cX5_ofThread 95 = .ok (.iconst 0, 1) := by decide +kernel
theorem dX5_ofThread_96 : decode cX5_ofThread 96 = .ok (.iload_n 1, 1) := by decide +kernel
theorem dX5_ofThread_97 : decode cX5_ofThread 97 = .ok (.invokevirtual 45, 3) := by decide +kernel
theorem dX5_ofThread_100 : decode cX5_ofThread 100 = .ok (.sipush 255, 3) := by decide +kernel
theorem dX5_ofThread_103 : decode cX5_ofThread 103 = .ok (.aload_n 0, 1) := by decide +kernel
theorem dX5_ofThread_104 : decode cX5_ofThread 104 = .ok (.getfield 7, 3) := by decide +kernel
theorem dX5_ofThread_107 : decode cX5_ofThread 107 = .ok (.iload_n 1, 1) := by decide +kernel
theorem dX5_ofThread_108 : decode cX5_ofThread 108 = .ok (.iaload, 1) := by decide +kernel
theorem dX5_ofThread_109 : decode cX5_ofThread 109 = .ok (.isub, 1) := by decide +kernel
theorem dX5_ofThread_110 : decode cX5_ofThread 110 = .ok (.iand, 1) := by decide +kernel
theorem dX5_ofThread_111 : decode cX5_ofThread 111 = .ok (.ireturn, 1) := by decide +kernel
theorem dX5_ofThread_112 : decode cX5_ofThread 112 = .ok (.aload_n 0, 1) := by decide +kernel
theorem dX5_ofThread_113 : decode cX5_ofThread 113 = .ok (.getfield 7, 3) := by decide +kernel
theorem dX5_ofThread_116 : decode cX5_ofThread 116 = .ok (.iload_n 1, 1) := by decide +kernel
theorem dX5_ofThread_117 : decode cX5_ofThread 117 = .ok (.iaload, 1) := by decide +kernel
theorem dX5_ofThread_118 : decode cX5_ofThread 118 = .ok (.sipush 255, 3) := by decide +kernel
theorem dX5_ofThread_121 : decode cX5_ofThread 121 = .ok (.aload_n 0, 1) := by decide +kernel
theorem dX5_ofThread_122 : decode cX5_ofThread 122 = .ok (.iconst 0, 1) := by decide +kernel
theorem dX5_ofThread_123 : decode cX5_ofThread 123 = .ok (.iload_n 1, 1) := by decide +kernel
theorem dX5_ofThread_124 : decode cX5_ofThread 124 = .ok (.invokevirtual 45, 3) := by decide +kernel
theorem dX5_ofThread_127 : decode cX5_ofThread 127 = .ok (.isub, 1) := by decide +kernel
theorem dX5_ofThread_128 : decode cX5_ofThread 128 = .ok (.iand, 1) := by decide +kernel
theorem dX5_ofThread_129 : decode cX5_ofThread 129 = .ok (.ireturn, 1) := by decide +kernel
theorem dX5_ofThread_130 : decode cX5_ofThread 130 = .ok (.aload_n 0, 1) := by decide +kernel
theorem dX5_ofThread_131 : decode cX5_ofThread 131 = .ok (.getfield 7, 3) := by decide +kernel
theorem dX5_ofThread_134 : decode cX5_ofThread 134 = .ok (.bipush 44, 2) := by decide +kernel
theorem dX5_ofThread_136 : decode cX5_ofThread 136 = .ok (.iload_n 1, 1) := by decide +kernel
theorem dX5_ofThread_137 : decode cX5_ofThread 137 = .ok (.iadd, 1) := by decide +kernel
theorem dX5_ofThread_138 : decode cX5_ofThread 138 = .ok (.iaload, 1) := by decide +kernel
theorem dX5_ofThread_139 : decode cX5_ofThread 139 = .ok (.ireturn, 1) := by decide +kernel
set_option maxRecDepth 20000 in
theorem ggX5_threadOf_X5_isThread : GoodIn wsX5_threadOf wsX5_isThread := goodIn_r _ [4, 5, 6, 3, 7] (by decide +kernel) (by decide +kernel)
set_option maxRecDepth 20000 in
theorem gX5_threadOf_X5_isThread : GoodIn wsX5_threadOf (va_wsS RX5 83 yX5_isThread wsX5_isThread) := goodIn_app (goodIn_of _ (by decide +kernel)) ggX5_threadOf_X5_isThread
set_option maxRecDepth 20000 in
theorem ggX5_threadOf_X5_in : GoodIn wsX5_threadOf wsX5_in := goodIn_r _ [7] (by decide +kernel) (by decide +kernel)
set_option maxRecDepth 20000 in
theorem gX5_threadOf_X5_in : GoodIn wsX5_threadOf (va_wsS RX5 27 yX5_in wsX5_in) := goodIn_app (goodIn_of _ (by decide +kernel)) ggX5_threadOf_X5_in
set_option maxRecDepth 20000 in
theorem ggX5_threadOf_X5_holds : GoodIn wsX5_threadOf wsX5_holds := goodIn_r _ [11, 12, 52, 53, 54, 55, 56, 57, 58, 59, 60, 61] (by decide +kernel) (by decide +kernel)
set_option maxRecDepth 20000 in
theorem gX5_threadOf_X5_holds : GoodIn wsX5_threadOf (wsV RX5 90 RX5 yX5_holds wsX5_holds) := goodIn_app (goodIn_of _ (by decide +kernel)) ggX5_threadOf_X5_holds
set_option maxRecDepth 20000 in
theorem ggX5_threadOf_X5_ofThread : GoodIn wsX5_threadOf wsX5_ofThread := goodIn_r _ [16, 17, 18, 19, 20, 3, 21, 22, 23, 24, 25, 26, 27, 28, 29, 30, 31, 32, 33, 34, 35, 36, 37, 38, 39, 40, 41, 42, 43, 44, 45, 46, 47, 48, 49, 50, 51, 52, 53, 54, 55, 56, 57, 58, 59, 60, 61] (by decide +kernel) (by decide +kernel)
set_option maxRecDepth 20000 in
theorem gX5_threadOf_X5_ofThread : GoodIn wsX5_threadOf (wsV RX5 134 RX5 yX5_ofThread wsX5_ofThread) := goodIn_app (goodIn_of _ (by decide +kernel)) ggX5_threadOf_X5_ofThread
theorem dX5_threadOf_0 : decode cX5_threadOf 0 = .ok (.aload_n 0, 1) := by decide +kernel
theorem dX5_threadOf_1 : decode cX5_threadOf 1 = .ok (.iload_n 1, 1) := by decide +kernel
theorem dX5_threadOf_2 : decode cX5_threadOf 2 = .ok (.invokestatic 83, 3) := by decide +kernel
theorem dX5_threadOf_5 : decode cX5_threadOf 5 = .ok (.ifCond .ne 7, 3) := by decide +kernel
theorem dX5_threadOf_8 : decode cX5_threadOf 8 = .ok (.iconst 1, 1) := by decide +kernel
theorem dX5_threadOf_9 : decode cX5_threadOf 9 = .ok (.goto 18, 3) := by decide +kernel
theorem dX5_threadOf_12 : decode cX5_threadOf 12 = .ok (.iload_n 2, 1) := by decide +kernel
theorem dX5_threadOf_13 : decode cX5_threadOf 13 = .ok (.iconst 0, 1) := by decide +kernel
theorem dX5_threadOf_14 : decode cX5_threadOf 14 = .ok (.bipush 7, 2) := by decide +kernel
theorem dX5_threadOf_16 : decode cX5_threadOf 16 = .ok (.invokestatic 27, 3) := by decide +kernel
theorem dX5_threadOf_19 : decode cX5_threadOf 19 = .ok (.ifCond .ne 7, 3) := by decide +kernel
theorem dX5_threadOf_22 : decode cX5_threadOf 22 = .ok (.iconst 2, 1) := by decide +kernel
theorem dX5_threadOf_23 : decode cX5_threadOf 23 = .ok (.goto 4, 3) := by decide +kernel
theorem dX5_threadOf_26 : decode cX5_threadOf 26 = .ok (.iconst 0, 1) := by decide +kernel
theorem dX5_threadOf_27 : decode cX5_threadOf 27 = .ok (.invokevirtual 90, 3) := by decide +kernel
theorem dX5_threadOf_30 : decode cX5_threadOf 30 = .ok (.ifCond .eq 12, 3) := by decide +kernel
theorem dX5_threadOf_33 : decode cX5_threadOf 33 = .ok (.aload_n 0, 1) := by decide +kernel
theorem dX5_threadOf_34 : decode cX5_threadOf 34 = .ok (.iload_n 1, 1) := by decide +kernel
theorem dX5_threadOf_35 : decode cX5_threadOf 35 = .ok (.iload_n 2, 1) := by decide +kernel
theorem dX5_threadOf_36 : decode cX5_threadOf 36 = .ok (.invokevirtual 134, 3) := by decide +kernel
theorem dX5_threadOf_39 : decode cX5_threadOf 39 = .ok (.goto 4, 3) := by decide +kernel
theorem dX5_threadOf_42 : decode cX5_threadOf 42 = .ok (.iconst 0, 1) := by decide +kernel
theorem dX5_threadOf_43 : decode cX5_threadOf 43 = .ok (.ireturn, 1) := by decide +kernel
set_option maxRecDepth 20000 in
theorem ggX5_makers_X5_answers : GoodIn wsX5_makers wsX5_answers := goodIn_r _ [5, 6, 7, 8, 9, 4, 10, 11, 12, 13, 14, 15, 16, 17, 18, 19, 20, 21, 22, 23, 24, 25, 26, 27, 28, 29, 30, 31] (by decide +kernel) (by decide +kernel)
set_option maxRecDepth 20000 in
theorem gX5_makers_X5_answers : GoodIn wsX5_makers (wsV RX5 45 RX5 yX5_answers wsX5_answers) := goodIn_app (goodIn_of _ (by decide +kernel)) ggX5_makers_X5_answers
set_option maxRecDepth 20000 in
theorem ggX5_makers_X5_has : GoodIn wsX5_makers wsX5_has := goodIn_r _ [21] (by decide +kernel) (by decide +kernel)
set_option maxRecDepth 20000 in
theorem gX5_makers_X5_has : GoodIn wsX5_makers (va_wsS RX5 31 yX5_has wsX5_has) := goodIn_app (goodIn_of _ (by decide +kernel)) ggX5_makers_X5_has
theorem dX5_makers_0 : decode cX5_makers 0 = .ok (.iconst 0, 1) := by decide +kernel
theorem dX5_makers_1 : decode cX5_makers 1 = .ok (.istore_n 2, 1) := by decide +kernel
theorem dX5_makers_2 : decode cX5_makers 2 = .ok (.iconst 0, 1) := by decide +kernel
theorem dX5_makers_3 : decode cX5_makers 3 = .ok (.istore_n 3, 1) := by decide +kernel
theorem dX5_makers_4 : decode cX5_makers 4 = .ok (.iload_n 3, 1) := by decide +kernel
theorem dX5_makers_5 : decode cX5_makers 5 = .ok (.bipush 16, 2) := by decide +kernel
theorem dX5_makers_7 : decode cX5_makers 7 = .ok (.if_icmp .ge 32, 3) := by decide +kernel
theorem dX5_makers_10 : decode cX5_makers 10 = .ok (.iload_n 2, 1) := by decide +kernel
theorem dX5_makers_11 : decode cX5_makers 11 = .ok (.aload_n 0, 1) := by decide +kernel
theorem dX5_makers_12 : decode cX5_makers 12 = .ok (.iconst 0, 1) := by decide +kernel
theorem dX5_makers_13 : decode cX5_makers 13 = .ok (.iload_n 3, 1) := by decide +kernel
theorem dX5_makers_14 : decode cX5_makers 14 = .ok (.invokevirtual 45, 3) := by decide +kernel
theorem dX5_makers_17 : decode cX5_makers 17 = .ok (.iload_n 1, 1) := by decide +kernel
theorem dX5_makers_18 : decode cX5_makers 18 = .ok (.invokestatic 31, 3) := by decide +kernel
theorem dX5_makers_21 : decode cX5_makers 21 = .ok (.ifCond .eq 9, 3) := by decide +kernel
theorem dX5_makers_24 : decode cX5_makers 24 = .ok (.iconst 1, 1) := by decide +kernel
theorem dX5_makers_25 : decode cX5_makers 25 = .ok (.iload_n 3, 1) := by decide +kernel
theorem dX5_makers_26 : decode cX5_makers 26 = .ok (.ishl, 1) := by decide +kernel
theorem dX5_makers_27 : decode cX5_makers 27 = .ok (.goto 4, 3) := by decide +kernel
theorem dX5_makers_30 : decode cX5_makers 30 = .ok (.iconst 0, 1) := by decide +kernel
theorem dX5_makers_31 : decode cX5_makers 31 = .ok (.ior, 1) := by decide +kernel
theorem dX5_makers_32 : decode cX5_makers 32 = .ok (.istore_n 2, 1) := by decide +kernel
theorem dX5_makers_33 : decode cX5_makers 33 = .ok (.iinc 3 1, 3) := by decide +kernel
theorem dX5_makers_36 : decode cX5_makers 36 = .ok (.goto (-32), 3) := by decide +kernel
theorem dX5_makers_39 : decode cX5_makers 39 = .ok (.iload_n 2, 1) := by decide +kernel
theorem dX5_makers_40 : decode cX5_makers 40 = .ok (.ireturn, 1) := by decide +kernel
set_option maxRecDepth 20000 in
theorem ggX5_ofRing_X5_threadsOf : GoodIn wsX5_ofRing wsX5_threadsOf := goodIn_r _ [6, 1, 7, 8, 5, 9, 33, 34, 35, 36, 37, 38, 39, 40, 41, 42] (by decide +kernel) (by decide +kernel)
set_option maxRecDepth 20000 in
theorem gX5_ofRing_X5_threadsOf : GoodIn wsX5_ofRing (wsV RX5 99 RX5 yX5_threadsOf wsX5_threadsOf) := goodIn_app (goodIn_of _ (by decide +kernel)) ggX5_ofRing_X5_threadsOf
set_option maxRecDepth 20000 in
theorem ggX5_ofRing_X5_ones : GoodIn wsX5_ofRing wsX5_ones := goodIn_r _ [12] (by decide +kernel) (by decide +kernel)
set_option maxRecDepth 20000 in
theorem gX5_ofRing_X5_ones : GoodIn wsX5_ofRing (va_wsS RX5 59 yX5_ones wsX5_ones) := goodIn_app (goodIn_of _ (by decide +kernel)) ggX5_ofRing_X5_ones
set_option maxRecDepth 20000 in
theorem ggX5_ofRing_X5_makers : GoodIn wsX5_ofRing wsX5_makers := goodIn_r _ [16, 17, 18, 19, 5, 20, 1, 21, 22, 23, 24, 25, 26, 27, 28, 29, 30, 31, 32, 7, 8, 9, 33, 34, 35, 36, 37, 38, 39, 40, 41, 42] (by decide +kernel) (by decide +kernel)
set_option maxRecDepth 20000 in
theorem gX5_ofRing_X5_makers : GoodIn wsX5_ofRing (wsV RX5 137 RX5 yX5_makers wsX5_makers) := goodIn_app (goodIn_of _ (by decide +kernel)) ggX5_ofRing_X5_makers
theorem dX5_ofRing_0 : decode cX5_ofRing 0 = .ok (.aload_n 0, 1) := by decide +kernel
theorem dX5_ofRing_1 : decode cX5_ofRing 1 = .ok (.iload_n 1, 1) := by decide +kernel
theorem dX5_ofRing_2 : decode cX5_ofRing 2 = .ok (.invokevirtual 99, 3) := by decide +kernel
theorem dX5_ofRing_5 : decode cX5_ofRing 5 = .ok (.istore_n 3, 1) := by decide +kernel
theorem dX5_ofRing_6 : decode cX5_ofRing 6 = .ok (.iload_n 2, 1) := by decide +kernel
theorem dX5_ofRing_7 : decode cX5_ofRing 7 = .ok (.tableswitch 55 0 3 #[29, 39, 41, 46], 29) := by decide +kernel
theorem dX5_ofRing_36 : decode cX5_ofRing 36 = .ok (.aload_n 0, 1) := by decide +kernel
theorem dX5_ofRing_37 : decode cX5_ofRing 37 = .ok (.getfield 7, 3) := by decide +kernel
theorem dX5_ofRing_40 : decode cX5_ofRing 40 = .ok (.bipush 17, 2) := by decide +kernel
theorem dX5_ofRing_42 : decode cX5_ofRing 42 = .ok (.iload_n 1, 1) := by decide +kernel
theorem dX5_ofRing_43 : decode cX5_ofRing 43 = .ok (.iadd, 1) := by decide +kernel
theorem dX5_ofRing_44 : decode cX5_ofRing 44 = .ok (.iaload, 1) := by decide +kernel
theorem dX5_ofRing_45 : decode cX5_ofRing 45 = .ok (.ireturn, 1) := by decide +kernel
theorem dX5_ofRing_46 : decode cX5_ofRing 46 = .ok (.iload_n 3, 1) := by decide +kernel
theorem dX5_ofRing_47 : decode cX5_ofRing 47 = .ok (.ireturn, 1) := by decide +kernel
theorem dX5_ofRing_48 : decode cX5_ofRing 48 = .ok (.iload_n 3, 1) := by decide +kernel
theorem dX5_ofRing_49 : decode cX5_ofRing 49 = .ok (.invokestatic 59, 3) := by decide +kernel
theorem dX5_ofRing_52 : decode cX5_ofRing 52 = .ok (.ireturn, 1) := by decide +kernel
theorem dX5_ofRing_53 : decode cX5_ofRing 53 = .ok (.aload_n 0, 1) := by decide +kernel
theorem dX5_ofRing_54 : decode cX5_ofRing 54 = .ok (.iload_n 1, 1) := by decide +kernel
theorem dX5_ofRing_55 : decode cX5_ofRing 55 = .ok (.invokevirtual 137, 3) := by decide +kernel
theorem dX5_ofRing_58 : decode cX5_ofRing 58 = .ok (.invokestatic 59, 3) := by decide +kernel
theorem dX5_ofRing_61 : decode cX5_ofRing 61 = .ok (.ireturn, 1) := by decide +kernel
theorem dX5_ofRing_62 : decode cX5_ofRing 62 = .ok (.iload_n 3, 1) := by decide +kernel
theorem dX5_ofRing_63 : decode cX5_ofRing 63 = .ok (.ifCond .eq 17, 3) := by decide +kernel
theorem dX5_ofRing_66 : decode cX5_ofRing 66 = .ok (.iload_n 3, 1) := by decide +kernel
theorem dX5_ofRing_67 : decode cX5_ofRing 67 = .ok (.aload_n 0, 1) := by decide +kernel
theorem dX5_ofRing_68 : decode cX5_ofRing 68 = .ok (.iload_n 1, 1) := by decide +kernel
theorem dX5_ofRing_69 : decode cX5_ofRing 69 = .ok (.invokevirtual 137, 3) := by decide +kernel
theorem dX5_ofRing_72 : decode cX5_ofRing 72 = .ok (.iand, 1) := by decide +kernel
theorem dX5_ofRing_73 : decode cX5_ofRing 73 = .ok (.ifCond .ne 7, 3) := by decide +kernel
theorem dX5_ofRing_76 : decode cX5_ofRing 76 = .ok (.iconst 1, 1) := by decide +kernel
theorem dX5_ofRing_77 : decode cX5_ofRing 77 = .ok (.goto 4, 3) := by decide +kernel
theorem dX5_ofRing_80 : decode cX5_ofRing 80 = .ok (.iconst 0, 1) := by decide +kernel
theorem dX5_ofRing_81 : decode cX5_ofRing 81 = .ok (.ireturn, 1) := by decide +kernel
set_option maxRecDepth 20000 in
theorem ggX5_ringOf_X5_isRing : GoodIn wsX5_ringOf wsX5_isRing := goodIn_r _ [4, 5, 6, 3, 7] (by decide +kernel) (by decide +kernel)
set_option maxRecDepth 20000 in
theorem gX5_ringOf_X5_isRing : GoodIn wsX5_ringOf (va_wsS RX5 87 yX5_isRing wsX5_isRing) := goodIn_app (goodIn_of _ (by decide +kernel)) ggX5_ringOf_X5_isRing
set_option maxRecDepth 20000 in
theorem ggX5_ringOf_X5_in : GoodIn wsX5_ringOf wsX5_in := goodIn_r _ [7] (by decide +kernel) (by decide +kernel)
set_option maxRecDepth 20000 in
theorem gX5_ringOf_X5_in : GoodIn wsX5_ringOf (va_wsS RX5 27 yX5_in wsX5_in) := goodIn_app (goodIn_of _ (by decide +kernel)) ggX5_ringOf_X5_in
set_option maxRecDepth 20000 in
theorem ggX5_ringOf_X5_holds : GoodIn wsX5_ringOf wsX5_holds := goodIn_r _ [11, 12, 48, 49, 50, 51, 52, 53, 54, 55, 56, 57] (by decide +kernel) (by decide +kernel)
set_option maxRecDepth 20000 in
theorem gX5_ringOf_X5_holds : GoodIn wsX5_ringOf (wsV RX5 90 RX5 yX5_holds wsX5_holds) := goodIn_app (goodIn_of _ (by decide +kernel)) ggX5_ringOf_X5_holds
set_option maxRecDepth 20000 in
theorem ggX5_ringOf_X5_ofRing : GoodIn wsX5_ringOf wsX5_ofRing := goodIn_r _ [16, 17, 18, 19, 20, 3, 21, 22, 23, 24, 25, 26, 27, 28, 29, 30, 31, 32, 33, 34, 35, 36, 37, 38, 39, 40, 41, 42, 43, 44, 45, 46, 47, 48, 49, 50, 51, 52, 53, 54, 55, 56, 57] (by decide +kernel) (by decide +kernel)
set_option maxRecDepth 20000 in
theorem gX5_ringOf_X5_ofRing : GoodIn wsX5_ringOf (wsV RX5 140 RX5 yX5_ofRing wsX5_ofRing) := goodIn_app (goodIn_of _ (by decide +kernel)) ggX5_ringOf_X5_ofRing
theorem dX5_ringOf_0 : decode cX5_ringOf 0 = .ok (.aload_n 0, 1) := by decide +kernel
theorem dX5_ringOf_1 : decode cX5_ringOf 1 = .ok (.iload_n 1, 1) := by decide +kernel
theorem dX5_ringOf_2 : decode cX5_ringOf 2 = .ok (.invokestatic 87, 3) := by decide +kernel
theorem dX5_ringOf_5 : decode cX5_ringOf 5 = .ok (.ifCond .ne 7, 3) := by decide +kernel
theorem dX5_ringOf_8 : decode cX5_ringOf 8 = .ok (.iconst 1, 1) := by decide +kernel
theorem dX5_ringOf_9 : decode cX5_ringOf 9 = .ok (.goto 17, 3) := by decide +kernel
theorem dX5_ringOf_12 : decode cX5_ringOf 12 = .ok (.iload_n 2, 1) := by decide +kernel
theorem dX5_ringOf_13 : decode cX5_ringOf 13 = .ok (.iconst 0, 1) := by decide +kernel
theorem dX5_ringOf_14 : decode cX5_ringOf 14 = .ok (.iconst 4, 1) := by decide +kernel
theorem dX5_ringOf_15 : decode cX5_ringOf 15 = .ok (.invokestatic 27, 3) := by decide +kernel
theorem dX5_ringOf_18 : decode cX5_ringOf 18 = .ok (.ifCond .ne 7, 3) := by decide +kernel
theorem dX5_ringOf_21 : decode cX5_ringOf 21 = .ok (.iconst 2, 1) := by decide +kernel
theorem dX5_ringOf_22 : decode cX5_ringOf 22 = .ok (.goto 4, 3) := by decide +kernel
theorem dX5_ringOf_25 : decode cX5_ringOf 25 = .ok (.iconst 0, 1) := by decide +kernel
theorem dX5_ringOf_26 : decode cX5_ringOf 26 = .ok (.invokevirtual 90, 3) := by decide +kernel
theorem dX5_ringOf_29 : decode cX5_ringOf 29 = .ok (.ifCond .eq 12, 3) := by decide +kernel
theorem dX5_ringOf_32 : decode cX5_ringOf 32 = .ok (.aload_n 0, 1) := by decide +kernel
theorem dX5_ringOf_33 : decode cX5_ringOf 33 = .ok (.iload_n 1, 1) := by decide +kernel
theorem dX5_ringOf_34 : decode cX5_ringOf 34 = .ok (.iload_n 2, 1) := by decide +kernel
theorem dX5_ringOf_35 : decode cX5_ringOf 35 = .ok (.invokevirtual 140, 3) := by decide +kernel
theorem dX5_ringOf_38 : decode cX5_ringOf 38 = .ok (.goto 4, 3) := by decide +kernel
theorem dX5_ringOf_41 : decode cX5_ringOf 41 = .ok (.iconst 0, 1) := by decide +kernel
theorem dX5_ringOf_42 : decode cX5_ringOf 42 = .ok (.ireturn, 1) := by decide +kernel
set_option maxRecDepth 20000 in
theorem ggX5_strength_X5_isThread : GoodIn wsX5_strength wsX5_isThread := goodIn_r _ [4, 5, 6, 3, 7] (by decide +kernel) (by decide +kernel)
set_option maxRecDepth 20000 in
theorem gX5_strength_X5_isThread : GoodIn wsX5_strength (va_wsS RX5 83 yX5_isThread wsX5_isThread) := goodIn_app (goodIn_of _ (by decide +kernel)) ggX5_strength_X5_isThread
set_option maxRecDepth 20000 in
theorem ggX5_strength_X5_isRing : GoodIn wsX5_strength wsX5_isRing := goodIn_r _ [10, 5, 6, 3, 7] (by decide +kernel) (by decide +kernel)
set_option maxRecDepth 20000 in
theorem gX5_strength_X5_isRing : GoodIn wsX5_strength (va_wsS RX5 87 yX5_isRing wsX5_isRing) := goodIn_app (goodIn_of _ (by decide +kernel)) ggX5_strength_X5_isRing
set_option maxRecDepth 20000 in
theorem ggX5_strength_X5_in : GoodIn wsX5_strength wsX5_in := goodIn_r _ [7] (by decide +kernel) (by decide +kernel)
set_option maxRecDepth 20000 in
theorem gX5_strength_X5_in : GoodIn wsX5_strength (va_wsS RX5 27 yX5_in wsX5_in) := goodIn_app (goodIn_of _ (by decide +kernel)) ggX5_strength_X5_in
set_option maxRecDepth 20000 in
theorem ggX5_strength_X5_holds : GoodIn wsX5_strength wsX5_holds := goodIn_r _ [14, 15, 32, 33, 34, 35, 36, 37, 38, 39, 40, 41] (by decide +kernel) (by decide +kernel)
set_option maxRecDepth 20000 in
theorem gX5_strength_X5_holds : GoodIn wsX5_strength (wsV RX5 90 RX5 yX5_holds wsX5_holds) := goodIn_app (goodIn_of _ (by decide +kernel)) ggX5_strength_X5_holds
set_option maxRecDepth 20000 in
theorem ggX5_strength_X5_strengthIn : GoodIn wsX5_strength wsX5_strengthIn := goodIn_r _ [19, 20, 21, 22, 23, 3, 24, 25, 26, 27, 28, 29, 30, 31, 32, 33, 34, 35, 36, 37, 38, 39, 40, 41] (by decide +kernel) (by decide +kernel)
set_option maxRecDepth 20000 in
theorem gX5_strength_X5_strengthIn : GoodIn wsX5_strength (wsV RX5 42 RX5 yX5_strengthIn wsX5_strengthIn) := goodIn_app (goodIn_of _ (by decide +kernel)) ggX5_strength_X5_strengthIn
set_option maxRecDepth 20000 in
theorem ggX5_strength_X5_hopsTo : GoodIn wsX5_strength wsX5_hopsTo := goodIn_r _ [24, 25, 26, 27, 3, 28, 20, 29, 30, 31, 32, 33, 34, 35, 36, 37, 38, 39, 40, 41] (by decide +kernel) (by decide +kernel)
set_option maxRecDepth 20000 in
theorem gX5_strength_X5_hopsTo : GoodIn wsX5_strength (wsV RX5 39 RX5 yX5_hopsTo wsX5_hopsTo) := goodIn_app (goodIn_of _ (by decide +kernel)) ggX5_strength_X5_hopsTo
theorem dX5_strength_0 : decode cX5_strength 0 = .ok (.aload_n 0, 1) := by decide +kernel
theorem dX5_strength_1 : decode cX5_strength 1 = .ok (.iload_n 1, 1) := by decide +kernel
theorem dX5_strength_2 : decode cX5_strength 2 = .ok (.invokestatic 83, 3) := by decide +kernel
theorem dX5_strength_5 : decode cX5_strength 5 = .ok (.ifCond .eq 10, 3) := by decide +kernel
theorem dX5_strength_8 : decode cX5_strength 8 = .ok (.iload_n 2, 1) := by decide +kernel
theorem dX5_strength_9 : decode cX5_strength 9 = .ok (.invokestatic 87, 3) := by decide +kernel
theorem dX5_strength_12 : decode cX5_strength 12 = .ok (.ifCond .ne 7, 3) := by decide +kernel
theorem dX5_strength_15 : decode cX5_strength 15 = .ok (.iconst 1, 1) := by decide +kernel
theorem dX5_strength_16 : decode cX5_strength 16 = .ok (.goto 17, 3) := by decide +kernel
theorem dX5_strength_19 : decode cX5_strength 19 = .ok (.iload_n 3, 1) := by decide +kernel
theorem dX5_strength_20 : decode cX5_strength 20 = .ok (.iconst 0, 1) := by decide +kernel
theorem dX5_strength_21 : decode cX5_strength 21 = .ok (.iconst 1, 1) := by decide +kernel
theorem dX5_strength_22 : decode cX5_strength 22 = .ok (.invokestatic 27, 3) := by decide +kernel
theorem dX5_strength_25 : decode cX5_strength 25 = .ok (.ifCond .ne 7, 3) := by decide +kernel
theorem dX5_strength_28 : decode cX5_strength 28 = .ok (.iconst 2, 1) := by decide +kernel
theorem dX5_strength_29 : decode cX5_strength 29 = .ok (.goto 4, 3) := by decide +kernel
theorem dX5_strength_32 : decode cX5_strength 32 = .ok (.iconst 0, 1) := by decide +kernel
theorem dX5_strength_33 : decode cX5_strength 33 = .ok (.invokevirtual 90, 3) := by decide +kernel
theorem dX5_strength_36 : decode cX5_strength 36 = .ok (.ifCond .ne 5, 3) := by decide +kernel
theorem dX5_strength_39 : decode cX5_strength 39 = .ok (.iconst 0, 1) := by decide +kernel
theorem dX5_strength_40 : decode cX5_strength 40 = .ok (.ireturn, 1) := by decide +kernel
theorem dX5_strength_41 : decode cX5_strength 41 = .ok (.iload_n 3, 1) := by decide +kernel
theorem dX5_strength_42 : decode cX5_strength 42 = .ok (.ifCond .ne 13, 3) := by decide +kernel
theorem dX5_strength_45 : decode cX5_strength 45 = .ok (.aload_n 0, 1) := by decide +kernel
theorem dX5_strength_46 : decode cX5_strength 46 = .ok (.iconst 0, 1) := by decide +kernel
theorem dX5_strength_47 : decode cX5_strength 47 = .ok (.iload_n 1, 1) := by decide +kernel
theorem dX5_strength_48 : decode cX5_strength 48 = .ok (.iload_n 2, 1) := by decide +kernel
theorem dX5_strength_49 : decode cX5_strength 49 = .ok (.invokevirtual 42, 3) := by decide +kernel
theorem dX5_strength_52 : decode cX5_strength 52 = .ok (.goto 10, 3) := by decide +kernel
theorem dX5_strength_55 : decode cX5_strength 55 = .ok (.aload_n 0, 1) := by decide +kernel
theorem dX5_strength_56 : decode cX5_strength 56 = .ok (.iconst 0, 1) := by decide +kernel
theorem dX5_strength_57 : decode cX5_strength 57 = .ok (.iload_n 1, 1) := by decide +kernel
theorem dX5_strength_58 : decode cX5_strength 58 = .ok (.iload_n 2, 1) := by decide +kernel
theorem dX5_strength_59 : decode cX5_strength 59 = .ok (.invokevirtual 39, 3) := by decide +kernel
theorem dX5_strength_62 : decode cX5_strength 62 = .ok (.ireturn, 1) := by decide +kernel
theorem dX5_ofMachine_0 : decode cX5_ofMachine 0 = .ok (.iload_n 1, 1) := by decide +kernel
theorem dX5_ofMachine_1 : decode cX5_ofMachine 1 = .ok (.bipush 6, 2) := by decide +kernel
theorem dX5_ofMachine_3 : decode cX5_ofMachine 3 = .ok (.if_icmp .ge 15, 3) := by decide +kernel
theorem dX5_ofMachine_6 : decode cX5_ofMachine 6 = .ok (.aload_n 0, 1) := by decide +kernel
theorem dX5_ofMachine_7 : decode cX5_ofMachine 7 = .ok (.getfield 7, 3) := by decide +kernel
theorem dX5_ofMachine_10 : decode cX5_ofMachine 10 = .ok (.bipush 27, 2) := by decide +kernel
theorem dX5_ofMachine_12 : decode cX5_ofMachine 12 = .ok (.iload_n 1, 1) := by decide +kernel
theorem dX5_ofMachine_13 : decode cX5_ofMachine 13 = .ok (.iadd, 1) := by decide +kernel
theorem dX5_ofMachine_14 : decode cX5_ofMachine 14 = .ok (.iaload, 1) := by decide +kernel
theorem dX5_ofMachine_15 : decode cX5_ofMachine 15 = .ok (.goto 15, 3) := by decide +kernel
theorem dX5_ofMachine_18 : decode cX5_ofMachine 18 = .ok (.aload_n 0, 1) := by decide +kernel
theorem dX5_ofMachine_19 : decode cX5_ofMachine 19 = .ok (.getfield 7, 3) := by decide +kernel
theorem dX5_ofMachine_22 : decode cX5_ofMachine 22 = .ok (.bipush 33, 2) := by decide +kernel
theorem dX5_ofMachine_24 : decode cX5_ofMachine 24 = .ok (.iload_n 1, 1) := by decide +kernel
theorem dX5_ofMachine_25 : decode cX5_ofMachine 25 = .ok (.iadd, 1) := by decide +kernel
theorem dX5_ofMachine_26 : decode cX5_ofMachine 26 = .ok (.bipush 6, 2) := by decide +kernel
theorem dX5_ofMachine_28 : decode cX5_ofMachine 28 = .ok (.isub, 1) := by decide +kernel
theorem dX5_ofMachine_29 : decode cX5_ofMachine 29 = .ok (.iaload, 1) := by decide +kernel
theorem dX5_ofMachine_30 : decode cX5_ofMachine 30 = .ok (.ireturn, 1) := by decide +kernel
set_option maxRecDepth 20000 in
theorem ggX5_machine_X5_in : GoodIn wsX5_machine wsX5_in := goodIn_r _ [4] (by decide +kernel) (by decide +kernel)
set_option maxRecDepth 20000 in
theorem gX5_machine_X5_in : GoodIn wsX5_machine (va_wsS RX5 27 yX5_in wsX5_in) := goodIn_app (goodIn_of _ (by decide +kernel)) ggX5_machine_X5_in
set_option maxRecDepth 20000 in
theorem ggX5_machine_X5_holds : GoodIn wsX5_machine wsX5_holds := goodIn_r _ [8, 9, 15, 16, 17, 18, 19, 20, 21, 22, 23, 24] (by decide +kernel) (by decide +kernel)
set_option maxRecDepth 20000 in
theorem gX5_machine_X5_holds : GoodIn wsX5_machine (wsV RX5 90 RX5 yX5_holds wsX5_holds) := goodIn_app (goodIn_of _ (by decide +kernel)) ggX5_machine_X5_holds
set_option maxRecDepth 20000 in
theorem ggX5_machine_X5_ofMachine : GoodIn wsX5_machine wsX5_ofMachine := goodIn_r _ [13, 14, 15, 16, 17, 18, 19, 20, 21, 22, 23, 24] (by decide +kernel) (by decide +kernel)
set_option maxRecDepth 20000 in
theorem gX5_machine_X5_ofMachine : GoodIn wsX5_machine (wsV RX5 143 RX5 yX5_ofMachine wsX5_ofMachine) := goodIn_app (goodIn_of _ (by decide +kernel)) ggX5_machine_X5_ofMachine
theorem dX5_machine_0 : decode cX5_machine 0 = .ok (.aload_n 0, 1) := by decide +kernel
theorem dX5_machine_1 : decode cX5_machine 1 = .ok (.iload_n 1, 1) := by decide +kernel
theorem dX5_machine_2 : decode cX5_machine 2 = .ok (.iconst 0, 1) := by decide +kernel
theorem dX5_machine_3 : decode cX5_machine 3 = .ok (.bipush 8, 2) := by decide +kernel
theorem dX5_machine_5 : decode cX5_machine 5 = .ok (.invokestatic 27, 3) := by decide +kernel
theorem dX5_machine_8 : decode cX5_machine 8 = .ok (.ifCond .eq 7, 3) := by decide +kernel
theorem dX5_machine_11 : decode cX5_machine 11 = .ok (.iconst 0, 1) := by decide +kernel
theorem dX5_machine_12 : decode cX5_machine 12 = .ok (.goto 4, 3) := by decide +kernel
theorem dX5_machine_15 : decode cX5_machine 15 = .ok (.iconst 1, 1) := by decide +kernel
theorem dX5_machine_16 : decode cX5_machine 16 = .ok (.invokevirtual 90, 3) := by decide +kernel
theorem dX5_machine_19 : decode cX5_machine 19 = .ok (.ifCond .eq 11, 3) := by decide +kernel
theorem dX5_machine_22 : decode cX5_machine 22 = .ok (.aload_n 0, 1) := by decide +kernel
theorem dX5_machine_23 : decode cX5_machine 23 = .ok (.iload_n 1, 1) := by decide +kernel
theorem dX5_machine_24 : decode cX5_machine 24 = .ok (.invokevirtual 143, 3) := by decide +kernel
theorem dX5_machine_27 : decode cX5_machine 27 = .ok (.goto 4, 3) := by decide +kernel
theorem dX5_machine_30 : decode cX5_machine 30 = .ok (.iconst 0, 1) := by decide +kernel
theorem dX5_machine_31 : decode cX5_machine 31 = .ok (.ireturn, 1) := by decide +kernel
theorem dX5_toldAgo_0 : decode cX5_toldAgo 0 = .ok (.iload_n 1, 1) := by decide +kernel
theorem dX5_toldAgo_1 : decode cX5_toldAgo 1 = .ok (.aload_n 0, 1) := by decide +kernel
theorem dX5_toldAgo_2 : decode cX5_toldAgo 2 = .ok (.getfield 7, 3) := by decide +kernel
theorem dX5_toldAgo_5 : decode cX5_toldAgo 5 = .ok (.bipush 35, 2) := by decide +kernel
theorem dX5_toldAgo_7 : decode cX5_toldAgo 7 = .ok (.iaload, 1) := by decide +kernel
theorem dX5_toldAgo_8 : decode cX5_toldAgo 8 = .ok (.if_icmp .ge 15, 3) := by decide +kernel
theorem dX5_toldAgo_11 : decode cX5_toldAgo 11 = .ok (.aload_n 0, 1) := by decide +kernel
theorem dX5_toldAgo_12 : decode cX5_toldAgo 12 = .ok (.getfield 7, 3) := by decide +kernel
theorem dX5_toldAgo_15 : decode cX5_toldAgo 15 = .ok (.bipush 36, 2) := by decide +kernel
theorem dX5_toldAgo_17 : decode cX5_toldAgo 17 = .ok (.iload_n 1, 1) := by decide +kernel
theorem dX5_toldAgo_18 : decode cX5_toldAgo 18 = .ok (.iadd, 1) := by decide +kernel
theorem dX5_toldAgo_19 : decode cX5_toldAgo 19 = .ok (.iaload, 1) := by decide +kernel
theorem dX5_toldAgo_20 : decode cX5_toldAgo 20 = .ok (.goto 4, 3) := by decide +kernel
theorem dX5_toldAgo_23 : decode cX5_toldAgo 23 = .ok (.iconst (-1), 1) := by decide +kernel
theorem dX5_toldAgo_24 : decode cX5_toldAgo 24 = .ok (.ireturn, 1) := by decide +kernel
set_option maxRecDepth 20000 in
theorem ggX5_told_X5_in : GoodIn wsX5_told wsX5_in := goodIn_r _ [4] (by decide +kernel) (by decide +kernel)
set_option maxRecDepth 20000 in
theorem gX5_told_X5_in : GoodIn wsX5_told (va_wsS RX5 27 yX5_in wsX5_in) := goodIn_app (goodIn_of _ (by decide +kernel)) ggX5_told_X5_in
set_option maxRecDepth 20000 in
theorem ggX5_told_X5_holds : GoodIn wsX5_told wsX5_holds := goodIn_r _ [8, 9, 15, 16, 17, 18, 19, 20, 21, 22, 23, 24] (by decide +kernel) (by decide +kernel)
set_option maxRecDepth 20000 in
theorem gX5_told_X5_holds : GoodIn wsX5_told (wsV RX5 90 RX5 yX5_holds wsX5_holds) := goodIn_app (goodIn_of _ (by decide +kernel)) ggX5_told_X5_holds
set_option maxRecDepth 20000 in
theorem ggX5_told_X5_toldAgo : GoodIn wsX5_told wsX5_toldAgo := goodIn_r _ [13, 14, 15, 16, 17, 18, 19, 20, 21, 22, 23, 24] (by decide +kernel) (by decide +kernel)
set_option maxRecDepth 20000 in
theorem gX5_told_X5_toldAgo : GoodIn wsX5_told (wsV RX5 146 RX5 yX5_toldAgo wsX5_toldAgo) := goodIn_app (goodIn_of _ (by decide +kernel)) ggX5_told_X5_toldAgo
theorem dX5_told_0 : decode cX5_told 0 = .ok (.aload_n 0, 1) := by decide +kernel
theorem dX5_told_1 : decode cX5_told 1 = .ok (.iload_n 1, 1) := by decide +kernel
theorem dX5_told_2 : decode cX5_told 2 = .ok (.iconst 0, 1) := by decide +kernel
theorem dX5_told_3 : decode cX5_told 3 = .ok (.bipush 7, 2) := by decide +kernel
theorem dX5_told_5 : decode cX5_told 5 = .ok (.invokestatic 27, 3) := by decide +kernel
theorem dX5_told_8 : decode cX5_told 8 = .ok (.ifCond .eq 7, 3) := by decide +kernel
theorem dX5_told_11 : decode cX5_told 11 = .ok (.iconst 0, 1) := by decide +kernel
theorem dX5_told_12 : decode cX5_told 12 = .ok (.goto 4, 3) := by decide +kernel
theorem dX5_told_15 : decode cX5_told 15 = .ok (.iconst 1, 1) := by decide +kernel
theorem dX5_told_16 : decode cX5_told 16 = .ok (.invokevirtual 90, 3) := by decide +kernel
theorem dX5_told_19 : decode cX5_told 19 = .ok (.ifCond .eq 11, 3) := by decide +kernel
theorem dX5_told_22 : decode cX5_told 22 = .ok (.aload_n 0, 1) := by decide +kernel
theorem dX5_told_23 : decode cX5_told 23 = .ok (.iload_n 1, 1) := by decide +kernel
theorem dX5_told_24 : decode cX5_told 24 = .ok (.invokevirtual 146, 3) := by decide +kernel
theorem dX5_told_27 : decode cX5_told 27 = .ok (.goto 4, 3) := by decide +kernel
theorem dX5_told_30 : decode cX5_told 30 = .ok (.iconst 0, 1) := by decide +kernel
theorem dX5_told_31 : decode cX5_told 31 = .ok (.ireturn, 1) := by decide +kernel
set_option maxRecDepth 20000 in
theorem ggX5_byRings_X5_threadsOf : GoodIn wsX5_byRings wsX5_threadsOf := goodIn_r _ [5, 6, 7, 8, 4, 9, 13, 14, 15, 16, 17, 18, 19, 20, 21, 22] (by decide +kernel) (by decide +kernel)
set_option maxRecDepth 20000 in
theorem gX5_byRings_X5_threadsOf : GoodIn wsX5_byRings (wsV RX5 99 RX5 yX5_threadsOf wsX5_threadsOf) := goodIn_app (goodIn_of _ (by decide +kernel)) ggX5_byRings_X5_threadsOf
set_option maxRecDepth 20000 in
theorem ggX5_byRings_X5_ones : GoodIn wsX5_byRings wsX5_ones := goodIn_r _ [12] (by decide +kernel) (by decide +kernel)
set_option maxRecDepth 20000 in
theorem gX5_byRings_X5_ones : GoodIn wsX5_byRings (va_wsS RX5 59 yX5_ones wsX5_ones) := goodIn_app (goodIn_of _ (by decide +kernel)) ggX5_byRings_X5_ones
theorem dX5_byRings_0 : decode cX5_byRings 0 = .ok (.iconst 0, 1) := by decide +kernel
theorem dX5_byRings_1 : decode cX5_byRings 1 = .ok (.istore_n 1, 1) := by decide +kernel
theorem dX5_byRings_2 : decode cX5_byRings 2 = .ok (.iconst 0, 1) := by decide +kernel
theorem dX5_byRings_3 : decode cX5_byRings 3 = .ok (.istore_n 2, 1) := by decide +kernel
theorem dX5_byRings_4 : decode cX5_byRings 4 = .ok (.iload_n 2, 1) := by decide +kernel
theorem dX5_byRings_5 : decode cX5_byRings 5 = .ok (.bipush 8, 2) := by decide +kernel
theorem dX5_byRings_7 : decode cX5_byRings 7 = .ok (.if_icmp .ge 20, 3) := by decide +kernel
theorem dX5_byRings_10 : decode cX5_byRings 10 = .ok (.iload_n 1, 1) := by decide +kernel
theorem dX5_byRings_11 : decode cX5_byRings 11 = .ok (.aload_n 0, 1) := by decide +kernel
theorem dX5_byRings_12 : decode cX5_byRings 12 = .ok (.iload_n 2, 1) := by decide +kernel
theorem dX5_byRings_13 : decode cX5_byRings 13 = .ok (.invokevirtual 99, 3) := by decide +kernel
theorem dX5_byRings_16 : decode cX5_byRings 16 = .ok (.invokestatic 59, 3) := by decide +kernel
theorem dX5_byRings_19 : decode cX5_byRings 19 = .ok (.iadd, 1) := by decide +kernel
theorem dX5_byRings_20 : decode cX5_byRings 20 = .ok (.istore_n 1, 1) := by decide +kernel
theorem dX5_byRings_21 : decode cX5_byRings 21 = .ok (.iinc 2 1, 3) := by decide +kernel
theorem dX5_byRings_24 : decode cX5_byRings 24 = .ok (.goto (-20), 3) := by decide +kernel
theorem dX5_byRings_27 : decode cX5_byRings 27 = .ok (.iload_n 1, 1) := by decide +kernel
theorem dX5_byRings_28 : decode cX5_byRings 28 = .ok (.ireturn, 1) := by decide +kernel
theorem dX5_greatestWear_0 : decode cX5_greatestWear 0 = .ok (.iconst 0, 1) := by decide +kernel
theorem dX5_greatestWear_1 : decode cX5_greatestWear 1 = .ok (.istore_n 1, 1) := by decide +kernel
theorem dX5_greatestWear_2 : decode cX5_greatestWear 2 = .ok (.iconst 0, 1) := by decide +kernel
theorem dX5_greatestWear_3 : decode cX5_greatestWear 3 = .ok (.istore_n 2, 1) := by decide +kernel
theorem dX5_greatestWear_4 : decode cX5_greatestWear 4 = .ok (.iload_n 2, 1) := by decide +kernel
theorem dX5_greatestWear_5 : decode cX5_greatestWear 5 = .ok (.bipush 8, 2) := by decide +kernel
theorem dX5_greatestWear_7 : decode cX5_greatestWear 7 = .ok (.if_icmp .ge 36, 3) := by decide +kernel
theorem dX5_greatestWear_10 : decode cX5_greatestWear 10 = .ok (.aload_n 0, 1) := by decide +kernel
theorem dX5_greatestWear_11 : decode cX5_greatestWear 11 = .ok (.getfield 7, 3) := by decide +kernel
theorem dX5_greatestWear_14 : decode cX5_greatestWear 14 = .ok (.bipush 17, 2) := by decide +kernel
theorem dX5_greatestWear_16 : decode cX5_greatestWear 16 = .ok (.iload_n 2, 1) := by decide +kernel
theorem dX5_greatestWear_17 : decode cX5_greatestWear 17 = .ok (.iadd, 1) := by decide +kernel
theorem dX5_greatestWear_18 : decode cX5_greatestWear 18 = .ok (.iaload, 1) := by decide +kernel
theorem dX5_greatestWear_19 : decode cX5_greatestWear 19 = .ok (.iload_n 1, 1) := by decide +kernel
theorem dX5_greatestWear_20 : decode cX5_greatestWear 20 = .ok (.if_icmp .le 15, 3) := by decide +kernel
theorem dX5_greatestWear_23 : decode cX5_greatestWear 23 = .ok (.aload_n 0, 1) := by decide +kernel
theorem dX5_greatestWear_24 : decode cX5_greatestWear 24 = .ok (.getfield 7, 3) := by decide +kernel
theorem dX5_greatestWear_27 : decode cX5_greatestWear 27 = .ok (.bipush 17, 2) := by decide +kernel
theorem dX5_greatestWear_29 : decode cX5_greatestWear 29 = .ok (.iload_n 2, 1) := by decide +kernel
theorem dX5_greatestWear_30 : decode cX5_greatestWear 30 = .ok (.iadd, 1) := by decide +kernel
theorem dX5_greatestWear_31 : decode cX5_greatestWear 31 = .ok (.iaload, 1) := by decide +kernel
theorem dX5_greatestWear_32 : decode cX5_greatestWear 32 = .ok (.goto 4, 3) := by decide +kernel
theorem dX5_greatestWear_35 : decode cX5_greatestWear 35 = .ok (.iload_n 1, 1) := by decide +kernel
theorem dX5_greatestWear_36 : decode cX5_greatestWear 36 = .ok (.istore_n 1, 1) := by decide +kernel
theorem dX5_greatestWear_37 : decode cX5_greatestWear 37 = .ok (.iinc 2 1, 3) := by decide +kernel
theorem dX5_greatestWear_40 : decode cX5_greatestWear 40 = .ok (.goto (-36), 3) := by decide +kernel
theorem dX5_greatestWear_43 : decode cX5_greatestWear 43 = .ok (.iload_n 1, 1) := by decide +kernel
theorem dX5_greatestWear_44 : decode cX5_greatestWear 44 = .ok (.ireturn, 1) := by decide +kernel
set_option maxRecDepth 20000 in
theorem ggX5_pairs_X5_ones : GoodIn wsX5_pairs wsX5_ones := goodIn_r _ [5] (by decide +kernel) (by decide +kernel)
set_option maxRecDepth 20000 in
theorem gX5_pairs_X5_ones : GoodIn wsX5_pairs (va_wsS RX5 59 yX5_ones wsX5_ones) := goodIn_app (goodIn_of _ (by decide +kernel)) ggX5_pairs_X5_ones
set_option maxRecDepth 20000 in
theorem ggX5_pairs_X5_wordOf : GoodIn wsX5_pairs wsX5_wordOf := goodIn_r _ [9, 10, 11, 12, 4, 13, 1, 14, 15, 16, 17, 18, 19, 20, 21, 22, 23, 24, 25, 26, 27, 28, 29, 30, 31, 32, 33, 34, 35, 36, 37, 38, 39, 40, 41, 42] (by decide +kernel) (by decide +kernel)
set_option maxRecDepth 20000 in
theorem gX5_pairs_X5_wordOf : GoodIn wsX5_pairs (wsV RX5 52 RX5 yX5_wordOf wsX5_wordOf) := goodIn_app (goodIn_of _ (by decide +kernel)) ggX5_pairs_X5_wordOf
theorem dX5_pairs_0 : decode cX5_pairs 0 = .ok (.iconst 0, 1) := by decide +kernel
theorem dX5_pairs_1 : decode cX5_pairs 1 = .ok (.istore_n 2, 1) := by decide +kernel
theorem dX5_pairs_2 : decode cX5_pairs 2 = .ok (.bipush 8, 2) := by decide +kernel
theorem dX5_pairs_4 : decode cX5_pairs 4 = .ok (.istore_n 3, 1) := by decide +kernel
theorem dX5_pairs_5 : decode cX5_pairs 5 = .ok (.iconst 0, 1) := by decide +kernel
theorem dX5_pairs_6 : decode cX5_pairs 6 = .ok (.istore 4, 2) := by decide +kernel
theorem dX5_pairs_8 : decode cX5_pairs 8 = .ok (.iload 4, 2) := by decide +kernel
theorem dX5_pairs_10 : decode cX5_pairs 10 = .ok (.bipush 16, 2) := by decide +kernel
theorem dX5_pairs_12 : decode cX5_pairs 12 = .ok (.if_icmp .ge 87, 3) := by decide +kernel
theorem dX5_pairs_15 : decode cX5_pairs 15 = .ok (.iconst 0, 1) := by decide +kernel
theorem dX5_pairs_16 : decode cX5_pairs 16 = .ok (.istore 5, 2) := by decide +kernel
theorem dX5_pairs_18 : decode cX5_pairs 18 = .ok (.iload 5, 2) := by decide +kernel
theorem dX5_pairs_20 : decode cX5_pairs 20 = .ok (.iload 4, 2) := by decide +kernel
theorem dX5_pairs_22 : decode cX5_pairs 22 = .ok (.if_icmp .ge 71, 3) := by decide +kernel
theorem dX5_pairs_25 : decode cX5_pairs 25 = .ok (.aload_n 0, 1) := by decide +kernel
theorem dX5_pairs_26 : decode cX5_pairs 26 = .ok (.getfield 7, 3) := by decide +kernel
theorem dX5_pairs_29 : decode cX5_pairs 29 = .ok (.iload 4, 2) := by decide +kernel
theorem dX5_pairs_31 : decode cX5_pairs 31 = .ok (.iaload, 1) := by decide +kernel
theorem dX5_pairs_32 : decode cX5_pairs 32 = .ok (.aload_n 0, 1) := by decide +kernel
theorem dX5_pairs_33 : decode cX5_pairs 33 = .ok (.getfield 7, 3) := by decide +kernel
theorem dX5_pairs_36 : decode cX5_pairs 36 = .ok (.iload 5, 2) := by decide +kernel
theorem dX5_pairs_38 : decode cX5_pairs 38 = .ok (.iaload, 1) := by decide +kernel
theorem dX5_pairs_39 : decode cX5_pairs 39 = .ok (.ixor, 1) := by decide +kernel
theorem dX5_pairs_40 : decode cX5_pairs 40 = .ok (.invokestatic 59, 3) := by decide +kernel
theorem dX5_pairs_43 : decode cX5_pairs 43 = .ok (.istore 6, 2) := by decide +kernel
theorem dX5_pairs_45 : decode cX5_pairs 45 = .ok (.iload 6, 2) := by decide +kernel
theorem dX5_pairs_47 : decode cX5_pairs 47 = .ok (.iload_n 3, 1) := by decide +kernel
theorem dX5_pairs_48 : decode cX5_pairs 48 = .ok (.if_icmp .ge 8, 3) := by decide +kernel
theorem dX5_pairs_51 : decode cX5_pairs 51 = .ok (.iload 6, 2) := by decide +kernel
theorem dX5_pairs_53 : decode cX5_pairs 53 = .ok (.goto 4, 3) := by decide +kernel
theorem dX5_pairs_56 : decode cX5_pairs 56 = .ok (.iload_n 3, 1) := by decide +kernel
theorem dX5_pairs_57 : decode cX5_pairs 57 = .ok (.istore_n 3, 1) := by decide +kernel
theorem dX5_pairs_58 : decode cX5_pairs 58 = .ok (.iload_n 2, 1) := by decide +kernel
theorem dX5_pairs_59 : decode cX5_pairs 59 = .ok (.iload_n 1, 1) := by decide +kernel
theorem dX5_pairs_60 : decode cX5_pairs 60 = .ok (.ifCond .eq 24, 3) := by decide +kernel
theorem dX5_pairs_63 : decode cX5_pairs 63 = .ok (.aload_n 0, 1) := by decide +kernel
theorem dX5_pairs_64 : decode cX5_pairs 64 = .ok (.iconst 0, 1) := by decide +kernel
theorem dX5_pairs_65 : decode cX5_pairs 65 = .ok (.iload 4, 2) := by decide +kernel
theorem dX5_pairs_67 : decode cX5_pairs 67 = .ok (.invokevirtual 52, 3) := by decide +kernel
theorem dX5_pairs_70 : decode cX5_pairs 70 = .ok (.aload_n 0, 1) := by decide +kernel
theorem dX5_pairs_71 : decode cX5_pairs 71 = .ok (.iconst 0, 1) := by decide +kernel
theorem dX5_pairs_72 : decode cX5_pairs 72 = .ok (.iload 5, 2) := by decide +kernel
theorem dX5_pairs_74 : decode cX5_pairs 74 = .ok (.invokevirtual 52, 3) := by decide +kernel
theorem dX5_pairs_77 : decode cX5_pairs 77 = .ok (.if_icmp .ne 7, 3) := by decide +kernel
theorem dX5_pairs_80 : decode cX5_pairs 80 = .ok (.iconst 1, 1) := by decide +kernel
theorem dX5_pairs_81 : decode cX5_pairs 81 = .ok (.goto 4, 3) := by decide +kernel
theorem dX5_pairs_84 : decode cX5_pairs 84 = .ok (.iconst 0, 1) := by decide +kernel
theorem dX5_pairs_85 : decode cX5_pairs 85 = .ok (.iadd, 1) := by decide +kernel
theorem dX5_pairs_86 : decode cX5_pairs 86 = .ok (.istore_n 2, 1) := by decide +kernel
theorem dX5_pairs_87 : decode cX5_pairs 87 = .ok (.iinc 5 1, 3) := by decide +kernel
theorem dX5_pairs_90 : decode cX5_pairs 90 = .ok (.goto (-72), 3) := by decide +kernel
theorem dX5_pairs_93 : decode cX5_pairs 93 = .ok (.iinc 4 1, 3) := by decide +kernel
theorem dX5_pairs_96 : decode cX5_pairs 96 = .ok (.goto (-88), 3) := by decide +kernel
theorem dX5_pairs_99 : decode cX5_pairs 99 = .ok (.iload_n 1, 1) := by decide +kernel
theorem dX5_pairs_100 : decode cX5_pairs 100 = .ok (.ifCond .eq 7, 3) := by decide +kernel
theorem dX5_pairs_103 : decode cX5_pairs 103 = .ok (.iload_n 2, 1) := by decide +kernel
theorem dX5_pairs_104 : decode cX5_pairs 104 = .ok (.goto 4, 3) := by decide +kernel
theorem dX5_pairs_107 : decode cX5_pairs 107 = .ok (.iload_n 3, 1) := by decide +kernel
theorem dX5_pairs_108 : decode cX5_pairs 108 = .ok (.ireturn, 1) := by decide +kernel
set_option maxRecDepth 20000 in
theorem ggX5_counted_X5_crossings : GoodIn wsX5_counted wsX5_crossings := goodIn_r _ [7, 1, 8, 9, 6, 10, 62, 63, 64, 65, 66, 67, 68, 69, 70, 71] (by decide +kernel) (by decide +kernel)
set_option maxRecDepth 20000 in
theorem gX5_counted_X5_crossings : GoodIn wsX5_counted (wsV RX5 131 RX5 yX5_crossings wsX5_crossings) := goodIn_app (goodIn_of _ (by decide +kernel)) ggX5_counted_X5_crossings
set_option maxRecDepth 20000 in
theorem ggX5_counted_X5_byRings : GoodIn wsX5_counted wsX5_byRings := goodIn_r _ [14, 15, 16, 17, 6, 18, 1, 19, 20, 21, 8, 9, 10, 62, 63, 64, 65, 66, 67, 68, 69, 70, 71] (by decide +kernel) (by decide +kernel)
set_option maxRecDepth 20000 in
theorem gX5_counted_X5_byRings : GoodIn wsX5_counted (wsV RX5 149 RX5 yX5_byRings wsX5_byRings) := goodIn_app (goodIn_of _ (by decide +kernel)) ggX5_counted_X5_byRings
set_option maxRecDepth 20000 in
theorem ggX5_counted_X5_right : GoodIn wsX5_counted wsX5_right := goodIn_r _ [25, 26, 27, 28, 6, 29, 30, 31, 32, 33, 1, 34, 35, 36, 37, 38, 39, 40, 41, 42, 43, 44, 45, 19, 20, 21, 46, 47, 48, 49, 50, 51, 52, 53, 62, 63, 64, 65, 66, 67, 68, 69, 70, 71] (by decide +kernel) (by decide +kernel)
set_option maxRecDepth 20000 in
theorem gX5_counted_X5_right : GoodIn wsX5_counted (wsV RX5 152 RX5 yX5_right wsX5_right) := goodIn_app (goodIn_of _ (by decide +kernel)) ggX5_counted_X5_right
set_option maxRecDepth 20000 in
theorem ggX5_counted_X5_ones : GoodIn wsX5_counted wsX5_ones := goodIn_r _ [10] (by decide +kernel) (by decide +kernel)
set_option maxRecDepth 20000 in
theorem gX5_counted_X5_ones : GoodIn wsX5_counted (va_wsS RX5 59 yX5_ones wsX5_ones) := goodIn_app (goodIn_of _ (by decide +kernel)) ggX5_counted_X5_ones
set_option maxRecDepth 20000 in
theorem ggX5_counted_X5_greatestWear : GoodIn wsX5_counted wsX5_greatestWear := goodIn_r _ [57, 1, 62, 63, 64, 65, 66, 67, 68, 69, 70, 71] (by decide +kernel) (by decide +kernel)
set_option maxRecDepth 20000 in
theorem gX5_counted_X5_greatestWear : GoodIn wsX5_counted (wsV RX5 155 RX5 yX5_greatestWear wsX5_greatestWear) := goodIn_app (goodIn_of _ (by decide +kernel)) ggX5_counted_X5_greatestWear
set_option maxRecDepth 20000 in
theorem ggX5_counted_X5_pairs : GoodIn wsX5_counted wsX5_pairs := goodIn_r _ [61, 1, 8, 9, 6, 10, 26, 27, 28, 29, 30, 31, 32, 33, 34, 35, 36, 37, 38, 39, 40, 41, 42, 43, 44, 45, 19, 20, 21, 46, 47, 48, 49, 62, 63, 64, 65, 66, 67, 68, 69, 70, 71] (by decide +kernel) (by decide +kernel)
set_option maxRecDepth 20000 in
theorem gX5_counted_X5_pairs : GoodIn wsX5_counted (wsV RX5 158 RX5 yX5_pairs wsX5_pairs) := goodIn_app (goodIn_of _ (by decide +kernel)) ggX5_counted_X5_pairs
theorem dX5_counted_0 : decode cX5_counted 0 = .ok (.iload_n 1, 1) := by decide +kernel
theorem dX5_counted_1 : decode cX5_counted 1 = .ok (.tableswitch 112 0 8 #[51, 57, 62, 62, 74, 80, 91, 96, 96], 51) := by decide +kernel
theorem dX5_counted_52 : decode cX5_counted 52 = .ok (.aload_n 0, 1) := by decide +kernel
theorem dX5_counted_53 : decode cX5_counted 53 = .ok (.iconst 0, 1) := by decide +kernel
theorem dX5_counted_54 : decode cX5_counted 54 = .ok (.invokevirtual 131, 3) := by decide +kernel
theorem dX5_counted_57 : decode cX5_counted 57 = .ok (.ireturn, 1) := by decide +kernel
theorem dX5_counted_58 : decode cX5_counted 58 = .ok (.aload_n 0, 1) := by decide +kernel
theorem dX5_counted_59 : decode cX5_counted 59 = .ok (.invokevirtual 149, 3) := by decide +kernel
theorem dX5_counted_62 : decode cX5_counted 62 = .ok (.ireturn, 1) := by decide +kernel
theorem dX5_counted_63 : decode cX5_counted 63 = .ok (.aload_n 0, 1) := by decide +kernel
theorem dX5_counted_64 : decode cX5_counted 64 = .ok (.getfield 7, 3) := by decide +kernel
theorem dX5_counted_67 : decode cX5_counted 67 = .ok (.bipush 60, 2) := by decide +kernel
theorem dX5_counted_69 : decode cX5_counted 69 = .ok (.iload_n 1, 1) := by decide +kernel
theorem dX5_counted_70 : decode cX5_counted 70 = .ok (.iadd, 1) := by decide +kernel
theorem dX5_counted_71 : decode cX5_counted 71 = .ok (.iconst 2, 1) := by decide +kernel
theorem dX5_counted_72 : decode cX5_counted 72 = .ok (.isub, 1) := by decide +kernel
theorem dX5_counted_73 : decode cX5_counted 73 = .ok (.iaload, 1) := by decide +kernel
theorem dX5_counted_74 : decode cX5_counted 74 = .ok (.ireturn, 1) := by decide +kernel
theorem dX5_counted_75 : decode cX5_counted 75 = .ok (.aload_n 0, 1) := by decide +kernel
theorem dX5_counted_76 : decode cX5_counted 76 = .ok (.iconst 0, 1) := by decide +kernel
theorem dX5_counted_77 : decode cX5_counted 77 = .ok (.invokevirtual 152, 3) := by decide +kernel
theorem dX5_counted_80 : decode cX5_counted 80 = .ok (.ireturn, 1) := by decide +kernel
theorem dX5_counted_81 : decode cX5_counted 81 = .ok (.aload_n 0, 1) := by decide +kernel
theorem dX5_counted_82 : decode cX5_counted 82 = .ok (.getfield 7, 3) := by decide +kernel
theorem dX5_counted_85 : decode cX5_counted 85 = .ok (.bipush 16, 2) := by decide +kernel
theorem dX5_counted_87 : decode cX5_counted 87 = .ok (.iaload, 1) := by decide +kernel
theorem dX5_counted_88 : decode cX5_counted 88 = .ok (.invokestatic 59, 3) := by decide +kernel
theorem dX5_counted_91 : decode cX5_counted 91 = .ok (.ireturn, 1) := by decide +kernel
theorem dX5_counted_92 : decode cX5_counted 92 = .ok (.aload_n 0, 1) := by decide +kernel
theorem dX5_counted_93 : decode cX5_counted 93 = .ok (.invokevirtual 155, 3) := by decide +kernel
theorem dX5_counted_96 : decode cX5_counted 96 = .ok (.ireturn, 1) := by decide +kernel
theorem dX5_counted_97 : decode cX5_counted 97 = .ok (.aload_n 0, 1) := by decide +kernel
theorem dX5_counted_98 : decode cX5_counted 98 = .ok (.iload_n 1, 1) := by decide +kernel
theorem dX5_counted_99 : decode cX5_counted 99 = .ok (.bipush 7, 2) := by decide +kernel
