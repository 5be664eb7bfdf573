theorem dX5_steps_266 : decode cX5_steps 266 = .ok (.iadd, 1) := by decide +kernel
theorem dX5_steps_267 : decode cX5_steps 267 = .ok (.iload_n 3, 1) := by decide +kernel
theorem dX5_steps_268 : decode cX5_steps 268 = .ok (.isub, 1) := by decide +kernel
theorem dX5_steps_269 : decode cX5_steps 269 = .ok (.sipush 256, 3) := by decide +kernel
theorem dX5_steps_272 : decode cX5_steps 272 = .ok (.irem, 1) := by decide +kernel
theorem dX5_steps_273 : decode cX5_steps 273 = .ok (.iastore, 1) := by decide +kernel
theorem dX5_steps_274 : decode cX5_steps 274 = .ok (.goto 8, 3) := by decide +kernel
theorem dX5_steps_277 : decode cX5_steps 277 = .ok (.aload_n 0, 1) := by decide +kernel
theorem dX5_steps_278 : decode cX5_steps 278 = .ok (.iload_n 1, 1) := by decide +kernel
theorem dX5_steps_279 : decode cX5_steps 279 = .ok (.invokevirtual 69, 3) := by decide +kernel
theorem dX5_steps_282 : decode cX5_steps 282 = .ok (.return_, 1) := by decide +kernel
set_option maxRecDepth 20000 in
theorem ggX5_goes_X5_steps : GoodIn wsX5_goes wsX5_steps := goodIn_r _ [6, 1, 7, 8, 9, 5, 10, 11, 12, 13, 14, 15, 16, 17, 18, 19, 20, 21, 22, 23, 24, 25, 26, 27, 28, 29, 30, 31, 32, 33, 34, 35, 36, 37, 38, 39, 40, 41, 42, 43, 44, 45, 46, 47, 48, 49, 50, 51, 52, 53, 54, 55] (by decide +kernel) (by decide +kernel)
set_option maxRecDepth 20000 in
theorem gX5_goes_X5_steps : GoodIn wsX5_goes (wsV RX5 73 RX5 yX5_steps wsX5_steps) := goodIn_app (goodIn_of _ (by decide +kernel)) ggX5_goes_X5_steps
theorem dX5_goes_0 : decode cX5_goes 0 = .ok (.iconst 0, 1) := by decide +kernel
theorem dX5_goes_1 : decode cX5_goes 1 = .ok (.istore_n 3, 1) := by decide +kernel
theorem dX5_goes_2 : decode cX5_goes 2 = .ok (.iload_n 3, 1) := by decide +kernel
theorem dX5_goes_3 : decode cX5_goes 3 = .ok (.iload_n 2, 1) := by decide +kernel
theorem dX5_goes_4 : decode cX5_goes 4 = .ok (.if_icmp .ge 27, 3) := by decide +kernel
theorem dX5_goes_7 : decode cX5_goes 7 = .ok (.aload_n 0, 1) := by decide +kernel
theorem dX5_goes_8 : decode cX5_goes 8 = .ok (.getfield 7, 3) := by decide +kernel
theorem dX5_goes_11 : decode cX5_goes 11 = .ok (.iload_n 1, 1) := by decide +kernel
theorem dX5_goes_12 : decode cX5_goes 12 = .ok (.bipush 33, 2) := by decide +kernel
theorem dX5_goes_14 : decode cX5_goes 14 = .ok (.iadd, 1) := by decide +kernel
theorem dX5_goes_15 : decode cX5_goes 15 = .ok (.iaload, 1) := by decide +kernel
theorem dX5_goes_16 : decode cX5_goes 16 = .ok (.iconst 1, 1) := by decide +kernel
theorem dX5_goes_17 : decode cX5_goes 17 = .ok (.if_icmp .ne 14, 3) := by decide +kernel
theorem dX5_goes_20 : decode cX5_goes 20 = .ok (.aload_n 0, 1) := by decide +kernel
theorem dX5_goes_21 : decode cX5_goes 21 = .ok (.iload_n 1, 1) := by decide +kernel
theorem dX5_goes_22 : decode cX5_goes 22 = .ok (.invokevirtual 73, 3) := by decide +kernel
theorem dX5_goes_25 : decode cX5_goes 25 = .ok (.iinc 3 1, 3) := by decide +kernel
theorem dX5_goes_28 : decode cX5_goes 28 = .ok (.goto (-26), 3) := by decide +kernel
theorem dX5_goes_31 : decode cX5_goes 31 = .ok (.iload_n 3, 1) := by decide +kernel
theorem dX5_goes_32 : decode cX5_goes 32 = .ok (.ireturn, 1) := by decide +kernel
theorem dX5_copies_0 : decode cX5_copies 0 = .ok (.iconst 0, 1) := by decide +kernel
theorem dX5_copies_1 : decode cX5_copies 1 = .ok (.istore_n 3, 1) := by decide +kernel
theorem dX5_copies_2 : decode cX5_copies 2 = .ok (.iload_n 3, 1) := by decide +kernel
theorem dX5_copies_3 : decode cX5_copies 3 = .ok (.bipush 62, 2) := by decide +kernel
theorem dX5_copies_5 : decode cX5_copies 5 = .ok (.if_icmp .ge 31, 3) := by decide +kernel
theorem dX5_copies_8 : decode cX5_copies 8 = .ok (.aload_n 0, 1) := by decide +kernel
theorem dX5_copies_9 : decode cX5_copies 9 = .ok (.getfield 7, 3) := by decide +kernel
theorem dX5_copies_12 : decode cX5_copies 12 = .ok (.bipush 62, 2) := by decide +kernel
theorem dX5_copies_14 : decode cX5_copies 14 = .ok (.iload_n 2, 1) := by decide +kernel
theorem dX5_copies_15 : decode cX5_copies 15 = .ok (.imul, 1) := by decide +kernel
theorem dX5_copies_16 : decode cX5_copies 16 = .ok (.iload_n 3, 1) := by decide +kernel
theorem dX5_copies_17 : decode cX5_copies 17 = .ok (.iadd, 1) := by decide +kernel
theorem dX5_copies_18 : decode cX5_copies 18 = .ok (.aload_n 0, 1) := by decide +kernel
theorem dX5_copies_19 : decode cX5_copies 19 = .ok (.getfield 7, 3) := by decide +kernel
theorem dX5_copies_22 : decode cX5_copies 22 = .ok (.bipush 62, 2) := by decide +kernel
theorem dX5_copies_24 : decode cX5_copies 24 = .ok (.iload_n 1, 1) := by decide +kernel
theorem dX5_copies_25 : decode cX5_copies 25 = .ok (.imul, 1) := by decide +kernel
theorem dX5_copies_26 : decode cX5_copies 26 = .ok (.iload_n 3, 1) := by decide +kernel
theorem dX5_copies_27 : decode cX5_copies 27 = .ok (.iadd, 1) := by decide +kernel
theorem dX5_copies_28 : decode cX5_copies 28 = .ok (.iaload, 1) := by decide +kernel
theorem dX5_copies_29 : decode cX5_copies 29 = .ok (.iastore, 1) := by decide +kernel
theorem dX5_copies_30 : decode cX5_copies 30 = .ok (.iinc 3 1, 3) := by decide +kernel
theorem dX5_copies_33 : decode cX5_copies 33 = .ok (.goto (-31), 3) := by decide +kernel
theorem dX5_copies_36 : decode cX5_copies 36 = .ok (.return_, 1) := by decide +kernel
set_option maxRecDepth 20000 in
theorem ggX5_save_X5_copies : GoodIn wsX5_save wsX5_copies := goodIn_r _ [6, 7, 8, 9, 10, 11, 12, 13, 14, 15, 16, 17] (by decide +kernel) (by decide +kernel)
set_option maxRecDepth 20000 in
theorem gX5_save_X5_copies : GoodIn wsX5_save (wsV RX5 79 RX5 yX5_copies wsX5_copies) := goodIn_app (goodIn_of _ (by decide +kernel)) ggX5_save_X5_copies
theorem dX5_save_0 : decode cX5_save 0 = .ok (.iconst 1, 1) := by decide +kernel
theorem dX5_save_1 : decode cX5_save 1 = .ok (.istore_n 1, 1) := by decide +kernel
theorem dX5_save_2 : decode cX5_save 2 = .ok (.iload_n 1, 1) := by decide +kernel
theorem dX5_save_3 : decode cX5_save 3 = .ok (.bipush 6, 2) := by decide +kernel
theorem dX5_save_5 : decode cX5_save 5 = .ok (.if_icmp .ge 26, 3) := by decide +kernel
theorem dX5_save_8 : decode cX5_save 8 = .ok (.aload_n 0, 1) := by decide +kernel
theorem dX5_save_9 : decode cX5_save 9 = .ok (.getfield 76, 3) := by decide +kernel
theorem dX5_save_12 : decode cX5_save 12 = .ok (.bipush 6, 2) := by decide +kernel
theorem dX5_save_14 : decode cX5_save 14 = .ok (.if_icmp .ne 17, 3) := by decide +kernel
theorem dX5_save_17 : decode cX5_save 17 = .ok (.aload_n 0, 1) := by decide +kernel
theorem dX5_save_18 : decode cX5_save 18 = .ok (.iload_n 1, 1) := by decide +kernel
theorem dX5_save_19 : decode cX5_save 19 = .ok (.iconst 1, 1) := by decide +kernel
theorem dX5_save_20 : decode cX5_save 20 = .ok (.iadd, 1) := by decide +kernel
theorem dX5_save_21 : decode cX5_save 21 = .ok (.iload_n 1, 1) := by decide +kernel
theorem dX5_save_22 : decode cX5_save 22 = .ok (.invokevirtual 79, 3) := by decide +kernel
theorem dX5_save_25 : decode cX5_save 25 = .ok (.iinc 1 1, 3) := by decide +kernel
theorem dX5_save_28 : decode cX5_save 28 = .ok (.goto (-26), 3) := by decide +kernel
theorem dX5_save_31 : decode cX5_save 31 = .ok (.aload_n 0, 1) := by decide +kernel
theorem dX5_save_32 : decode cX5_save 32 = .ok (.dup, 1) := by decide +kernel
theorem dX5_save_33 : decode cX5_save 33 = .ok (.getfield 76, 3) := by decide +kernel
theorem dX5_save_36 : decode cX5_save 36 = .ok (.aload_n 0, 1) := by decide +kernel
theorem dX5_save_37 : decode cX5_save 37 = .ok (.getfield 76, 3) := by decide +kernel
theorem dX5_save_40 : decode cX5_save 40 = .ok (.bipush 6, 2) := by decide +kernel
theorem dX5_save_42 : decode cX5_save 42 = .ok (.if_icmp .ge 7, 3) := by decide +kernel
theorem dX5_save_45 : decode cX5_save 45 = .ok (.iconst 1, 1) := by decide +kernel
theorem dX5_save_46 : decode cX5_save 46 = .ok (.goto 4, 3) := by decide +kernel
theorem dX5_save_49 : decode cX5_save 49 = .ok (.iconst 0, 1) := by decide +kernel
theorem dX5_save_50 : decode cX5_save 50 = .ok (.iadd, 1) := by decide +kernel
theorem dX5_save_51 : decode cX5_save 51 = .ok (.putfield 76, 3) := by decide +kernel
theorem dX5_save_54 : decode cX5_save 54 = .ok (.aload_n 0, 1) := by decide +kernel
theorem dX5_save_55 : decode cX5_save 55 = .ok (.iconst 0, 1) := by decide +kernel
theorem dX5_save_56 : decode cX5_save 56 = .ok (.aload_n 0, 1) := by decide +kernel
theorem dX5_save_57 : decode cX5_save 57 = .ok (.getfield 76, 3) := by decide +kernel
theorem dX5_save_60 : decode cX5_save 60 = .ok (.invokevirtual 79, 3) := by decide +kernel
theorem dX5_save_63 : decode cX5_save 63 = .ok (.return_, 1) := by decide +kernel
set_option maxRecDepth 20000 in
theorem ggX5_cross_X5_isThread : GoodIn wsX5_cross wsX5_isThread := goodIn_r _ [5, 6, 7, 4, 8] (by decide +kernel) (by decide +kernel)
set_option maxRecDepth 20000 in
theorem gX5_cross_X5_isThread : GoodIn wsX5_cross (va_wsS RX5 83 yX5_isThread wsX5_isThread) := goodIn_app (goodIn_of _ (by decide +kernel)) ggX5_cross_X5_isThread
set_option maxRecDepth 20000 in
theorem ggX5_cross_X5_isRing : GoodIn wsX5_cross wsX5_isRing := goodIn_r _ [11, 6, 7, 4, 8] (by decide +kernel) (by decide +kernel)
set_option maxRecDepth 20000 in
theorem gX5_cross_X5_isRing : GoodIn wsX5_cross (va_wsS RX5 87 yX5_isRing wsX5_isRing) := goodIn_app (goodIn_of _ (by decide +kernel)) ggX5_cross_X5_isRing
set_option maxRecDepth 20000 in
theorem ggX5_cross_X5_holds : GoodIn wsX5_cross wsX5_holds := goodIn_r _ [15, 16, 30, 31, 32, 33, 34, 35, 36, 37, 38, 39] (by decide +kernel) (by decide +kernel)
set_option maxRecDepth 20000 in
theorem gX5_cross_X5_holds : GoodIn wsX5_cross (wsV RX5 90 RX5 yX5_holds wsX5_holds) := goodIn_app (goodIn_of _ (by decide +kernel)) ggX5_cross_X5_holds
set_option maxRecDepth 20000 in
theorem ggX5_cross_X5_save : GoodIn wsX5_cross wsX5_save := goodIn_r _ [20, 21, 22, 23, 24, 4, 25, 1, 30, 31, 32, 33, 34, 35, 36, 37, 38, 39] (by decide +kernel) (by decide +kernel)
set_option maxRecDepth 20000 in
theorem gX5_cross_X5_save : GoodIn wsX5_cross (wsV RX5 93 RX5 yX5_save wsX5_save) := goodIn_app (goodIn_of _ (by decide +kernel)) ggX5_cross_X5_save
set_option maxRecDepth 20000 in
theorem ggX5_cross_X5_wears : GoodIn wsX5_cross wsX5_wears := goodIn_r _ [29, 1, 30, 31, 32, 33, 34, 35, 36, 37, 38, 39] (by decide +kernel) (by decide +kernel)
set_option maxRecDepth 20000 in
theorem gX5_cross_X5_wears : GoodIn wsX5_cross (wsV RX5 55 RX5 yX5_wears wsX5_wears) := goodIn_app (goodIn_of _ (by decide +kernel)) ggX5_cross_X5_wears
theorem dX5_cross_0 : decode cX5_cross 0 = .ok (.aload_n 0, 1) := by decide +kernel
theorem dX5_cross_1 : decode cX5_cross 1 = .ok (.iload_n 1, 1) := by decide +kernel
theorem dX5_cross_2 : decode cX5_cross 2 = .ok (.invokestatic 83, 3) := by decide +kernel
theorem dX5_cross_5 : decode cX5_cross 5 = .ok (.ifCond .eq 14, 3) := by decide +kernel
theorem dX5_cross_8 : decode cX5_cross 8 = .ok (.iload_n 2, 1) := by decide +kernel
theorem dX5_cross_9 : decode cX5_cross 9 = .ok (.invokestatic 87, 3) := by decide +kernel
theorem dX5_cross_12 : decode cX5_cross 12 = .ok (.ifCond .eq 7, 3) := by decide +kernel
theorem dX5_cross_15 : decode cX5_cross 15 = .ok (.iconst 0, 1) := by decide +kernel
theorem dX5_cross_16 : decode cX5_cross 16 = .ok (.goto 4, 3) := by decide +kernel
theorem dX5_cross_19 : decode cX5_cross 19 = .ok (.iconst 1, 1) := by decide +kernel
theorem dX5_cross_20 : decode cX5_cross 20 = .ok (.invokevirtual 90, 3) := by decide +kernel
theorem dX5_cross_23 : decode cX5_cross 23 = .ok (.ifCond .ne 5, 3) := by decide +kernel
theorem dX5_cross_26 : decode cX5_cross 26 = .ok (.iconst 0, 1) := by decide +kernel
theorem dX5_cross_27 : decode cX5_cross 27 = .ok (.ireturn, 1) := by decide +kernel
theorem dX5_cross_28 : decode cX5_cross 28 = .ok (.aload_n 0, 1) := by decide +kernel
theorem dX5_cross_29 : decode cX5_cross 29 = .ok (.invokevirtual 93, 3) := by decide +kernel
theorem dX5_cross_32 : decode cX5_cross 32 = .ok (.aload_n 0, 1) := by decide +kernel
theorem dX5_cross_33 : decode cX5_cross 33 = .ok (.getfield 7, 3) := by decide +kernel
theorem dX5_cross_36 : decode cX5_cross 36 = .ok (.iload_n 1, 1) := by decide +kernel
theorem dX5_cross_37 : decode cX5_cross 37 = .ok (.dup2, 1) := by decide +kernel
theorem dX5_cross_38 : decode cX5_cross 38 = .ok (.iaload, 1) := by decide +kernel
theorem dX5_cross_39 : decode cX5_cross 39 = .ok (.iconst 1, 1) := by decide +kernel
theorem dX5_cross_40 : decode cX5_cross 40 = .ok (.iload_n 2, 1) := by decide +kernel
theorem dX5_cross_41 : decode cX5_cross 41 = .ok (.ishl, 1) := by decide +kernel
theorem dX5_cross_42 : decode cX5_cross 42 = .ok (.ixor, 1) := by decide +kernel
theorem dX5_cross_43 : decode cX5_cross 43 = .ok (.iastore, 1) := by decide +kernel
theorem dX5_cross_44 : decode cX5_cross 44 = .ok (.aload_n 0, 1) := by decide +kernel
theorem dX5_cross_45 : decode cX5_cross 45 = .ok (.getfield 7, 3) := by decide +kernel
theorem dX5_cross_48 : decode cX5_cross 48 = .ok (.bipush 60, 2) := by decide +kernel
theorem dX5_cross_50 : decode cX5_cross 50 = .ok (.dup2, 1) := by decide +kernel
theorem dX5_cross_51 : decode cX5_cross 51 = .ok (.iaload, 1) := by decide +kernel
theorem dX5_cross_52 : decode cX5_cross 52 = .ok (.iconst 1, 1) := by decide +kernel
theorem dX5_cross_53 : decode cX5_cross 53 = .ok (.iadd, 1) := by decide +kernel
theorem dX5_cross_54 : decode cX5_cross 54 = .ok (.iastore, 1) := by decide +kernel
theorem dX5_cross_55 : decode cX5_cross 55 = .ok (.aload_n 0, 1) := by decide +kernel
theorem dX5_cross_56 : decode cX5_cross 56 = .ok (.iconst 0, 1) := by decide +kernel
theorem dX5_cross_57 : decode cX5_cross 57 = .ok (.iload_n 2, 1) := by decide +kernel
theorem dX5_cross_58 : decode cX5_cross 58 = .ok (.iconst 2, 1) := by decide +kernel
theorem dX5_cross_59 : decode cX5_cross 59 = .ok (.invokevirtual 55, 3) := by decide +kernel
theorem dX5_cross_62 : decode cX5_cross 62 = .ok (.aload_n 0, 1) := by decide +kernel
theorem dX5_cross_63 : decode cX5_cross 63 = .ok (.getfield 7, 3) := by decide +kernel
theorem dX5_cross_66 : decode cX5_cross 66 = .ok (.iload_n 1, 1) := by decide +kernel
theorem dX5_cross_67 : decode cX5_cross 67 = .ok (.iaload, 1) := by decide +kernel
theorem dX5_cross_68 : decode cX5_cross 68 = .ok (.iload_n 2, 1) := by decide +kernel
theorem dX5_cross_69 : decode cX5_cross 69 = .ok (.ishr, 1) := by decide +kernel
theorem dX5_cross_70 : decode cX5_cross 70 = .ok (.iconst 1, 1) := by decide +kernel
theorem dX5_cross_71 : decode cX5_cross 71 = .ok (.iand, 1) := by decide +kernel
theorem dX5_cross_72 : decode cX5_cross 72 = .ok (.ireturn, 1) := by decide +kernel
set_option maxRecDepth 20000 in
theorem ggX5_lay_X5_isThread : GoodIn wsX5_lay wsX5_isThread := goodIn_r _ [4, 5, 6, 3, 7] (by decide +kernel) (by decide +kernel)
set_option maxRecDepth 20000 in
theorem gX5_lay_X5_isThread : GoodIn wsX5_lay (va_wsS RX5 83 yX5_isThread wsX5_isThread) := goodIn_app (goodIn_of _ (by decide +kernel)) ggX5_lay_X5_isThread
set_option maxRecDepth 20000 in
theorem ggX5_lay_X5_in : GoodIn wsX5_lay wsX5_in := goodIn_r _ [7] (by decide +kernel) (by decide +kernel)
set_option maxRecDepth 20000 in
theorem gX5_lay_X5_in : GoodIn wsX5_lay (va_wsS RX5 27 yX5_in wsX5_in) := goodIn_app (goodIn_of _ (by decide +kernel)) ggX5_lay_X5_in
set_option maxRecDepth 20000 in
theorem ggX5_lay_X5_holds : GoodIn wsX5_lay wsX5_holds := goodIn_r _ [11, 12, 41, 42, 43, 44, 45, 46, 47, 48, 49, 50] (by decide +kernel) (by decide +kernel)
set_option maxRecDepth 20000 in
theorem gX5_lay_X5_holds : GoodIn wsX5_lay (wsV RX5 90 RX5 yX5_holds wsX5_holds) := goodIn_app (goodIn_of _ (by decide +kernel)) ggX5_lay_X5_holds
set_option maxRecDepth 20000 in
theorem ggX5_lay_X5_save : GoodIn wsX5_lay wsX5_save := goodIn_r _ [16, 17, 18, 19, 20, 3, 21, 22, 41, 42, 43, 44, 45, 46, 47, 48, 49, 50] (by decide +kernel) (by decide +kernel)
set_option maxRecDepth 20000 in
theorem gX5_lay_X5_save : GoodIn wsX5_lay (wsV RX5 93 RX5 yX5_save wsX5_save) := goodIn_app (goodIn_of _ (by decide +kernel)) ggX5_lay_X5_save
set_option maxRecDepth 20000 in
theorem ggX5_lay_X5_lays : GoodIn wsX5_lay wsX5_lays := goodIn_r _ [26, 22, 27, 28, 29, 3, 30, 31, 32, 33, 34, 35, 36, 37, 38, 39, 40, 41, 42, 43, 44, 45, 46, 47, 48, 49, 50] (by decide +kernel) (by decide +kernel)
set_option maxRecDepth 20000 in
theorem gX5_lay_X5_lays : GoodIn wsX5_lay (wsV RX5 96 RX5 yX5_lays wsX5_lays) := goodIn_app (goodIn_of _ (by decide +kernel)) ggX5_lay_X5_lays
theorem dX5_lay_0 : decode cX5_lay 0 = .ok (.aload_n 0, 1) := by decide +kernel
theorem dX5_lay_1 : decode cX5_lay 1 = .ok (.iload_n 1, 1) := by decide +kernel
theorem dX5_lay_2 : decode cX5_lay 2 = .ok (.invokestatic 83, 3) := by decide +kernel
theorem dX5_lay_5 : decode cX5_lay 5 = .ok (.ifCond .ne 7, 3) := by decide +kernel
theorem dX5_lay_8 : decode cX5_lay 8 = .ok (.iconst 1, 1) := by decide +kernel
theorem dX5_lay_9 : decode cX5_lay 9 = .ok (.goto 19, 3) := by decide +kernel
theorem dX5_lay_12 : decode cX5_lay 12 = .ok (.iload_n 2, 1) := by decide +kernel
theorem dX5_lay_13 : decode cX5_lay 13 = .ok (.iconst 0, 1) := by decide +kernel
theorem dX5_lay_14 : decode cX5_lay 14 = .ok (.sipush 255, 3) := by decide +kernel
theorem dX5_lay_17 : decode cX5_lay 17 = .ok (.invokestatic 27, 3) := by decide +kernel
theorem dX5_lay_20 : decode cX5_lay 20 = .ok (.ifCond .ne 7, 3) := by decide +kernel
theorem dX5_lay_23 : decode cX5_lay 23 = .ok (.iconst 2, 1) := by decide +kernel
theorem dX5_lay_24 : decode cX5_lay 24 = .ok (.goto 4, 3) := by decide +kernel
theorem dX5_lay_27 : decode cX5_lay 27 = .ok (.iconst 0, 1) := by decide +kernel
theorem dX5_lay_28 : decode cX5_lay 28 = .ok (.invokevirtual 90, 3) := by decide +kernel
theorem dX5_lay_31 : decode cX5_lay 31 = .ok (.ifCond .ne 5, 3) := by decide +kernel
theorem dX5_lay_34 : decode cX5_lay 34 = .ok (.iconst 0, 1) := by decide +kernel
theorem dX5_lay_35 : decode cX5_lay 35 = .ok (.ireturn, 1) := by decide +kernel
theorem dX5_lay_36 : decode cX5_lay 36 = .ok (.aload_n 0, 1) := by decide +kernel
theorem dX5_lay_37 : decode cX5_lay 37 = .ok (.invokevirtual 93, 3) := by decide +kernel
theorem dX5_lay_40 : decode cX5_lay 40 = .ok (.aload_n 0, 1) := by decide +kernel
theorem dX5_lay_41 : decode cX5_lay 41 = .ok (.iconst 0, 1) := by decide +kernel
theorem dX5_lay_42 : decode cX5_lay 42 = .ok (.iload_n 1, 1) := by decide +kernel
theorem dX5_lay_43 : decode cX5_lay 43 = .ok (.iload_n 2, 1) := by decide +kernel
theorem dX5_lay_44 : decode cX5_lay 44 = .ok (.invokevirtual 96, 3) := by decide +kernel
theorem dX5_lay_47 : decode cX5_lay 47 = .ok (.ireturn, 1) := by decide +kernel
set_option maxRecDepth 20000 in
theorem ggX5_guard_X5_isThread : GoodIn wsX5_guard wsX5_isThread := goodIn_r _ [5, 6, 7, 4, 8] (by decide +kernel) (by decide +kernel)
set_option maxRecDepth 20000 in
theorem gX5_guard_X5_isThread : GoodIn wsX5_guard (va_wsS RX5 83 yX5_isThread wsX5_isThread) := goodIn_app (goodIn_of _ (by decide +kernel)) ggX5_guard_X5_isThread
set_option maxRecDepth 20000 in
theorem ggX5_guard_X5_holds : GoodIn wsX5_guard wsX5_holds := goodIn_r _ [12, 13, 23, 24, 25, 26, 27, 28, 29, 30, 31, 32] (by decide +kernel) (by decide +kernel)
set_option maxRecDepth 20000 in
theorem gX5_guard_X5_holds : GoodIn wsX5_guard (wsV RX5 90 RX5 yX5_holds wsX5_holds) := goodIn_app (goodIn_of _ (by decide +kernel)) ggX5_guard_X5_holds
set_option maxRecDepth 20000 in
theorem ggX5_guard_X5_save : GoodIn wsX5_guard wsX5_save := goodIn_r _ [17, 18, 19, 20, 21, 4, 22, 1, 23, 24, 25, 26, 27, 28, 29, 30, 31, 32] (by decide +kernel) (by decide +kernel)
set_option maxRecDepth 20000 in
theorem gX5_guard_X5_save : GoodIn wsX5_guard (wsV RX5 93 RX5 yX5_save wsX5_save) := goodIn_app (goodIn_of _ (by decide +kernel)) ggX5_guard_X5_save
theorem dX5_guard_0 : decode cX5_guard 0 = .ok (.aload_n 0, 1) := by decide +kernel
theorem dX5_guard_1 : decode cX5_guard 1 = .ok (.iload_n 1, 1) := by decide +kernel
theorem dX5_guard_2 : decode cX5_guard 2 = .ok (.invokestatic 83, 3) := by decide +kernel
theorem dX5_guard_5 : decode cX5_guard 5 = .ok (.ifCond .eq 7, 3) := by decide +kernel
theorem dX5_guard_8 : decode cX5_guard 8 = .ok (.iconst 0, 1) := by decide +kernel
theorem dX5_guard_9 : decode cX5_guard 9 = .ok (.goto 4, 3) := by decide +kernel
theorem dX5_guard_12 : decode cX5_guard 12 = .ok (.iconst 1, 1) := by decide +kernel
theorem dX5_guard_13 : decode cX5_guard 13 = .ok (.invokevirtual 90, 3) := by decide +kernel
theorem dX5_guard_16 : decode cX5_guard 16 = .ok (.ifCond .ne 5, 3) := by decide +kernel
theorem dX5_guard_19 : decode cX5_guard 19 = .ok (.iconst 0, 1) := by decide +kernel
theorem dX5_guard_20 : decode cX5_guard 20 = .ok (.ireturn, 1) := by decide +kernel
theorem dX5_guard_21 : decode cX5_guard 21 = .ok (.aload_n 0, 1) := by decide +kernel
theorem dX5_guard_22 : decode cX5_guard 22 = .ok (.invokevirtual 93, 3) := by decide +kernel
theorem dX5_guard_25 : decode cX5_guard 25 = .ok (.aload_n 0, 1) := by decide +kernel
theorem dX5_guard_26 : decode cX5_guard 26 = .ok (.getfield 7, 3) := by decide +kernel
theorem dX5_guard_29 : decode cX5_guard 29 = .ok (.bipush 16, 2) := by decide +kernel
theorem dX5_guard_31 : decode cX5_guard 31 = .ok (.dup2, 1) := by decide +kernel
theorem dX5_guard_32 : decode cX5_guard 32 = .ok (.iaload, 1) := by decide +kernel
theorem dX5_guard_33 : decode cX5_guard 33 = .ok (.iconst 1, 1) := by decide +kernel
theorem dX5_guard_34 : decode cX5_guard 34 = .ok (.iload_n 1, 1) := by decide +kernel
theorem dX5_guard_35 : decode cX5_guard 35 = .ok (.ishl, 1) := by decide +kernel
theorem dX5_guard_36 : decode cX5_guard 36 = .ok (.ixor, 1) := by decide +kernel
theorem dX5_guard_37 : decode cX5_guard 37 = .ok (.iastore, 1) := by decide +kernel
theorem dX5_guard_38 : decode cX5_guard 38 = .ok (.aload_n 0, 1) := by decide +kernel
theorem dX5_guard_39 : decode cX5_guard 39 = .ok (.getfield 7, 3) := by decide +kernel
theorem dX5_guard_42 : decode cX5_guard 42 = .ok (.bipush 16, 2) := by decide +kernel
theorem dX5_guard_44 : decode cX5_guard 44 = .ok (.iaload, 1) := by decide +kernel
theorem dX5_guard_45 : decode cX5_guard 45 = .ok (.iload_n 1, 1) := by decide +kernel
theorem dX5_guard_46 : decode cX5_guard 46 = .ok (.ishr, 1) := by decide +kernel
theorem dX5_guard_47 : decode cX5_guard 47 = .ok (.iconst 1, 1) := by decide +kernel
theorem dX5_guard_48 : decode cX5_guard 48 = .ok (.iand, 1) := by decide +kernel
theorem dX5_guard_49 : decode cX5_guard 49 = .ok (.ireturn, 1) := by decide +kernel
set_option maxRecDepth 20000 in
theorem ggX5_threadsOf_X5_has : GoodIn wsX5_threadsOf wsX5_has := goodIn_r _ [5] (by decide +kernel) (by decide +kernel)
set_option maxRecDepth 20000 in
theorem gX5_threadsOf_X5_has : GoodIn wsX5_threadsOf (va_wsS RX5 31 yX5_has wsX5_has) := goodIn_app (goodIn_of _ (by decide +kernel)) ggX5_threadsOf_X5_has
theorem dX5_threadsOf_0 : decode cX5_threadsOf 0 = .ok (.iconst 0, 1) := by decide +kernel
theorem dX5_threadsOf_1 : decode cX5_threadsOf 1 = .ok (.istore_n 2, 1) := by decide +kernel
theorem dX5_threadsOf_2 : decode cX5_threadsOf 2 = .ok (.iconst 0, 1) := by decide +kernel
theorem dX5_threadsOf_3 : decode cX5_threadsOf 3 = .ok (.istore_n 3, 1) := by decide +kernel
theorem dX5_threadsOf_4 : decode cX5_threadsOf 4 = .ok (.iload_n 3, 1) := by decide +kernel
theorem dX5_threadsOf_5 : decode cX5_threadsOf 5 = .ok (.bipush 16, 2) := by decide +kernel
theorem dX5_threadsOf_7 : decode cX5_threadsOf 7 = .ok (.if_icmp .ge 32, 3) := by decide +kernel
theorem dX5_threadsOf_10 : decode cX5_threadsOf 10 = .ok (.iload_n 2, 1) := by decide +kernel
theorem dX5_threadsOf_11 : decode cX5_threadsOf 11 = .ok (.aload_n 0, 1) := by decide +kernel
theorem dX5_threadsOf_12 : decode cX5_threadsOf 12 = .ok (.getfield 7, 3) := by decide +kernel
theorem dX5_threadsOf_15 : decode cX5_threadsOf 15 = .ok (.iload_n 3, 1) := by decide +kernel
theorem dX5_threadsOf_16 : decode cX5_threadsOf 16 = .ok (.iaload, 1) := by decide +kernel
theorem dX5_threadsOf_17 : decode cX5_threadsOf 17 = .ok (.iload_n 1, 1) := by decide +kernel
theorem dX5_threadsOf_18 : decode cX5_threadsOf 18 = .ok (.invokestatic 31, 3) := by decide +kernel
theorem dX5_threadsOf_21 : decode cX5_threadsOf 21 = .ok (.ifCond .eq 9, 3) := by decide +kernel
theorem dX5_threadsOf_24 : decode cX5_threadsOf 24 = .ok (.iconst 1, 1) := by decide +kernel
theorem dX5_threadsOf_25 : decode cX5_threadsOf 25 = .ok (.iload_n 3, 1) := by decide +kernel
theorem dX5_threadsOf_26 : decode cX5_threadsOf 26 = .ok (.ishl, 1) := by decide +kernel
theorem dX5_threadsOf_27 : decode cX5_threadsOf 27 = .ok (.goto 4, 3) := by decide +kernel
theorem dX5_threadsOf_30 : decode cX5_threadsOf 30 = .ok (.iconst 0, 1) := by decide +kernel
theorem dX5_threadsOf_31 : decode cX5_threadsOf 31 = .ok (.ior, 1) := by decide +kernel
theorem dX5_threadsOf_32 : decode cX5_threadsOf 32 = .ok (.istore_n 2, 1) := by decide +kernel
theorem dX5_threadsOf_33 : decode cX5_threadsOf 33 = .ok (.iinc 3 1, 3) := by decide +kernel
theorem dX5_threadsOf_36 : decode cX5_threadsOf 36 = .ok (.goto (-32), 3) := by decide +kernel
theorem dX5_threadsOf_39 : decode cX5_threadsOf 39 = .ok (.iload_n 2, 1) := by decide +kernel
theorem dX5_threadsOf_40 : decode cX5_threadsOf 40 = .ok (.ireturn, 1) := by decide +kernel
set_option maxRecDepth 20000 in
theorem ggX5_change_X5_isRing : GoodIn wsX5_change wsX5_isRing := goodIn_r _ [5, 6, 7, 4, 8] (by decide +kernel) (by decide +kernel)
set_option maxRecDepth 20000 in
theorem gX5_change_X5_isRing : GoodIn wsX5_change (va_wsS RX5 87 yX5_isRing wsX5_isRing) := goodIn_app (goodIn_of _ (by decide +kernel)) ggX5_change_X5_isRing
set_option maxRecDepth 20000 in
theorem ggX5_change_X5_holds : GoodIn wsX5_change wsX5_holds := goodIn_r _ [12, 13, 33, 34, 35, 36, 37, 38, 39, 40, 41, 42] (by decide +kernel) (by decide +kernel)
set_option maxRecDepth 20000 in
theorem gX5_change_X5_holds : GoodIn wsX5_change (wsV RX5 90 RX5 yX5_holds wsX5_holds) := goodIn_app (goodIn_of _ (by decide +kernel)) ggX5_change_X5_holds
set_option maxRecDepth 20000 in
theorem ggX5_change_X5_save : GoodIn wsX5_change wsX5_save := goodIn_r _ [17, 18, 19, 20, 21, 4, 22, 1, 33, 34, 35, 36, 37, 38, 39, 40, 41, 42] (by decide +kernel) (by decide +kernel)
set_option maxRecDepth 20000 in
theorem gX5_change_X5_save : GoodIn wsX5_change (wsV RX5 93 RX5 yX5_save wsX5_save) := goodIn_app (goodIn_of _ (by decide +kernel)) ggX5_change_X5_save
set_option maxRecDepth 20000 in
theorem ggX5_change_X5_threadsOf : GoodIn wsX5_change wsX5_threadsOf := goodIn_r _ [26, 1, 27, 28, 4, 29, 33, 34, 35, 36, 37, 38, 39, 40, 41, 42] (by decide +kernel) (by decide +kernel)
set_option maxRecDepth 20000 in
theorem gX5_change_X5_threadsOf : GoodIn wsX5_change (wsV RX5 99 RX5 yX5_threadsOf wsX5_threadsOf) := goodIn_app (goodIn_of _ (by decide +kernel)) ggX5_change_X5_threadsOf
set_option maxRecDepth 20000 in
theorem ggX5_change_X5_has : GoodIn wsX5_change wsX5_has := goodIn_r _ [29] (by decide +kernel) (by decide +kernel)
set_option maxRecDepth 20000 in
theorem gX5_change_X5_has : GoodIn wsX5_change (va_wsS RX5 31 yX5_has wsX5_has) := goodIn_app (goodIn_of _ (by decide +kernel)) ggX5_change_X5_has
set_option maxRecDepth 20000 in
theorem ggX5_change_X5_ones : GoodIn wsX5_change wsX5_ones := goodIn_r _ [32] (by decide +kernel) (by decide +kernel)
set_option maxRecDepth 20000 in
theorem gX5_change_X5_ones : GoodIn wsX5_change (va_wsS RX5 59 yX5_ones wsX5_ones) := goodIn_app (goodIn_of _ (by decide +kernel)) ggX5_change_X5_ones
theorem dX5_change_0 : decode cX5_change 0 = .ok (.aload_n 0, 1) := by decide +kernel
theorem dX5_change_1 : decode cX5_change 1 = .ok (.iload_n 1, 1) := by decide +kernel
theorem dX5_change_2 : decode cX5_change 2 = .ok (.invokestatic 87, 3) := by decide +kernel
theorem dX5_change_5 : decode cX5_change 5 = .ok (.ifCond .eq 7, 3) := by decide +kernel
theorem dX5_change_8 : decode cX5_change 8 = .ok (.iconst 0, 1) := by decide +kernel
theorem dX5_change_9 : decode cX5_change 9 = .ok (.goto 4, 3) := by decide +kernel
theorem dX5_change_12 : decode cX5_change 12 = .ok (.iconst 1, 1) := by decide +kernel
theorem dX5_change_13 : decode cX5_change 13 = .ok (.invokevirtual 90, 3) := by decide +kernel
theorem dX5_change_16 : decode cX5_change 16 = .ok (.ifCond .ne 5, 3) := by decide +kernel
theorem dX5_change_19 : decode cX5_change 19 = .ok (.iconst 0, 1) := by decide +kernel
theorem dX5_change_20 : decode cX5_change 20 = .ok (.ireturn, 1) := by decide +kernel
theorem dX5_change_21 : decode cX5_change 21 = .ok (.aload_n 0, 1) := by decide +kernel
theorem dX5_change_22 : decode cX5_change 22 = .ok (.invokevirtual 93, 3) := by decide +kernel
theorem dX5_change_25 : decode cX5_change 25 = .ok (.aload_n 0, 1) := by decide +kernel
theorem dX5_change_26 : decode cX5_change 26 = .ok (.iload_n 1, 1) := by decide +kernel
theorem dX5_change_27 : decode cX5_change 27 = .ok (.invokevirtual 99, 3) := by decide +kernel
theorem dX5_change_30 : decode cX5_change 30 = .ok (.istore_n 2, 1) := by decide +kernel
theorem dX5_change_31 : decode cX5_change 31 = .ok (.iconst 0, 1) := by decide +kernel
theorem dX5_change_32 : decode cX5_change 32 = .ok (.istore_n 3, 1) := by decide +kernel
theorem dX5_change_33 : decode cX5_change 33 = .ok (.iload_n 3, 1) := by decide +kernel
theorem dX5_change_34 : decode cX5_change 34 = .ok (.bipush 16, 2) := by decide +kernel
theorem dX5_change_36 : decode cX5_change 36 = .ok (.if_icmp .ge 33, 3) := by decide +kernel
theorem dX5_change_39 : decode cX5_change 39 = .ok (.aload_n 0, 1) := by decide +kernel
theorem dX5_change_40 : decode cX5_change 40 = .ok (.getfield 7, 3) := by decide +kernel
theorem dX5_change_43 : decode cX5_change 43 = .ok (.iload_n 3, 1) := by decide +kernel
theorem dX5_change_44 : decode cX5_change 44 = .ok (.dup2, 1) := by decide +kernel
theorem dX5_change_45 : decode cX5_change 45 = .ok (.iaload, 1) := by decide +kernel
theorem dX5_change_46 : decode cX5_change 46 = .ok (.iload_n 2, 1) := by decide +kernel
theorem dX5_change_47 : decode cX5_change 47 = .ok (.iload_n 3, 1) := by decide +kernel
theorem dX5_change_48 : decode cX5_change 48 = .ok (.invokestatic 31, 3) := by decide +kernel
theorem dX5_change_51 : decode cX5_change 51 = .ok (.ifCond .eq 9, 3) := by decide +kernel
theorem dX5_change_54 : decode cX5_change 54 = .ok (.iconst 1, 1) := by decide +kernel
theorem dX5_change_55 : decode cX5_change 55 = .ok (.iload_n 1, 1) := by decide +kernel
theorem dX5_change_56 : decode cX5_change 56 = .ok (.ishl, 1) := by decide +kernel
theorem dX5_change_57 : decode cX5_change 57 = .ok (.goto 4, 3) := by decide +kernel
theorem dX5_change_60 : decode cX5_change 60 = .ok (.iconst 0, 1) := by decide +kernel
theorem dX5_change_61 : decode cX5_change 61 = .ok (.isub, 1) := by decide +kernel
theorem dX5_change_62 : decode cX5_change 62 = .ok (.iastore, 1) := by decide +kernel
theorem dX5_change_63 : decode cX5_change 63 = .ok (.iinc 3 1, 3) := by decide +kernel
theorem dX5_change_66 : decode cX5_change 66 = .ok (.goto (-33), 3) := by decide +kernel
theorem dX5_change_69 : decode cX5_change 69 = .ok (.aload_n 0, 1) := by decide +kernel
theorem dX5_change_70 : decode cX5_change 70 = .ok (.getfield 7, 3) := by decide +kernel
theorem dX5_change_73 : decode cX5_change 73 = .ok (.bipush 17, 2) := by decide +kernel
theorem dX5_change_75 : decode cX5_change 75 = .ok (.iload_n 1, 1) := by decide +kernel
theorem dX5_change_76 : decode cX5_change 76 = .ok (.iadd, 1) := by decide +kernel
theorem dX5_change_77 : decode cX5_change 77 = .ok (.iconst 0, 1) := by decide +kernel
theorem dX5_change_78 : decode cX5_change 78 = .ok (.iastore, 1) := by decide +kernel
theorem dX5_change_79 : decode cX5_change 79 = .ok (.iload_n 2, 1) := by decide +kernel
theorem dX5_change_80 : decode cX5_change 80 = .ok (.invokestatic 59, 3) := by decide +kernel
theorem dX5_change_83 : decode cX5_change 83 = .ok (.ireturn, 1) := by decide +kernel
set_option maxRecDepth 20000 in
theorem ggX5_set_X5_in : GoodIn wsX5_set wsX5_in := goodIn_r _ [5] (by decide +kernel) (by decide +kernel)
set_option maxRecDepth 20000 in
theorem gX5_set_X5_in : GoodIn wsX5_set (va_wsS RX5 27 yX5_in wsX5_in) := goodIn_app (goodIn_of _ (by decide +kernel)) ggX5_set_X5_in
set_option maxRecDepth 20000 in
theorem ggX5_set_X5_holds : GoodIn wsX5_set wsX5_holds := goodIn_r _ [9, 10, 20, 21, 22, 23, 24, 25, 26, 27, 28, 29] (by decide +kernel) (by decide +kernel)
set_option maxRecDepth 20000 in
theorem gX5_set_X5_holds : GoodIn wsX5_set (wsV RX5 90 RX5 yX5_holds wsX5_holds) := goodIn_app (goodIn_of _ (by decide +kernel)) ggX5_set_X5_holds
set_option maxRecDepth 20000 in
theorem ggX5_set_X5_save : GoodIn wsX5_set wsX5_save := goodIn_r _ [14, 15, 16, 17, 18, 4, 19, 1, 20, 21, 22, 23, 24, 25, 26, 27, 28, 29] (by decide +kernel) (by decide +kernel)
set_option maxRecDepth 20000 in
theorem gX5_set_X5_save : GoodIn wsX5_set (wsV RX5 93 RX5 yX5_save wsX5_save) := goodIn_app (goodIn_of _ (by decide +kernel)) ggX5_set_X5_save
theorem dX5_set_0 : decode cX5_set 0 = .ok (.aload_n 0, 1) := by decide +kernel
theorem dX5_set_1 : decode cX5_set 1 = .ok (.iload_n 1, 1) := by decide +kernel
theorem dX5_set_2 : decode cX5_set 2 = .ok (.iconst 0, 1) := by decide +kernel
theorem dX5_set_3 : decode cX5_set 3 = .ok (.iconst 1, 1) := by decide +kernel
theorem dX5_set_4 : decode cX5_set 4 = .ok (.invokestatic 27, 3) := by decide +kernel
theorem dX5_set_7 : decode cX5_set 7 = .ok (.ifCond .ne 7, 3) := by decide +kernel
theorem dX5_set_10 : decode cX5_set 10 = .ok (.iconst 1, 1) := by decide +kernel
theorem dX5_set_11 : decode cX5_set 11 = .ok (.goto 28, 3) := by decide +kernel
theorem dX5_set_14 : decode cX5_set 14 = .ok (.iload_n 2, 1) := by decide +kernel
theorem dX5_set_15 : decode cX5_set 15 = .ok (.iconst 1, 1) := by decide +kernel
theorem dX5_set_16 : decode cX5_set 16 = .ok (.iload_n 1, 1) := by decide +kernel
theorem dX5_set_17 : decode cX5_set 17 = .ok (.isub, 1) := by decide +kernel
theorem dX5_set_18 : decode cX5_set 18 = .ok (.iload_n 1, 1) := by decide +kernel
theorem dX5_set_19 : decode cX5_set 19 = .ok (.ifCond .ne 8, 3) := by decide +kernel
theorem dX5_set_22 : decode cX5_set 22 = .ok (.bipush 8, 2) := by decide +kernel
theorem dX5_set_24 : decode cX5_set 24 = .ok (.goto 4, 3) := by decide +kernel
theorem dX5_set_27 : decode cX5_set 27 = .ok (.iconst 1, 1) := by decide +kernel
theorem dX5_set_28 : decode cX5_set 28 = .ok (.invokestatic 27, 3) := by decide +kernel
theorem dX5_set_31 : decode cX5_set 31 = .ok (.ifCond .ne 7, 3) := by decide +kernel
theorem dX5_set_34 : decode cX5_set 34 = .ok (.iconst 2, 1) := by decide +kernel
theorem dX5_set_35 : decode cX5_set 35 = .ok (.goto 4, 3) := by decide +kernel
theorem dX5_set_38 : decode cX5_set 38 = .ok (.iconst 0, 1) := by decide +kernel
theorem dX5_set_39 : decode cX5_set 39 = .ok (.invokevirtual 90, 3) := by decide +kernel
theorem dX5_set_42 : decode cX5_set 42 = .ok (.ifCond .ne 5, 3) := by decide +kernel
theorem dX5_set_45 : decode cX5_set 45 = .ok (.iconst 0, 1) := by decide +kernel
theorem dX5_set_46 : decode cX5_set 46 = .ok (.ireturn, 1) := by decide +kernel
theorem dX5_set_47 : decode cX5_set 47 = .ok (.aload_n 0, 1) := by decide +kernel
theorem dX5_set_48 : decode cX5_set 48 = .ok (.invokevirtual 93, 3) := by decide +kernel
theorem dX5_set_51 : decode cX5_set 51 = .ok (.aload_n 0, 1) := by decide +kernel
theorem dX5_set_52 : decode cX5_set 52 = .ok (.getfield 7, 3) := by decide +kernel
theorem dX5_set_55 : decode cX5_set 55 = .ok (.bipush 25, 2) := by decide +kernel
theorem dX5_set_57 : decode cX5_set 57 = .ok (.iload_n 1, 1) := by decide +kernel
theorem dX5_set_58 : decode cX5_set 58 = .ok (.iadd, 1) := by decide +kernel
theorem dX5_set_59 : decode cX5_set 59 = .ok (.iaload, 1) := by decide +kernel
theorem dX5_set_60 : decode cX5_set 60 = .ok (.istore_n 3, 1) := by decide +kernel
theorem dX5_set_61 : decode cX5_set 61 = .ok (.aload_n 0, 1) := by decide +kernel
theorem dX5_set_62 : decode cX5_set 62 = .ok (.getfield 7, 3) := by decide +kernel
theorem dX5_set_65 : decode cX5_set 65 = .ok (.bipush 25, 2) := by decide +kernel
theorem dX5_set_67 : decode cX5_set 67 = .ok (.iload_n 1, 1) := by decide +kernel
theorem dX5_set_68 : decode cX5_set 68 = .ok (.iadd, 1) := by decide +kernel
theorem dX5_set_69 : decode cX5_set 69 = .ok (.iload_n 2, 1) := by decide +kernel
theorem dX5_set_70 : decode cX5_set 70 = .ok (.iastore, 1) := by decide +kernel
theorem dX5_set_71 : decode cX5_set 71 = .ok (.iload_n 3, 1) := by decide +kernel
theorem dX5_set_72 : decode cX5_set 72 = .ok (.ireturn, 1) := by decide +kernel
set_option maxRecDepth 20000 in
theorem ggX5_read_X5_isThread : GoodIn wsX5_read wsX5_isThread := goodIn_r _ [4, 5, 6, 3, 7] (by decide +kernel) (by decide +kernel)
set_option maxRecDepth 20000 in
theorem gX5_read_X5_isThread : GoodIn wsX5_read (va_wsS RX5 83 yX5_isThread wsX5_isThread) := goodIn_app (goodIn_of _ (by decide +kernel)) ggX5_read_X5_isThread
set_option maxRecDepth 20000 in
theorem ggX5_read_X5_holds : GoodIn wsX5_read wsX5_holds := goodIn_r _ [11, 12, 58, 59, 60, 61, 62, 63, 64, 65, 66, 67] (by decide +kernel) (by decide +kernel)
set_option maxRecDepth 20000 in
theorem gX5_read_X5_holds : GoodIn wsX5_read (wsV RX5 90 RX5 yX5_holds wsX5_holds) := goodIn_app (goodIn_of _ (by decide +kernel)) ggX5_read_X5_holds
set_option maxRecDepth 20000 in
theorem ggX5_read_X5_save : GoodIn wsX5_read wsX5_save := goodIn_r _ [16, 17, 18, 19, 20, 3, 21, 22, 58, 59, 60, 61, 62, 63, 64, 65, 66, 67] (by decide +kernel) (by decide +kernel)
set_option maxRecDepth 20000 in
theorem gX5_read_X5_save : GoodIn wsX5_read (wsV RX5 93 RX5 yX5_save wsX5_save) := goodIn_app (goodIn_of _ (by decide +kernel)) ggX5_read_X5_save
set_option maxRecDepth 20000 in
theorem ggX5_read_X5_reads : GoodIn wsX5_read wsX5_reads := goodIn_r _ [26, 22, 27, 28, 29, 3, 30, 31, 32, 33, 34, 35, 36, 37, 38, 39, 40, 41, 42, 43, 44, 45, 46, 47, 48, 49, 50, 51, 52, 53, 54, 55, 56, 57, 58, 59, 60, 61, 62, 63, 64, 65, 66, 67] (by decide +kernel) (by decide +kernel)
set_option maxRecDepth 20000 in
theorem gX5_read_X5_reads : GoodIn wsX5_read (wsV RX5 66 RX5 yX5_reads wsX5_reads) := goodIn_app (goodIn_of _ (by decide +kernel)) ggX5_read_X5_reads
theorem dX5_read_0 : decode cX5_read 0 = .ok (.aload_n 0, 1) := by decide +kernel
theorem dX5_read_1 : decode cX5_read 1 = .ok (.iload_n 1, 1) := by decide +kernel
theorem dX5_read_2 : decode cX5_read 2 = .ok (.invokestatic 83, 3) := by decide +kernel
theorem dX5_read_5 : decode cX5_read 5 = .ok (.ifCond .eq 7, 3) := by decide +kernel
theorem dX5_read_8 : decode cX5_read 8 = .ok (.iconst 0, 1) := by decide +kernel
theorem dX5_read_9 : decode cX5_read 9 = .ok (.goto 4, 3) := by decide +kernel
theorem dX5_read_12 : decode cX5_read 12 = .ok (.iconst 1, 1) := by decide +kernel
theorem dX5_read_13 : decode cX5_read 13 = .ok (.invokevirtual 90, 3) := by decide +kernel
theorem dX5_read_16 : decode cX5_read 16 = .ok (.ifCond .ne 5, 3) := by decide +kernel
theorem dX5_read_19 : decode cX5_read 19 = .ok (.iconst 0, 1) := by decide +kernel
theorem dX5_read_20 : decode cX5_read 20 = .ok (.ireturn, 1) := by decide +kernel
theorem dX5_read_21 : decode cX5_read 21 = .ok (.aload_n 0, 1) := by decide +kernel
theorem dX5_read_22 : decode cX5_read 22 = .ok (.invokevirtual 93, 3) := by decide +kernel
theorem dX5_read_25 : decode cX5_read 25 = .ok (.aload_n 0, 1) := by decide +kernel
theorem dX5_read_26 : decode cX5_read 26 = .ok (.iconst 0, 1) := by decide +kernel
theorem dX5_read_27 : decode cX5_read 27 = .ok (.iload_n 1, 1) := by decide +kernel
theorem dX5_read_28 : decode cX5_read 28 = .ok (.invokevirtual 66, 3) := by decide +kernel
theorem dX5_read_31 : decode cX5_read 31 = .ok (.ireturn, 1) := by decide +kernel
set_option maxRecDepth 20000 in
theorem ggX5_start_X5_save : GoodIn wsX5_start wsX5_save := goodIn_r _ [7, 8, 9, 10, 11, 6, 12, 2, 13, 14, 15, 16, 17, 18, 19, 20, 21, 22] (by decide +kernel) (by decide +kernel)
set_option maxRecDepth 20000 in
theorem gX5_start_X5_save : GoodIn wsX5_start (wsV RX5 93 RX5 yX5_save wsX5_save) := goodIn_app (goodIn_of _ (by decide +kernel)) ggX5_start_X5_save
theorem dX5_start_0 : decode cX5_start 0 = .ok (.aload_n 0, 1) := by decide +kernel
theorem dX5_start_1 : decode cX5_start 1 = .ok (.iconst 0, 1) := by decide +kernel
theorem dX5_start_2 : decode cX5_start 2 = .ok (.putfield 23, 3) := by decide +kernel
theorem dX5_start_5 : decode cX5_start 5 = .ok (.aload_n 0, 1) := by decide +kernel
theorem dX5_start_6 : decode cX5_start 6 = .ok (.invokevirtual 93, 3) := by decide +kernel
theorem dX5_start_9 : decode cX5_start 9 = .ok (.aload_n 0, 1) := by decide +kernel
theorem dX5_start_10 : decode cX5_start 10 = .ok (.getfield 7, 3) := by decide +kernel
theorem dX5_start_13 : decode cX5_start 13 = .ok (.bipush 34, 2) := by decide +kernel
theorem dX5_start_15 : decode cX5_start 15 = .ok (.iaload, 1) := by decide +kernel
theorem dX5_start_16 : decode cX5_start 16 = .ok (.istore_n 1, 1) := by decide +kernel
theorem dX5_start_17 : decode cX5_start 17 = .ok (.bipush 27, 2) := by decide +kernel
theorem dX5_start_19 : decode cX5_start 19 = .ok (.istore_n 2, 1) := by decide +kernel
theorem dX5_start_20 : decode cX5_start 20 = .ok (.iload_n 2, 1) := by decide +kernel
theorem dX5_start_21 : decode cX5_start 21 = .ok (.bipush 44, 2) := by decide +kernel
theorem dX5_start_23 : decode cX5_start 23 = .ok (.if_icmp .ge 16, 3) := by decide +kernel
theorem dX5_start_26 : decode cX5_start 26 = .ok (.aload_n 0, 1) := by decide +kernel
theorem dX5_start_27 : decode cX5_start 27 = .ok (.getfield 7, 3) := by decide +kernel
theorem dX5_start_30 : decode cX5_start 30 = .ok (.iload_n 2, 1) := by decide +kernel
theorem dX5_start_31 : decode cX5_start 31 = .ok (.iconst 0, 1) := by decide +kernel
theorem dX5_start_32 : decode cX5_start 32 = .ok (.iastore, 1) := by decide +kernel
theorem dX5_start_33 : decode cX5_start 33 = .ok (.iinc 2 1, 3) := by decide +kernel
theorem dX5_start_36 : decode cX5_start 36 = .ok (.goto (-16), 3) := by decide +kernel
theorem dX5_start_39 : decode cX5_start 39 = .ok (.aload_n 0, 1) := by decide +kernel
theorem dX5_start_40 : decode cX5_start 40 = .ok (.getfield 7, 3) := by decide +kernel
theorem dX5_start_43 : decode cX5_start 43 = .ok (.bipush 33, 2) := by decide +kernel
theorem dX5_start_45 : decode cX5_start 45 = .ok (.iconst 1, 1) := by decide +kernel
theorem dX5_start_46 : decode cX5_start 46 = .ok (.iastore, 1) := by decide +kernel
theorem dX5_start_47 : decode cX5_start 47 = .ok (.iload_n 1, 1) := by decide +kernel
theorem dX5_start_48 : decode cX5_start 48 = .ok (.ireturn, 1) := by decide +kernel
set_option maxRecDepth 20000 in
theorem ggX5_go_X5_in : GoodIn wsX5_go wsX5_in := goodIn_r _ [4] (by decide +kernel) (by decide +kernel)
set_option maxRecDepth 20000 in
theorem gX5_go_X5_in : GoodIn wsX5_go (va_wsS RX5 27 yX5_in wsX5_in) := goodIn_app (goodIn_of _ (by decide +kernel)) ggX5_go_X5_in
set_option maxRecDepth 20000 in
theorem ggX5_go_X5_holds : GoodIn wsX5_go wsX5_holds := goodIn_r _ [8, 9, 67, 68, 69, 70, 71, 72, 73, 74, 75, 76] (by decide +kernel) (by decide +kernel)
set_option maxRecDepth 20000 in
theorem gX5_go_X5_holds : GoodIn wsX5_go (wsV RX5 90 RX5 yX5_holds wsX5_holds) := goodIn_app (goodIn_of _ (by decide +kernel)) ggX5_go_X5_holds
set_option maxRecDepth 20000 in
theorem ggX5_go_X5_save : GoodIn wsX5_go wsX5_save := goodIn_r _ [13, 14, 15, 16, 17, 3, 18, 19, 67, 68, 69, 70, 71, 72, 73, 74, 75, 76] (by decide +kernel) (by decide +kernel)
set_option maxRecDepth 20000 in
theorem gX5_go_X5_save : GoodIn wsX5_go (wsV RX5 93 RX5 yX5_save wsX5_save) := goodIn_app (goodIn_of _ (by decide +kernel)) ggX5_go_X5_save
set_option maxRecDepth 20000 in
theorem ggX5_go_X5_goes : GoodIn wsX5_go wsX5_goes := goodIn_r _ [23, 19, 24, 25, 26, 3, 27, 28, 29, 30, 31, 32, 33, 34, 35, 36, 37, 38, 39, 40, 41, 42, 43, 44, 45, 46, 47, 48, 49, 50, 51, 52, 53, 54, 55, 56, 57, 58, 59, 60, 61, 62, 63, 64, 65, 66, 67, 68, 69, 70, 71, 72, 73, 74, 75, 76] (by decide +kernel) (by decide +kernel)
set_option maxRecDepth 20000 in
theorem gX5_go_X5_goes : GoodIn wsX5_go (wsV RX5 102 RX5 yX5_goes wsX5_goes) := goodIn_app (goodIn_of _ (by decide +kernel)) ggX5_go_X5_goes
theorem dX5_go_0 : decode cX5_go 0 = .ok (.aload_n 0, 1) := by decide +kernel
theorem dX5_go_1 : decode cX5_go 1 = .ok (.iload_n 1, 1) := by decide +kernel
theorem dX5_go_2 : decode cX5_go 2 = .ok (.iconst 1, 1) := by decide +kernel
theorem dX5_go_3 : decode cX5_go 3 = .ok (.bipush 99, 2) := by decide +kernel
theorem dX5_go_5 : decode cX5_go 5 = .ok (.invokestatic 27, 3) := by decide +kernel
theorem dX5_go_8 : decode cX5_go 8 = .ok (.ifCond .eq 7, 3) := by decide +kernel
theorem dX5_go_11 : decode cX5_go 11 = .ok (.iconst 0, 1) := by decide +kernel
theorem dX5_go_12 : decode cX5_go 12 = .ok (.goto 4, 3) := by decide +kernel
theorem dX5_go_15 : decode cX5_go 15 = .ok (.iconst 1, 1) := by decide +kernel
theorem dX5_go_16 : decode cX5_go 16 = .ok (.invokevirtual 90, 3) := by decide +kernel
theorem dX5_go_19 : decode cX5_go 19 = .ok (.ifCond .ne 5, 3) := by decide +kernel
theorem dX5_go_22 : decode cX5_go 22 = .ok (.iconst 0, 1) := by decide +kernel
theorem dX5_go_23 : decode cX5_go 23 = .ok (.ireturn, 1) := by decide +kernel
theorem dX5_go_24 : decode cX5_go 24 = .ok (.aload_n 0, 1) := by decide +kernel
theorem dX5_go_25 : decode cX5_go 25 = .ok (.invokevirtual 93, 3) := by decide +kernel
theorem dX5_go_28 : decode cX5_go 28 = .ok (.aload_n 0, 1) := by decide +kernel
theorem dX5_go_29 : decode cX5_go 29 = .ok (.iconst 0, 1) := by decide +kernel
theorem dX5_go_30 : decode cX5_go 30 = .ok (.iload_n 1, 1) := by decide +kernel
theorem dX5_go_31 : decode cX5_go 31 = .ok (.invokevirtual 102, 3) := by decide +kernel
theorem dX5_go_34 : decode cX5_go 34 = .ok (.ireturn, 1) := by decide +kernel
set_option maxRecDepth 20000 in
theorem ggX5_append_X5_in : GoodIn wsX5_append wsX5_in := goodIn_r _ [6] (by decide +kernel) (by decide +kernel)
set_option maxRecDepth 20000 in
theorem gX5_append_X5_in : GoodIn wsX5_append (va_wsS RX5 27 yX5_in wsX5_in) := goodIn_app (goodIn_of _ (by decide +kernel)) ggX5_append_X5_in
set_option maxRecDepth 20000 in
theorem ggX5_append_X5_holds : GoodIn wsX5_append wsX5_holds := goodIn_r _ [10, 11, 12, 13, 14, 15, 16, 17, 18, 19, 20, 21] (by decide +kernel) (by decide +kernel)
set_option maxRecDepth 20000 in
theorem gX5_append_X5_holds : GoodIn wsX5_append (wsV RX5 90 RX5 yX5_holds wsX5_holds) := goodIn_app (goodIn_of _ (by decide +kernel)) ggX5_append_X5_holds
theorem dX5_append_0 : decode cX5_append 0 = .ok (.aload_n 0, 1) := by decide +kernel
theorem dX5_append_1 : decode cX5_append 1 = .ok (.iload_n 1, 1) := by decide +kernel
theorem dX5_append_2 : decode cX5_append 2 = .ok (.bipush 33, 2) := by decide +kernel
theorem dX5_append_4 : decode cX5_append 4 = .ok (.bipush 126, 2) := by decide +kernel
theorem dX5_append_6 : decode cX5_append 6 = .ok (.invokestatic 27, 3) := by decide +kernel
theorem dX5_append_9 : decode cX5_append 9 = .ok (.ifCond .ne 7, 3) := by decide +kernel
theorem dX5_append_12 : decode cX5_append 12 = .ok (.iconst 1, 1) := by decide +kernel
theorem dX5_append_13 : decode cX5_append 13 = .ok (.goto 17, 3) := by decide +kernel
theorem dX5_append_16 : decode cX5_append 16 = .ok (.aload_n 0, 1) := by decide +kernel
theorem dX5_append_17 : decode cX5_append 17 = .ok (.getfield 105, 3) := by decide +kernel
theorem dX5_append_20 : decode cX5_append 20 = .ok (.bipush 60, 2) := by decide +kernel
theorem dX5_append_22 : decode cX5_append 22 = .ok (.if_icmp .ne 7, 3) := by decide +kernel
theorem dX5_append_25 : decode cX5_append 25 = .ok (.iconst 2, 1) := by decide +kernel
theorem dX5_append_26 : decode cX5_append 26 = .ok (.goto 4, 3) := by decide +kernel
theorem dX5_append_29 : decode cX5_append 29 = .ok (.iconst 0, 1) := by decide +kernel
theorem dX5_append_30 : decode cX5_append 30 = .ok (.invokevirtual 90, 3) := by decide +kernel
theorem dX5_append_33 : decode cX5_append 33 = .ok (.ifCond .ne 5, 3) := by decide +kernel
theorem dX5_append_36 : decode cX5_append 36 = .ok (.iconst 0, 1) := by decide +kernel
theorem dX5_append_37 : decode cX5_append 37 = .ok (.ireturn, 1) := by decide +kernel
theorem dX5_append_38 : decode cX5_append 38 = .ok (.aload_n 0, 1) := by decide +kernel
theorem dX5_append_39 : decode cX5_append 39 = .ok (.getfield 17, 3) := by decide +kernel
theorem dX5_append_42 : decode cX5_append 42 = .ok (.aload_n 0, 1) := by decide +kernel
theorem dX5_append_43 : decode cX5_append 43 = .ok (.getfield 105, 3) := by decide +kernel
theorem dX5_append_46 : decode cX5_append 46 = .ok (.iload_n 1, 1) := by decide +kernel
theorem dX5_append_47 : decode cX5_append 47 = .ok (.iastore, 1) := by decide +kernel
theorem dX5_append_48 : decode cX5_append 48 = .ok (.aload_n 0, 1) := by decide +kernel
theorem dX5_append_49 : decode cX5_append 49 = .ok (.dup, 1) := by decide +kernel
theorem dX5_append_50 : decode cX5_append 50 = .ok (.getfield 105, 3) := by decide +kernel
theorem dX5_append_53 : decode cX5_append 53 = .ok (.iconst 1, 1) := by decide +kernel
theorem dX5_append_54 : decode cX5_append 54 = .ok (.iadd, 1) := by decide +kernel
theorem dX5_append_55 : decode cX5_append 55 = .ok (.putfield 105, 3) := by decide +kernel
theorem dX5_append_58 : decode cX5_append 58 = .ok (.aload_n 0, 1) := by decide +kernel
theorem dX5_append_59 : decode cX5_append 59 = .ok (.getfield 105, 3) := by decide +kernel
theorem dX5_append_62 : decode cX5_append 62 = .ok (.ireturn, 1) := by decide +kernel
theorem dX5_clearBuffer_0 : decode cX5_clearBuffer 0 = .ok (.aload_n 0, 1) := by decide +kernel
theorem dX5_clearBuffer_1 : decode cX5_clearBuffer 1 = .ok (.iconst 0, 1) := by decide +kernel
theorem dX5_clearBuffer_2 : decode cX5_clearBuffer 2 = .ok (.putfield 23, 3) := by decide +kernel
theorem dX5_clearBuffer_5 : decode cX5_clearBuffer 5 = .ok (.aload_n 0, 1) := by decide +kernel
theorem dX5_clearBuffer_6 : decode cX5_clearBuffer 6 = .ok (.getfield 105, 3) := by decide +kernel
theorem dX5_clearBuffer_9 : decode cX5_clearBuffer 9 = .ok (.istore_n 1, 1) := by decide +kernel
theorem dX5_clearBuffer_10 : decode cX5_clearBuffer 10 = .ok (.aload_n 0, 1) := by decide +kernel
theorem dX5_clearBuffer_11 : decode cX5_clearBuffer 11 = .ok (.iconst 0, 1) := by decide +kernel
theorem dX5_clearBuffer_12 : decode cX5_clearBuffer 12 = .ok (.putfield 105, 3) := by decide +kernel
theorem dX5_clearBuffer_15 : decode cX5_clearBuffer 15 = .ok (.iload_n 1, 1) := by decide +kernel
theorem dX5_clearBuffer_16 : decode cX5_clearBuffer 16 = .ok (.ireturn, 1) := by decide +kernel
set_option maxRecDepth 20000 in
theorem ggX5_digit_X5_in : GoodIn wsX5_digit wsX5_in := goodIn_r _ [7] (by decide +kernel) (by decide +kernel)
set_option maxRecDepth 20000 in
theorem gX5_digit_X5_in : GoodIn wsX5_digit (va_wsS RX5 27 yX5_in wsX5_in) := goodIn_app (goodIn_of _ (by decide +kernel)) ggX5_digit_X5_in
theorem dX5_digit_0 : decode cX5_digit 0 = .ok (.aload_n 0, 1) := by decide +kernel
theorem dX5_digit_1 : decode cX5_digit 1 = .ok (.getfield 108, 3) := by decide +kernel
theorem dX5_digit_4 : decode cX5_digit 4 = .ok (.aload_n 0, 1) := by decide +kernel
theorem dX5_digit_5 : decode cX5_digit 5 = .ok (.getfield 105, 3) := by decide +kernel
theorem dX5_digit_8 : decode cX5_digit 8 = .ok (.if_icmp .ge 15, 3) := by decide +kernel
theorem dX5_digit_11 : decode cX5_digit 11 = .ok (.aload_n 0, 1) := by decide +kernel
theorem dX5_digit_12 : decode cX5_digit 12 = .ok (.getfield 17, 3) := by decide +kernel
theorem dX5_digit_15 : decode cX5_digit 15 = .ok (.aload_n 0, 1) := by decide +kernel
theorem dX5_digit_16 : decode cX5_digit 16 = .ok (.getfield 108, 3) := by decide +kernel
theorem dX5_digit_19 : decode cX5_digit 19 = .ok (.iaload, 1) := by decide +kernel
theorem dX5_digit_20 : decode cX5_digit 20 = .ok (.goto 4, 3) := by decide +kernel
theorem dX5_digit_23 : decode cX5_digit 23 = .ok (.iconst 0, 1) := by decide +kernel
theorem dX5_digit_24 : decode cX5_digit 24 = .ok (.istore_n 1, 1) := by decide +kernel
theorem dX5_digit_25 : decode cX5_digit 25 = .ok (.iload_n 1, 1) := by decide +kernel
theorem dX5_digit_26 : decode cX5_digit 26 = .ok (.bipush 48, 2) := by decide +kernel
theorem dX5_digit_28 : decode cX5_digit 28 = .ok (.bipush 57, 2) := by decide +kernel
theorem dX5_digit_30 : decode cX5_digit 30 = .ok (.invokestatic 27, 3) := by decide +kernel
theorem dX5_digit_33 : decode cX5_digit 33 = .ok (.ifCond .eq 10, 3) := by decide +kernel
theorem dX5_digit_36 : decode cX5_digit 36 = .ok (.iload_n 1, 1) := by decide +kernel
theorem dX5_digit_37 : decode cX5_digit 37 = .ok (.bipush 48, 2) := by decide +kernel
theorem dX5_digit_39 : decode cX5_digit 39 = .ok (.isub, 1) := by decide +kernel
theorem dX5_digit_40 : decode cX5_digit 40 = .ok (.goto 25, 3) := by decide +kernel
theorem dX5_digit_43 : decode cX5_digit 43 = .ok (.iload_n 1, 1) := by decide +kernel
theorem dX5_digit_44 : decode cX5_digit 44 = .ok (.bipush 97, 2) := by decide +kernel
theorem dX5_digit_46 : decode cX5_digit 46 = .ok (.bipush 102, 2) := by decide +kernel
theorem dX5_digit_48 : decode cX5_digit 48 = .ok (.invokestatic 27, 3) := by decide +kernel
theorem dX5_digit_51 : decode cX5_digit 51 = .ok (.ifCond .eq 13, 3) := by decide +kernel
theorem dX5_digit_54 : decode cX5_digit 54 = .ok (.iload_n 1, 1) := by decide +kernel
theorem dX5_digit_55 : decode cX5_digit 55 = .ok (.bipush 97, 2) := by decide +kernel
theorem dX5_digit_57 : decode cX5_digit 57 = .ok (.isub, 1) := by decide +kernel
theorem dX5_digit_58 : decode cX5_digit 58 = .ok (.bipush 10, 2) := by decide +kernel
theorem dX5_digit_60 : decode cX5_digit 60 = .ok (.iadd, 1) := by decide +kernel
theorem dX5_digit_61 : decode cX5_digit 61 = .ok (.goto 4, 3) := by decide +kernel
theorem dX5_digit_64 : decode cX5_digit 64 = .ok (.iconst (-1), 1) := by decide +kernel
theorem dX5_digit_65 : decode cX5_digit 65 = .ok (.istore_n 2, 1) := by decide +kernel
theorem dX5_digit_66 : decode cX5_digit 66 = .ok (.aload_n 0, 1) := by decide +kernel
theorem dX5_digit_67 : decode cX5_digit 67 = .ok (.dup, 1) := by decide +kernel
theorem dX5_digit_68 : decode cX5_digit 68 = .ok (.getfield 108, 3) := by decide +kernel
theorem dX5_digit_71 : decode cX5_digit 71 = .ok (.iload_n 2, 1) := by decide +kernel
theorem dX5_digit_72 : decode cX5_digit 72 = .ok (.iconst (-1), 1) := by decide +kernel
theorem dX5_digit_73 : decode cX5_digit 73 = .ok (.if_icmp .ne 7, 3) := by decide +kernel
theorem dX5_digit_76 : decode cX5_digit 76 = .ok (.iconst 0, 1) := by decide +kernel
theorem dX5_digit_77 : decode cX5_digit 77 = .ok (.goto 4, 3) := by decide +kernel
theorem dX5_digit_80 : decode cX5_digit 80 = .ok (.iconst 1, 1) := by decide +kernel
theorem dX5_digit_81 : decode cX5_digit 81 = .ok (.iadd, 1) := by decide +kernel
theorem dX5_digit_82 : decode cX5_digit 82 = .ok (.putfield 108, 3) := by decide +kernel
theorem dX5_digit_85 : decode cX5_digit 85 = .ok (.iload_n 2, 1) := by decide +kernel
theorem dX5_digit_86 : decode cX5_digit 86 = .ok (.ireturn, 1) := by decide +kernel
set_option maxRecDepth 20000 in
theorem ggX5_isWord_X5_digit : GoodIn wsX5_isWord wsX5_digit := goodIn_r _ [7, 8, 9, 10, 11, 12, 6, 13, 14, 15, 16, 17, 18, 19, 20, 21, 22, 23] (by decide +kernel) (by decide +kernel)
set_option maxRecDepth 20000 in
theorem gX5_isWord_X5_digit : GoodIn wsX5_isWord (wsV RX5 111 RX5 yX5_digit wsX5_digit) := goodIn_app (goodIn_of _ (by decide +kernel)) ggX5_isWord_X5_digit
theorem dX5_isWord_0 : decode cX5_isWord 0 = .ok (.aload_n 0, 1) := by decide +kernel
theorem dX5_isWord_1 : decode cX5_isWord 1 = .ok (.invokevirtual 111, 3) := by decide +kernel
theorem dX5_isWord_4 : decode cX5_isWord 4 = .ok (.istore_n 1, 1) := by decide +kernel
theorem dX5_isWord_5 : decode cX5_isWord 5 = .ok (.iload_n 1, 1) := by decide +kernel
theorem dX5_isWord_6 : decode cX5_isWord 6 = .ok (.iconst (-1), 1) := by decide +kernel
theorem dX5_isWord_7 : decode cX5_isWord 7 = .ok (.if_icmp .ne 7, 3) := by decide +kernel
theorem dX5_isWord_10 : decode cX5_isWord 10 = .ok (.iconst (-1), 1) := by decide +kernel
theorem dX5_isWord_11 : decode cX5_isWord 11 = .ok (.goto 7, 3) := by decide +kernel
theorem dX5_isWord_14 : decode cX5_isWord 14 = .ok (.aload_n 0, 1) := by decide +kernel
theorem dX5_isWord_15 : decode cX5_isWord 15 = .ok (.invokevirtual 111, 3) := by decide +kernel
theorem dX5_isWord_18 : decode cX5_isWord 18 = .ok (.istore_n 2, 1) := by decide +kernel
theorem dX5_isWord_19 : decode cX5_isWord 19 = .ok (.iload_n 2, 1) := by decide +kernel
theorem dX5_isWord_20 : decode cX5_isWord 20 = .ok (.iconst (-1), 1) := by decide +kernel
theorem dX5_isWord_21 : decode cX5_isWord 21 = .ok (.if_icmp .ne 5, 3) := by decide +kernel
theorem dX5_isWord_24 : decode cX5_isWord 24 = .ok (.iconst 0, 1) := by decide +kernel
theorem dX5_isWord_25 : decode cX5_isWord 25 = .ok (.ireturn, 1) := by decide +kernel
theorem dX5_isWord_26 : decode cX5_isWord 26 = .ok (.aload_n 0, 1) := by decide +kernel
theorem dX5_isWord_27 : decode cX5_isWord 27 = .ok (.getfield 20, 3) := by decide +kernel
theorem dX5_isWord_30 : decode cX5_isWord 30 = .ok (.aload_n 0, 1) := by decide +kernel
theorem dX5_isWord_31 : decode cX5_isWord 31 = .ok (.getfield 115, 3) := by decide +kernel
theorem dX5_isWord_34 : decode cX5_isWord 34 = .ok (.bipush 16, 2) := by decide +kernel
theorem dX5_isWord_36 : decode cX5_isWord 36 = .ok (.iload_n 1, 1) := by decide +kernel
theorem dX5_isWord_37 : decode cX5_isWord 37 = .ok (.imul, 1) := by decide +kernel
theorem dX5_isWord_38 : decode cX5_isWord 38 = .ok (.iload_n 2, 1) := by decide +kernel
theorem dX5_isWord_39 : decode cX5_isWord 39 = .ok (.iadd, 1) := by decide +kernel
theorem dX5_isWord_40 : decode cX5_isWord 40 = .ok (.iastore, 1) := by decide +kernel
theorem dX5_isWord_41 : decode cX5_isWord 41 = .ok (.aload_n 0, 1) := by decide +kernel
theorem dX5_isWord_42 : decode cX5_isWord 42 = .ok (.dup, 1) := by decide +kernel
theorem dX5_isWord_43 : decode cX5_isWord 43 = .ok (.getfield 115, 3) := by decide +kernel
theorem dX5_isWord_46 : decode cX5_isWord 46 = .ok (.iconst 1, 1) := by decide +kernel
theorem dX5_isWord_47 : decode cX5_isWord 47 = .ok (.iadd, 1) := by decide +kernel
theorem dX5_isWord_48 : decode cX5_isWord 48 = .ok (.putfield 115, 3) := by decide +kernel
theorem dX5_isWord_51 : decode cX5_isWord 51 = .ok (.iconst 1, 1) := by decide +kernel
theorem dX5_isWord_52 : decode cX5_isWord 52 = .ok (.ireturn, 1) := by decide +kernel
set_option maxRecDepth 20000 in
theorem ggX5_isProgram_X5_isWord : GoodIn wsX5_isProgram wsX5_isWord := goodIn_r _ [9, 10, 2, 11, 12, 13, 8, 14, 1, 3, 4, 15, 16, 17, 18, 19, 20, 21, 22, 23, 24, 25, 26, 27] (by decide +kernel) (by decide +kernel)
set_option maxRecDepth 20000 in
theorem gX5_isProgram_X5_isWord : GoodIn wsX5_isProgram (wsV RX5 118 RX5 yX5_isWord wsX5_isWord) := goodIn_app (goodIn_of _ (by decide +kernel)) ggX5_isProgram_X5_isWord
theorem dX5_isProgram_0 : decode cX5_isProgram 0 = .ok (.aload_n 0, 1) := by decide +kernel
theorem dX5_isProgram_1 : decode cX5_isProgram 1 = .ok (.iconst 0, 1) := by decide +kernel
theorem dX5_isProgram_2 : decode cX5_isProgram 2 = .ok (.putfield 108, 3) := by decide +kernel
theorem dX5_isProgram_5 : decode cX5_isProgram 5 = .ok (.aload_n 0, 1) := by decide +kernel
theorem dX5_isProgram_6 : decode cX5_isProgram 6 = .ok (.iconst 0, 1) := by decide +kernel
theorem dX5_isProgram_7 : decode cX5_isProgram 7 = .ok (.putfield 115, 3) := by decide +kernel
theorem dX5_isProgram_10 : decode cX5_isProgram 10 = .ok (.aload_n 0, 1) := by decide +kernel
theorem dX5_isProgram_11 : decode cX5_isProgram 11 = .ok (.invokevirtual 118, 3) := by decide +kernel
theorem dX5_isProgram_14 : decode cX5_isProgram 14 = .ok (.ifCond .eq 58, 3) := by decide +kernel
theorem dX5_isProgram_17 : decode cX5_isProgram 17 = .ok (.aload_n 0, 1) := by decide +kernel
theorem dX5_isProgram_18 : decode cX5_isProgram 18 = .ok (.getfield 108, 3) := by decide +kernel
theorem dX5_isProgram_21 : decode cX5_isProgram 21 = .ok (.aload_n 0, 1) := by decide +kernel
theorem dX5_isProgram_22 : decode cX5_isProgram 22 = .ok (.getfield 105, 3) := by decide +kernel
theorem dX5_isProgram_25 : decode cX5_isProgram 25 = .ok (.if_icmp .ne 5, 3) := by decide +kernel
theorem dX5_isProgram_28 : decode cX5_isProgram 28 = .ok (.iconst 1, 1) := by decide +kernel
theorem dX5_isProgram_29 : decode cX5_isProgram 29 = .ok (.ireturn, 1) := by decide +kernel
theorem dX5_isProgram_30 : decode cX5_isProgram 30 = .ok (.aload_n 0, 1) := by decide +kernel
theorem dX5_isProgram_31 : decode cX5_isProgram 31 = .ok (.getfield 115, 3) := by decide +kernel
theorem dX5_isProgram_34 : decode cX5_isProgram 34 = .ok (.bipush 16, 2) := by decide +kernel
theorem dX5_isProgram_36 : decode cX5_isProgram 36 = .ok (.if_icmp .ne 5, 3) := by decide +kernel
theorem dX5_isProgram_39 : decode cX5_isProgram 39 = .ok (.iconst 0, 1) := by decide +kernel
theorem dX5_isProgram_40 : decode cX5_isProgram 40 = .ok (.ireturn, 1) := by decide +kernel
theorem dX5_isProgram_41 : decode cX5_isProgram 41 = .ok (.aload_n 0, 1) := by decide +kernel
theorem dX5_isProgram_42 : decode cX5_isProgram 42 = .ok (.dup, 1) := by decide +kernel
theorem dX5_isProgram_43 : decode cX5_isProgram 43 = .ok (.getfield 108, 3) := by decide +kernel
theorem dX5_isProgram_46 : decode cX5_isProgram 46 = .ok (.aload_n 0, 1) := by decide +kernel
theorem dX5_isProgram_47 : decode cX5_isProgram 47 = .ok (.getfield 17, 3) := by decide +kernel
theorem dX5_isProgram_50 : decode cX5_isProgram 50 = .ok (.aload_n 0, 1) := by decide +kernel
theorem dX5_isProgram_51 : decode cX5_isProgram 51 = .ok (.getfield 108, 3) := by decide +kernel
theorem dX5_isProgram_54 : decode cX5_isProgram 54 = .ok (.iaload, 1) := by decide +kernel
theorem dX5_isProgram_55 : decode cX5_isProgram 55 = .ok (.bipush 46, 2) := by decide +kernel
theorem dX5_isProgram_57 : decode cX5_isProgram 57 = .ok (.if_icmp .ne 7, 3) := by decide +kernel
theorem dX5_isProgram_60 : decode cX5_isProgram 60 = .ok (.iconst 1, 1) := by decide +kernel
theorem dX5_isProgram_61 : decode cX5_isProgram 61 = .ok (.goto 4, 3) := by decide +kernel
theorem dX5_isProgram_64 : decode cX5_isProgram 64 = .ok (.iconst 0, 1) := by decide +kernel
theorem dX5_isProgram_65 : decode cX5_isProgram 65 = .ok (.iadd, 1) := by decide +kernel
theorem dX5_isProgram_66 : decode cX5_isProgram 66 = .ok (.putfield 108, 3) := by decide +kernel
theorem dX5_isProgram_69 : decode cX5_isProgram 69 = .ok (.goto (-59), 3) := by decide +kernel
theorem dX5_isProgram_72 : decode cX5_isProgram 72 = .ok (.iconst 0, 1) := by decide +kernel
theorem dX5_isProgram_73 : decode cX5_isProgram 73 = .ok (.ireturn, 1) := by decide +kernel
set_option maxRecDepth 20000 in
theorem ggX5_firstError_X5_isProgram : GoodIn wsX5_firstError wsX5_isProgram := goodIn_r _ [7, 2, 8, 9, 10, 11, 12, 13, 6, 14, 15, 16, 17, 18, 19, 20, 21, 22, 23, 24, 25, 26, 27, 28, 29, 30, 31, 32] (by decide +kernel) (by decide +kernel)
set_option maxRecDepth 20000 in
theorem gX5_firstError_X5_isProgram : GoodIn wsX5_firstError (wsV RX5 122 RX5 yX5_isProgram wsX5_isProgram) := goodIn_app (goodIn_of _ (by decide +kernel)) ggX5_firstError_X5_isProgram
theorem dX5_firstError_0 : decode cX5_firstError 0 = .ok (.aload_n 0, 1) := by decide +kernel
theorem dX5_firstError_1 : decode cX5_firstError 1 = .ok (.iconst 0, 1) := by decide +kernel
theorem dX5_firstError_2 : decode cX5_firstError 2 = .ok (.putfield 23, 3) := by decide +kernel
theorem dX5_firstError_5 : decode cX5_firstError 5 = .ok (.aload_n 0, 1) := by decide +kernel
theorem dX5_firstError_6 : decode cX5_firstError 6 = .ok (.invokevirtual 122, 3) := by decide +kernel
theorem dX5_firstError_9 : decode cX5_firstError 9 = .ok (.pop, 1) := by decide +kernel
theorem dX5_firstError_10 : decode cX5_firstError 10 = .ok (.aload_n 0, 1) := by decide +kernel
theorem dX5_firstError_11 : decode cX5_firstError 11 = .ok (.getfield 108, 3) := by decide +kernel
theorem dX5_firstError_14 : decode cX5_firstError 14 = .ok (.ireturn, 1) := by decide +kernel
set_option maxRecDepth 20000 in
theorem ggX5_loads_X5_lays : GoodIn wsX5_loads wsX5_lays := goodIn_r _ [7, 8, 9, 10, 11, 6, 12, 13, 14, 15, 16, 17, 18, 19, 20, 21, 22, 23, 24, 25, 26, 27, 28, 29, 30, 31, 32] (by decide +kernel) (by decide +kernel)
set_option maxRecDepth 20000 in
theorem gX5_loads_X5_lays : GoodIn wsX5_loads (wsV RX5 96 RX5 yX5_lays wsX5_lays) := goodIn_app (goodIn_of _ (by decide +kernel)) ggX5_loads_X5_lays
theorem dX5_loads_0 : decode cX5_loads 0 = .ok (.iconst 0, 1) := by decide +kernel
theorem dX5_loads_1 : decode cX5_loads 1 = .ok (.istore_n 3, 1) := by decide +kernel
theorem dX5_loads_2 : decode cX5_loads 2 = .ok (.iconst 0, 1) := by decide +kernel
theorem dX5_loads_3 : decode cX5_loads 3 = .ok (.istore 4, 2) := by decide +kernel
theorem dX5_loads_5 : decode cX5_loads 5 = .ok (.iload 4, 2) := by decide +kernel
theorem dX5_loads_7 : decode cX5_loads 7 = .ok (.aload_n 0, 1) := by decide +kernel
theorem dX5_loads_8 : decode cX5_loads 8 = .ok (.getfield 115, 3) := by decide +kernel
theorem dX5_loads_11 : decode cX5_loads 11 = .ok (.if_icmp .ge 31, 3) := by decide +kernel
theorem dX5_loads_14 : decode cX5_loads 14 = .ok (.iload_n 3, 1) := by decide +kernel
theorem dX5_loads_15 : decode cX5_loads 15 = .ok (.aload_n 0, 1) := by decide +kernel
theorem dX5_loads_16 : decode cX5_loads 16 = .ok (.iload_n 1, 1) := by decide +kernel
theorem dX5_loads_17 : decode cX5_loads 17 = .ok (.iload_n 2, 1) := by decide +kernel
theorem dX5_loads_18 : decode cX5_loads 18 = .ok (.iload 4, 2) := by decide +kernel
theorem dX5_loads_20 : decode cX5_loads 20 = .ok (.iadd, 1) := by decide +kernel
theorem dX5_loads_21 : decode cX5_loads 21 = .ok (.bipush 16, 2) := by decide +kernel
theorem dX5_loads_23 : decode cX5_loads 23 = .ok (.irem, 1) := by decide +kernel
theorem dX5_loads_24 : decode cX5_loads 24 = .ok (.aload_n 0, 1) := by decide +kernel
theorem dX5_loads_25 : decode cX5_loads 25 = .ok (.getfield 20, 3) := by decide +kernel
theorem dX5_loads_28 : decode cX5_loads 28 = .ok (.iload 4, 2) := by decide +kernel
theorem dX5_loads_30 : decode cX5_loads 30 = .ok (.iaload, 1) := by decide +kernel
theorem dX5_loads_31 : decode cX5_loads 31 = .ok (.invokevirtual 96, 3) := by decide +kernel
theorem dX5_loads_34 : decode cX5_loads 34 = .ok (.iadd, 1) := by decide +kernel
theorem dX5_loads_35 : decode cX5_loads 35 = .ok (.istore_n 3, 1) := by decide +kernel
theorem dX5_loads_36 : decode cX5_loads 36 = .ok (.iinc 4 1, 3) := by decide +kernel
theorem dX5_loads_39 : decode cX5_loads 39 = .ok (.goto (-34), 3) := by decide +kernel
theorem dX5_loads_42 : decode cX5_loads 42 = .ok (.iload_n 3, 1) := by decide +kernel
theorem dX5_loads_43 : decode cX5_loads 43 = .ok (.ireturn, 1) := by decide +kernel
set_option maxRecDepth 20000 in
theorem ggX5_load_X5_isThread : GoodIn wsX5_load wsX5_isThread := goodIn_r _ [5, 6, 7, 4, 8] (by decide +kernel) (by decide +kernel)
set_option maxRecDepth 20000 in
theorem gX5_load_X5_isThread : GoodIn wsX5_load (va_wsS RX5 83 yX5_isThread wsX5_isThread) := goodIn_app (goodIn_of _ (by decide +kernel)) ggX5_load_X5_isThread
set_option maxRecDepth 20000 in
theorem ggX5_load_X5_isProgram : GoodIn wsX5_load wsX5_isProgram := goodIn_r _ [12, 13, 14, 1, 15, 16, 17, 18, 4, 19, 20, 21, 22, 23, 24, 6, 7, 8, 62, 63, 64, 65, 66, 67, 68, 69, 70, 71] (by decide +kernel) (by decide +kernel)
set_option maxRecDepth 20000 in
theorem gX5_load_X5_isProgram : GoodIn wsX5_load (wsV RX5 122 RX5 yX5_isProgram wsX5_isProgram) := goodIn_app (goodIn_of _ (by decide +kernel)) ggX5_load_X5_isProgram
set_option maxRecDepth 20000 in
theorem ggX5_load_X5_holds : GoodIn wsX5_load wsX5_holds := goodIn_r _ [28, 29, 62, 63, 64, 65, 66, 67, 68, 69, 70, 71] (by decide +kernel) (by decide +kernel)
set_option maxRecDepth 20000 in
theorem gX5_load_X5_holds : GoodIn wsX5_load (wsV RX5 90 RX5 yX5_holds wsX5_holds) := goodIn_app (goodIn_of _ (by decide +kernel)) ggX5_load_X5_holds
set_option maxRecDepth 20000 in
theorem ggX5_load_X5_save : GoodIn wsX5_load wsX5_save := goodIn_r _ [33, 34, 35, 36, 37, 4, 38, 39, 62, 63, 64, 65, 66, 67, 68, 69, 70, 71] (by decide +kernel) (by decide +kernel)
set_option maxRecDepth 20000 in
theorem gX5_load_X5_save : GoodIn wsX5_load (wsV RX5 93 RX5 yX5_save wsX5_save) := goodIn_app (goodIn_of _ (by decide +kernel)) ggX5_load_X5_save
set_option maxRecDepth 20000 in
theorem ggX5_load_X5_loads : GoodIn wsX5_load wsX5_loads := goodIn_r _ [43, 14, 20, 44, 45, 46, 4, 47, 39, 48, 49, 50, 51, 52, 53, 54, 55, 56, 57, 58, 59, 60, 61, 62, 63, 64, 65, 66, 67, 68, 69, 70, 71] (by decide +kernel) (by decide +kernel)
set_option maxRecDepth 20000 in
theorem gX5_load_X5_loads : GoodIn wsX5_load (wsV RX5 125 RX5 yX5_loads wsX5_loads) := goodIn_app (goodIn_of _ (by decide +kernel)) ggX5_load_X5_loads
theorem dX5_load_0 : decode cX5_load 0 = .ok (.aload_n 0, 1) := by decide +kernel
theorem dX5_load_1 : decode cX5_load 1 = .ok (.iload_n 1, 1) := by decide +kernel
theorem dX5_load_2 : decode cX5_load 2 = .ok (.invokestatic 83, 3) := by decide +kernel
theorem dX5_load_5 : decode cX5_load 5 = .ok (.ifCond .ne 7, 3) := by decide +kernel
theorem dX5_load_8 : decode cX5_load 8 = .ok (.iconst 1, 1) := by decide +kernel
theorem dX5_load_9 : decode cX5_load 9 = .ok (.goto 15, 3) := by decide +kernel
theorem dX5_load_12 : decode cX5_load 12 = .ok (.aload_n 0, 1) := by decide +kernel
theorem dX5_load_13 : decode cX5_load 13 = .ok (.invokevirtual 122, 3) := by decide +kernel
theorem dX5_load_16 : decode cX5_load 16 = .ok (.ifCond .ne 7, 3) := by decide +kernel
theorem dX5_load_19 : decode cX5_load 19 = .ok (.iconst 2, 1) := by decide +kernel
theorem dX5_load_20 : decode cX5_load 20 = .ok (.goto 4, 3) := by decide +kernel
theorem dX5_load_23 : decode cX5_load 23 = .ok (.iconst 0, 1) := by decide +kernel
theorem dX5_load_24 : decode cX5_load 24 = .ok (.invokevirtual 90, 3) := by decide +kernel
theorem dX5_load_27 : decode cX5_load 27 = .ok (.ifCond .ne 5, 3) := by decide +kernel
theorem dX5_load_30 : decode cX5_load 30 = .ok (.iconst 0, 1) := by decide +kernel
theorem dX5_load_31 : decode cX5_load 31 = .ok (.ireturn, 1) := by decide +kernel
