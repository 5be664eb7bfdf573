set_option maxRecDepth 20000 in
theorem ggX0_init_X0_begin : GoodIn wsX0_init wsX0_begin := goodIn_r _ [11, 5, 6, 12, 13, 14, 15, 16, 17, 18, 19, 20, 21, 22, 23] (by decide +kernel) (by decide +kernel)
set_option maxRecDepth 20000 in
theorem gX0_init_X0_begin : GoodIn wsX0_init (wsV RX0 18 RX0 yX0_begin wsX0_begin) := goodIn_app (goodIn_of _ (by decide +kernel)) ggX0_init_X0_begin
theorem dX0_init_0 : decode cX0_init 0 = .ok (.aload_n 0, 1) := by decide +kernel
theorem dX0_init_1 : decode cX0_init 1 = .ok (.invokespecial 3, 3) := by decide +kernel
theorem dX0_init_4 : decode cX0_init 4 = .ok (.aload_n 0, 1) := by decide +kernel
theorem dX0_init_5 : decode cX0_init 5 = .ok (.iconst 4, 1) := by decide +kernel
theorem dX0_init_6 : decode cX0_init 6 = .ok (.newarray .int, 2) := by decide +kernel
theorem dX0_init_8 : decode cX0_init 8 = .ok (.putfield 11, 3) := by decide +kernel
theorem dX0_init_11 : decode cX0_init 11 = .ok (.aload_n 0, 1) := by decide +kernel
theorem dX0_init_12 : decode cX0_init 12 = .ok (.bipush 8, 2) := by decide +kernel
theorem dX0_init_14 : decode cX0_init 14 = .ok (.newarray .int, 2) := by decide +kernel
theorem dX0_init_16 : decode cX0_init 16 = .ok (.putfield 15, 3) := by decide +kernel
theorem dX0_init_19 : decode cX0_init 19 = .ok (.aload_n 0, 1) := by decide +kernel
theorem dX0_init_20 : decode cX0_init 20 = .ok (.invokevirtual 18, 3) := by decide +kernel
theorem dX0_init_23 : decode cX0_init 23 = .ok (.return_, 1) := by decide +kernel
theorem dX0_begin_0 : decode cX0_begin 0 = .ok (.iconst 0, 1) := by decide +kernel
theorem dX0_begin_1 : decode cX0_begin 1 = .ok (.istore_n 1, 1) := by decide +kernel
theorem dX0_begin_2 : decode cX0_begin 2 = .ok (.iload_n 1, 1) := by decide +kernel
theorem dX0_begin_3 : decode cX0_begin 3 = .ok (.iconst 4, 1) := by decide +kernel
theorem dX0_begin_4 : decode cX0_begin 4 = .ok (.if_icmp .ge 16, 3) := by decide +kernel
theorem dX0_begin_7 : decode cX0_begin 7 = .ok (.aload_n 0, 1) := by decide +kernel
theorem dX0_begin_8 : decode cX0_begin 8 = .ok (.getfield 11, 3) := by decide +kernel
theorem dX0_begin_11 : decode cX0_begin 11 = .ok (.iload_n 1, 1) := by decide +kernel
theorem dX0_begin_12 : decode cX0_begin 12 = .ok (.iconst 0, 1) := by decide +kernel
theorem dX0_begin_13 : decode cX0_begin 13 = .ok (.iastore, 1) := by decide +kernel
theorem dX0_begin_14 : decode cX0_begin 14 = .ok (.iinc 1 1, 3) := by decide +kernel
theorem dX0_begin_17 : decode cX0_begin 17 = .ok (.goto (-15), 3) := by decide +kernel
theorem dX0_begin_20 : decode cX0_begin 20 = .ok (.iconst 0, 1) := by decide +kernel
theorem dX0_begin_21 : decode cX0_begin 21 = .ok (.istore_n 1, 1) := by decide +kernel
theorem dX0_begin_22 : decode cX0_begin 22 = .ok (.iload_n 1, 1) := by decide +kernel
theorem dX0_begin_23 : decode cX0_begin 23 = .ok (.bipush 8, 2) := by decide +kernel
theorem dX0_begin_25 : decode cX0_begin 25 = .ok (.if_icmp .ge 16, 3) := by decide +kernel
theorem dX0_begin_28 : decode cX0_begin 28 = .ok (.aload_n 0, 1) := by decide +kernel
theorem dX0_begin_29 : decode cX0_begin 29 = .ok (.getfield 15, 3) := by decide +kernel
theorem dX0_begin_32 : decode cX0_begin 32 = .ok (.iload_n 1, 1) := by decide +kernel
theorem dX0_begin_33 : decode cX0_begin 33 = .ok (.iconst (-1), 1) := by decide +kernel
theorem dX0_begin_34 : decode cX0_begin 34 = .ok (.iastore, 1) := by decide +kernel
theorem dX0_begin_35 : decode cX0_begin 35 = .ok (.iinc 1 1, 3) := by decide +kernel
theorem dX0_begin_38 : decode cX0_begin 38 = .ok (.goto (-16), 3) := by decide +kernel
theorem dX0_begin_41 : decode cX0_begin 41 = .ok (.aload_n 0, 1) := by decide +kernel
theorem dX0_begin_42 : decode cX0_begin 42 = .ok (.iconst 0, 1) := by decide +kernel
theorem dX0_begin_43 : decode cX0_begin 43 = .ok (.putfield 21, 3) := by decide +kernel
theorem dX0_begin_46 : decode cX0_begin 46 = .ok (.aload_n 0, 1) := by decide +kernel
theorem dX0_begin_47 : decode cX0_begin 47 = .ok (.iconst 0, 1) := by decide +kernel
theorem dX0_begin_48 : decode cX0_begin 48 = .ok (.putfield 25, 3) := by decide +kernel
theorem dX0_begin_51 : decode cX0_begin 51 = .ok (.aload_n 0, 1) := by decide +kernel
theorem dX0_begin_52 : decode cX0_begin 52 = .ok (.iconst 1, 1) := by decide +kernel
theorem dX0_begin_53 : decode cX0_begin 53 = .ok (.putfield 28, 3) := by decide +kernel
theorem dX0_begin_56 : decode cX0_begin 56 = .ok (.aload_n 0, 1) := by decide +kernel
theorem dX0_begin_57 : decode cX0_begin 57 = .ok (.iconst 0, 1) := by decide +kernel
theorem dX0_begin_58 : decode cX0_begin 58 = .ok (.putfield 32, 3) := by decide +kernel
theorem dX0_begin_61 : decode cX0_begin 61 = .ok (.aload_n 0, 1) := by decide +kernel
theorem dX0_begin_62 : decode cX0_begin 62 = .ok (.iconst 0, 1) := by decide +kernel
theorem dX0_begin_63 : decode cX0_begin 63 = .ok (.putfield 35, 3) := by decide +kernel
theorem dX0_begin_66 : decode cX0_begin 66 = .ok (.return_, 1) := by decide +kernel
theorem dX0_becomeLike_0 : decode cX0_becomeLike 0 = .ok (.aload_n 1, 1) := by decide +kernel
theorem dX0_becomeLike_1 : decode cX0_becomeLike 1 = .ok (.getfield 11, 3) := by decide +kernel
theorem dX0_becomeLike_4 : decode cX0_becomeLike 4 = .ok (.iconst 0, 1) := by decide +kernel
theorem dX0_becomeLike_5 : decode cX0_becomeLike 5 = .ok (.aload_n 0, 1) := by decide +kernel
theorem dX0_becomeLike_6 : decode cX0_becomeLike 6 = .ok (.getfield 11, 3) := by decide +kernel
theorem dX0_becomeLike_9 : decode cX0_becomeLike 9 = .ok (.iconst 0, 1) := by decide +kernel
theorem dX0_becomeLike_10 : decode cX0_becomeLike 10 = .ok (.iconst 4, 1) := by decide +kernel
theorem dX0_becomeLike_11 : decode cX0_becomeLike 11 = .ok (.invokestatic 38, 3) := by decide +kernel
theorem dX0_becomeLike_14 : decode cX0_becomeLike 14 = .ok (.aload_n 1, 1) := by decide +kernel
theorem dX0_becomeLike_15 : decode cX0_becomeLike 15 = .ok (.getfield 15, 3) := by decide +kernel
theorem dX0_becomeLike_18 : decode cX0_becomeLike 18 = .ok (.iconst 0, 1) := by decide +kernel
theorem dX0_becomeLike_19 : decode cX0_becomeLike 19 = .ok (.aload_n 0, 1) := by decide +kernel
theorem dX0_becomeLike_20 : decode cX0_becomeLike 20 = .ok (.getfield 15, 3) := by decide +kernel
theorem dX0_becomeLike_23 : decode cX0_becomeLike 23 = .ok (.iconst 0, 1) := by decide +kernel
theorem dX0_becomeLike_24 : decode cX0_becomeLike 24 = .ok (.bipush 8, 2) := by decide +kernel
theorem dX0_becomeLike_26 : decode cX0_becomeLike 26 = .ok (.invokestatic 38, 3) := by decide +kernel
theorem dX0_becomeLike_29 : decode cX0_becomeLike 29 = .ok (.aload_n 0, 1) := by decide +kernel
theorem dX0_becomeLike_30 : decode cX0_becomeLike 30 = .ok (.aload_n 1, 1) := by decide +kernel
theorem dX0_becomeLike_31 : decode cX0_becomeLike 31 = .ok (.getfield 21, 3) := by decide +kernel
theorem dX0_becomeLike_34 : decode cX0_becomeLike 34 = .ok (.putfield 21, 3) := by decide +kernel
theorem dX0_becomeLike_37 : decode cX0_becomeLike 37 = .ok (.aload_n 0, 1) := by decide +kernel
theorem dX0_becomeLike_38 : decode cX0_becomeLike 38 = .ok (.aload_n 1, 1) := by decide +kernel
theorem dX0_becomeLike_39 : decode cX0_becomeLike 39 = .ok (.getfield 25, 3) := by decide +kernel
theorem dX0_becomeLike_42 : decode cX0_becomeLike 42 = .ok (.putfield 25, 3) := by decide +kernel
theorem dX0_becomeLike_45 : decode cX0_becomeLike 45 = .ok (.aload_n 0, 1) := by decide +kernel
theorem dX0_becomeLike_46 : decode cX0_becomeLike 46 = .ok (.aload_n 1, 1) := by decide +kernel
theorem dX0_becomeLike_47 : decode cX0_becomeLike 47 = .ok (.getfield 28, 3) := by decide +kernel
theorem dX0_becomeLike_50 : decode cX0_becomeLike 50 = .ok (.putfield 28, 3) := by decide +kernel
theorem dX0_becomeLike_53 : decode cX0_becomeLike 53 = .ok (.aload_n 0, 1) := by decide +kernel
theorem dX0_becomeLike_54 : decode cX0_becomeLike 54 = .ok (.aload_n 1, 1) := by decide +kernel
theorem dX0_becomeLike_55 : decode cX0_becomeLike 55 = .ok (.getfield 32, 3) := by decide +kernel
theorem dX0_becomeLike_58 : decode cX0_becomeLike 58 = .ok (.putfield 32, 3) := by decide +kernel
theorem dX0_becomeLike_61 : decode cX0_becomeLike 61 = .ok (.aload_n 0, 1) := by decide +kernel
theorem dX0_becomeLike_62 : decode cX0_becomeLike 62 = .ok (.aload_n 1, 1) := by decide +kernel
theorem dX0_becomeLike_63 : decode cX0_becomeLike 63 = .ok (.getfield 35, 3) := by decide +kernel
theorem dX0_becomeLike_66 : decode cX0_becomeLike 66 = .ok (.putfield 35, 3) := by decide +kernel
theorem dX0_becomeLike_69 : decode cX0_becomeLike 69 = .ok (.return_, 1) := by decide +kernel
set_option maxRecDepth 20000 in
theorem ggX0_obey_X0_tellCount : GoodIn wsX0_obey wsX0_tellCount := goodIn_r _ [10, 11, 4, 12, 13, 14, 15, 16, 17, 18, 19] (by decide +kernel) (by decide +kernel)
set_option maxRecDepth 20000 in
theorem gX0_obey_X0_tellCount : GoodIn wsX0_obey (wsV RX0 44 RX0 yX0_tellCount wsX0_tellCount) := goodIn_app (goodIn_of _ (by decide +kernel)) ggX0_obey_X0_tellCount
theorem dX0_obey_0 : decode cX0_obey 0 = .ok (.iload_n 1, 1) := by decide +kernel
theorem dX0_obey_1 : decode cX0_obey 1 = .ok (.bipush 32, 2) := by decide +kernel
theorem dX0_obey_3 : decode cX0_obey 3 = .ok (.idiv, 1) := by decide +kernel
theorem dX0_obey_4 : decode cX0_obey 4 = .ok (.istore_n 2, 1) := by decide +kernel
theorem dX0_obey_5 : decode cX0_obey 5 = .ok (.iload_n 1, 1) := by decide +kernel
theorem dX0_obey_6 : decode cX0_obey 6 = .ok (.bipush 32, 2) := by decide +kernel
theorem dX0_obey_8 : decode cX0_obey 8 = .ok (.irem, 1) := by decide +kernel
theorem dX0_obey_9 : decode cX0_obey 9 = .ok (.istore_n 3, 1) := by decide +kernel
theorem dX0_obey_10 : decode cX0_obey 10 = .ok (.aload_n 0, 1) := by decide +kernel
theorem dX0_obey_11 : decode cX0_obey 11 = .ok (.dup, 1) := by decide +kernel
theorem dX0_obey_12 : decode cX0_obey 12 = .ok (.getfield 32, 3) := by decide +kernel
theorem dX0_obey_15 : decode cX0_obey 15 = .ok (.iconst 1, 1) := by decide +kernel
theorem dX0_obey_16 : decode cX0_obey 16 = .ok (.iadd, 1) := by decide +kernel
theorem dX0_obey_17 : decode cX0_obey 17 = .ok (.putfield 32, 3) := by decide +kernel
theorem dX0_obey_20 : decode cX0_obey 20 = .ok (.aload_n 0, 1) := by decide +kernel
theorem dX0_obey_21 : decode cX0_obey 21 = .ok (.aload_n 0, 1) := by decide +kernel
theorem dX0_obey_22 : decode cX0_obey 22 = .ok (.getfield 21, 3) := by decide +kernel
theorem dX0_obey_25 : decode cX0_obey 25 = .ok (.iconst 1, 1) := by decide +kernel
theorem dX0_obey_26 : decode cX0_obey 26 = .ok (.iadd, 1) := by decide +kernel
theorem dX0_obey_27 : decode cX0_obey 27 = .ok (.bipush 16, 2) := by decide +kernel
theorem dX0_obey_29 : decode cX0_obey 29 = .ok (.irem, 1) := by decide +kernel
theorem dX0_obey_30 : decode cX0_obey 30 = .ok (.putfield 21, 3) := by decide +kernel
theorem dX0_obey_33 : decode cX0_obey 33 = .ok (.iload_n 2, 1) := by decide +kernel
theorem dX0_obey_34 : decode cX0_obey 34 = .ok (.tableswitch 154 0 6 #[42, 50, 58, 82, 97, 108, 133], 42) := by decide +kernel
theorem dX0_obey_76 : decode cX0_obey 76 = .ok (.aload_n 0, 1) := by decide +kernel
theorem dX0_obey_77 : decode cX0_obey 77 = .ok (.iconst 0, 1) := by decide +kernel
theorem dX0_obey_78 : decode cX0_obey 78 = .ok (.putfield 28, 3) := by decide +kernel
theorem dX0_obey_81 : decode cX0_obey 81 = .ok (.goto 111, 3) := by decide +kernel
theorem dX0_obey_84 : decode cX0_obey 84 = .ok (.aload_n 0, 1) := by decide +kernel
theorem dX0_obey_85 : decode cX0_obey 85 = .ok (.iload_n 3, 1) := by decide +kernel
theorem dX0_obey_86 : decode cX0_obey 86 = .ok (.putfield 25, 3) := by decide +kernel
theorem dX0_obey_89 : decode cX0_obey 89 = .ok (.goto 103, 3) := by decide +kernel
theorem dX0_obey_92 : decode cX0_obey 92 = .ok (.aload_n 0, 1) := by decide +kernel
theorem dX0_obey_93 : decode cX0_obey 93 = .ok (.aload_n 0, 1) := by decide +kernel
theorem dX0_obey_94 : decode cX0_obey 94 = .ok (.getfield 25, 3) := by decide +kernel
theorem dX0_obey_97 : decode cX0_obey 97 = .ok (.aload_n 0, 1) := by decide +kernel
theorem dX0_obey_98 : decode cX0_obey 98 = .ok (.getfield 11, 3) := by decide +kernel
theorem dX0_obey_101 : decode cX0_obey 101 = .ok (.iload_n 3, 1) := by decide +kernel
theorem dX0_obey_102 : decode cX0_obey 102 = .ok (.iconst 4, 1) := by decide +kernel
theorem dX0_obey_103 : decode cX0_obey 103 = .ok (.irem, 1) := by decide +kernel
theorem dX0_obey_104 : decode cX0_obey 104 = .ok (.iaload, 1) := by decide +kernel
theorem dX0_obey_105 : decode cX0_obey 105 = .ok (.iadd, 1) := by decide +kernel
theorem dX0_obey_106 : decode cX0_obey 106 = .ok (.sipush 256, 3) := by decide +kernel
theorem dX0_obey_109 : decode cX0_obey 109 = .ok (.irem, 1) := by decide +kernel
theorem dX0_obey_110 : decode cX0_obey 110 = .ok (.putfield 25, 3) := by decide +kernel
theorem dX0_obey_113 : decode cX0_obey 113 = .ok (.goto 79, 3) := by decide +kernel
theorem dX0_obey_116 : decode cX0_obey 116 = .ok (.aload_n 0, 1) := by decide +kernel
theorem dX0_obey_117 : decode cX0_obey 117 = .ok (.getfield 11, 3) := by decide +kernel
theorem dX0_obey_120 : decode cX0_obey 120 = .ok (.iload_n 3, 1) := by decide +kernel
theorem dX0_obey_121 : decode cX0_obey 121 = .ok (.iconst 4, 1) := by decide +kernel
theorem dX0_obey_122 : decode cX0_obey 122 = .ok (.irem, 1) := by decide +kernel
theorem dX0_obey_123 : decode cX0_obey 123 = .ok (.aload_n 0, 1) := by decide +kernel
theorem dX0_obey_124 : decode cX0_obey 124 = .ok (.getfield 25, 3) := by decide +kernel
theorem dX0_obey_127 : decode cX0_obey 127 = .ok (.iastore, 1) := by decide +kernel
theorem dX0_obey_128 : decode cX0_obey 128 = .ok (.goto 64, 3) := by decide +kernel
theorem dX0_obey_131 : decode cX0_obey 131 = .ok (.aload_n 0, 1) := by decide +kernel
theorem dX0_obey_132 : decode cX0_obey 132 = .ok (.iload_n 3, 1) := by decide +kernel
theorem dX0_obey_133 : decode cX0_obey 133 = .ok (.bipush 16, 2) := by decide +kernel
theorem dX0_obey_135 : decode cX0_obey 135 = .ok (.irem, 1) := by decide +kernel
theorem dX0_obey_136 : decode cX0_obey 136 = .ok (.putfield 21, 3) := by decide +kernel
theorem dX0_obey_139 : decode cX0_obey 139 = .ok (.goto 53, 3) := by decide +kernel
theorem dX0_obey_142 : decode cX0_obey 142 = .ok (.aload_n 0, 1) := by decide +kernel
theorem dX0_obey_143 : decode cX0_obey 143 = .ok (.aload_n 0, 1) := by decide +kernel
theorem dX0_obey_144 : decode cX0_obey 144 = .ok (.getfield 25, 3) := by decide +kernel
theorem dX0_obey_147 : decode cX0_obey 147 = .ok (.ifCond .ne 10, 3) := by decide +kernel
theorem dX0_obey_150 : decode cX0_obey 150 = .ok (.iload_n 3, 1) := by decide +kernel
theorem dX0_obey_151 : decode cX0_obey 151 = .ok (.bipush 16, 2) := by decide +kernel
theorem dX0_obey_153 : decode cX0_obey 153 = .ok (.irem, 1) := by decide +kernel
theorem dX0_obey_154 : decode cX0_obey 154 = .ok (.goto 7, 3) := by decide +kernel
theorem dX0_obey_157 : decode cX0_obey 157 = .ok (.aload_n 0, 1) := by decide +kernel
theorem dX0_obey_158 : decode cX0_obey 158 = .ok (.getfield 21, 3) := by decide +kernel
theorem dX0_obey_161 : decode cX0_obey 161 = .ok (.putfield 21, 3) := by decide +kernel
theorem dX0_obey_164 : decode cX0_obey 164 = .ok (.goto 28, 3) := by decide +kernel
theorem dX0_obey_167 : decode cX0_obey 167 = .ok (.aload_n 0, 1) := by decide +kernel
theorem dX0_obey_168 : decode cX0_obey 168 = .ok (.aload_n 0, 1) := by decide +kernel
theorem dX0_obey_169 : decode cX0_obey 169 = .ok (.getfield 25, 3) := by decide +kernel
theorem dX0_obey_172 : decode cX0_obey 172 = .ok (.sipush 256, 3) := by decide +kernel
theorem dX0_obey_175 : decode cX0_obey 175 = .ok (.iadd, 1) := by decide +kernel
theorem dX0_obey_176 : decode cX0_obey 176 = .ok (.iload_n 3, 1) := by decide +kernel
theorem dX0_obey_177 : decode cX0_obey 177 = .ok (.isub, 1) := by decide +kernel
theorem dX0_obey_178 : decode cX0_obey 178 = .ok (.sipush 256, 3) := by decide +kernel
theorem dX0_obey_181 : decode cX0_obey 181 = .ok (.irem, 1) := by decide +kernel
theorem dX0_obey_182 : decode cX0_obey 182 = .ok (.putfield 25, 3) := by decide +kernel
theorem dX0_obey_185 : decode cX0_obey 185 = .ok (.goto 7, 3) := by decide +kernel
theorem dX0_obey_188 : decode cX0_obey 188 = .ok (.aload_n 0, 1) := by decide +kernel
theorem dX0_obey_189 : decode cX0_obey 189 = .ok (.invokevirtual 44, 3) := by decide +kernel
theorem dX0_obey_192 : decode cX0_obey 192 = .ok (.return_, 1) := by decide +kernel
theorem dX0_tellCount_0 : decode cX0_tellCount 0 = .ok (.bipush 7, 2) := by decide +kernel
theorem dX0_tellCount_2 : decode cX0_tellCount 2 = .ok (.istore_n 1, 1) := by decide +kernel
theorem dX0_tellCount_3 : decode cX0_tellCount 3 = .ok (.iload_n 1, 1) := by decide +kernel
theorem dX0_tellCount_4 : decode cX0_tellCount 4 = .ok (.ifCond .le 23, 3) := by decide +kernel
theorem dX0_tellCount_7 : decode cX0_tellCount 7 = .ok (.aload_n 0, 1) := by decide +kernel
theorem dX0_tellCount_8 : decode cX0_tellCount 8 = .ok (.getfield 15, 3) := by decide +kernel
theorem dX0_tellCount_11 : decode cX0_tellCount 11 = .ok (.iload_n 1, 1) := by decide +kernel
theorem dX0_tellCount_12 : decode cX0_tellCount 12 = .ok (.aload_n 0, 1) := by decide +kernel
theorem dX0_tellCount_13 : decode cX0_tellCount 13 = .ok (.getfield 15, 3) := by decide +kernel
theorem dX0_tellCount_16 : decode cX0_tellCount 16 = .ok (.iload_n 1, 1) := by decide +kernel
theorem dX0_tellCount_17 : decode cX0_tellCount 17 = .ok (.iconst 1, 1) := by decide +kernel
theorem dX0_tellCount_18 : decode cX0_tellCount 18 = .ok (.isub, 1) := by decide +kernel
theorem dX0_tellCount_19 : decode cX0_tellCount 19 = .ok (.iaload, 1) := by decide +kernel
theorem dX0_tellCount_20 : decode cX0_tellCount 20 = .ok (.iastore, 1) := by decide +kernel
theorem dX0_tellCount_21 : decode cX0_tellCount 21 = .ok (.iinc 1 (-1), 3) := by decide +kernel
theorem dX0_tellCount_24 : decode cX0_tellCount 24 = .ok (.goto (-21), 3) := by decide +kernel
theorem dX0_tellCount_27 : decode cX0_tellCount 27 = .ok (.aload_n 0, 1) := by decide +kernel
theorem dX0_tellCount_28 : decode cX0_tellCount 28 = .ok (.getfield 15, 3) := by decide +kernel
theorem dX0_tellCount_31 : decode cX0_tellCount 31 = .ok (.iconst 0, 1) := by decide +kernel
theorem dX0_tellCount_32 : decode cX0_tellCount 32 = .ok (.aload_n 0, 1) := by decide +kernel
theorem dX0_tellCount_33 : decode cX0_tellCount 33 = .ok (.getfield 25, 3) := by decide +kernel
theorem dX0_tellCount_36 : decode cX0_tellCount 36 = .ok (.iastore, 1) := by decide +kernel
theorem dX0_tellCount_37 : decode cX0_tellCount 37 = .ok (.aload_n 0, 1) := by decide +kernel
theorem dX0_tellCount_38 : decode cX0_tellCount 38 = .ok (.dup, 1) := by decide +kernel
theorem dX0_tellCount_39 : decode cX0_tellCount 39 = .ok (.getfield 35, 3) := by decide +kernel
theorem dX0_tellCount_42 : decode cX0_tellCount 42 = .ok (.iconst 1, 1) := by decide +kernel
theorem dX0_tellCount_43 : decode cX0_tellCount 43 = .ok (.iadd, 1) := by decide +kernel
theorem dX0_tellCount_44 : decode cX0_tellCount 44 = .ok (.putfield 35, 3) := by decide +kernel
theorem dX0_tellCount_47 : decode cX0_tellCount 47 = .ok (.return_, 1) := by decide +kernel
set_option maxRecDepth 20000 in
theorem ggX1_init_X2_init : GoodIn wsX1_init wsX2_init := goodIn_r _ [10, 11, 2, 3, 12, 13, 14, 15, 16, 17, 18, 19, 20, 21, 22, 23, 24, 25, 26, 27, 28, 29, 30, 31, 32, 33, 34, 35, 39, 40, 41, 42, 43, 44, 45, 46, 47, 48, 49, 50, 51, 52, 53] (by decide +kernel) (by decide +kernel)
set_option maxRecDepth 20000 in
theorem gX1_init_X2_init : GoodIn wsX1_init (wsX2_init) := ggX1_init_X2_init
theorem dX1_init_0 : decode cX1_init 0 = .ok (.aload_n 0, 1) := by decide +kernel
theorem dX1_init_1 : decode cX1_init 1 = .ok (.invokespecial 1, 3) := by decide +kernel
theorem dX1_init_4 : decode cX1_init 4 = .ok (.aload_n 0, 1) := by decide +kernel
theorem dX1_init_5 : decode cX1_init 5 = .ok (.bipush 6, 2) := by decide +kernel
theorem dX1_init_7 : decode cX1_init 7 = .ok (.anewarray 9, 3) := by decide +kernel
theorem dX1_init_10 : decode cX1_init 10 = .ok (.putfield 11, 3) := by decide +kernel
theorem dX1_init_13 : decode cX1_init 13 = .ok (.iconst 0, 1) := by decide +kernel
theorem dX1_init_14 : decode cX1_init 14 = .ok (.istore_n 1, 1) := by decide +kernel
theorem dX1_init_15 : decode cX1_init 15 = .ok (.iload_n 1, 1) := by decide +kernel
theorem dX1_init_16 : decode cX1_init 16 = .ok (.bipush 6, 2) := by decide +kernel
theorem dX1_init_18 : decode cX1_init 18 = .ok (.if_icmp .ge 22, 3) := by decide +kernel
theorem dX1_init_21 : decode cX1_init 21 = .ok (.aload_n 0, 1) := by decide +kernel
theorem dX1_init_22 : decode cX1_init 22 = .ok (.getfield 11, 3) := by decide +kernel
theorem dX1_init_25 : decode cX1_init 25 = .ok (.iload_n 1, 1) := by decide +kernel
theorem dX1_init_26 : decode cX1_init 26 = .ok (.new 9, 3) := by decide +kernel
theorem dX1_init_29 : decode cX1_init 29 = .ok (.dup, 1) := by decide +kernel
theorem dX1_init_30 : decode cX1_init 30 = .ok (.invokespecial 15, 3) := by decide +kernel
theorem dX1_init_33 : decode cX1_init 33 = .ok (.aastore, 1) := by decide +kernel
theorem dX1_init_34 : decode cX1_init 34 = .ok (.iinc 1 1, 3) := by decide +kernel
theorem dX1_init_37 : decode cX1_init 37 = .ok (.goto (-22), 3) := by decide +kernel
theorem dX1_init_40 : decode cX1_init 40 = .ok (.return_, 1) := by decide +kernel
set_option maxRecDepth 20000 in
theorem ggX1_push_X2_become : GoodIn wsX1_push wsX2_become := goodIn_r _ [8, 9, 10, 11, 12, 13, 14, 15, 16, 17, 18, 19, 20, 21, 22, 23, 24, 25, 26, 27, 28, 29, 30, 31, 32, 33, 37, 38, 39, 40, 41, 42, 43, 44, 45, 46, 47, 48, 49, 50, 51] (by decide +kernel) (by decide +kernel)
set_option maxRecDepth 20000 in
theorem gX1_push_X2_become : GoodIn wsX1_push (wsV RX1 23 RX2 yX2_become wsX2_become) := goodIn_app (goodIn_of _ (by decide +kernel)) ggX1_push_X2_become
theorem dX1_push_0 : decode cX1_push 0 = .ok (.aload_n 0, 1) := by decide +kernel
theorem dX1_push_1 : decode cX1_push 1 = .ok (.getfield 11, 3) := by decide +kernel
theorem dX1_push_4 : decode cX1_push 4 = .ok (.aload_n 0, 1) := by decide +kernel
theorem dX1_push_5 : decode cX1_push 5 = .ok (.getfield 16, 3) := by decide +kernel
theorem dX1_push_8 : decode cX1_push 8 = .ok (.aload_n 0, 1) := by decide +kernel
theorem dX1_push_9 : decode cX1_push 9 = .ok (.getfield 20, 3) := by decide +kernel
theorem dX1_push_12 : decode cX1_push 12 = .ok (.iadd, 1) := by decide +kernel
theorem dX1_push_13 : decode cX1_push 13 = .ok (.bipush 6, 2) := by decide +kernel
theorem dX1_push_15 : decode cX1_push 15 = .ok (.irem, 1) := by decide +kernel
theorem dX1_push_16 : decode cX1_push 16 = .ok (.aaload, 1) := by decide +kernel
theorem dX1_push_17 : decode cX1_push 17 = .ok (.aload_n 1, 1) := by decide +kernel
theorem dX1_push_18 : decode cX1_push 18 = .ok (.invokevirtual 23, 3) := by decide +kernel
theorem dX1_push_21 : decode cX1_push 21 = .ok (.aload_n 0, 1) := by decide +kernel
theorem dX1_push_22 : decode cX1_push 22 = .ok (.getfield 20, 3) := by decide +kernel
theorem dX1_push_25 : decode cX1_push 25 = .ok (.bipush 6, 2) := by decide +kernel
theorem dX1_push_27 : decode cX1_push 27 = .ok (.if_icmp .ge 16, 3) := by decide +kernel
theorem dX1_push_30 : decode cX1_push 30 = .ok (.aload_n 0, 1) := by decide +kernel
theorem dX1_push_31 : decode cX1_push 31 = .ok (.dup, 1) := by decide +kernel
theorem dX1_push_32 : decode cX1_push 32 = .ok (.getfield 20, 3) := by decide +kernel
theorem dX1_push_35 : decode cX1_push 35 = .ok (.iconst 1, 1) := by decide +kernel
theorem dX1_push_36 : decode cX1_push 36 = .ok (.iadd, 1) := by decide +kernel
theorem dX1_push_37 : decode cX1_push 37 = .ok (.putfield 20, 3) := by decide +kernel
theorem dX1_push_40 : decode cX1_push 40 = .ok (.goto 16, 3) := by decide +kernel
theorem dX1_push_43 : decode cX1_push 43 = .ok (.aload_n 0, 1) := by decide +kernel
theorem dX1_push_44 : decode cX1_push 44 = .ok (.aload_n 0, 1) := by decide +kernel
theorem dX1_push_45 : decode cX1_push 45 = .ok (.getfield 16, 3) := by decide +kernel
theorem dX1_push_48 : decode cX1_push 48 = .ok (.iconst 1, 1) := by decide +kernel
theorem dX1_push_49 : decode cX1_push 49 = .ok (.iadd, 1) := by decide +kernel
theorem dX1_push_50 : decode cX1_push 50 = .ok (.bipush 6, 2) := by decide +kernel
theorem dX1_push_52 : decode cX1_push 52 = .ok (.irem, 1) := by decide +kernel
theorem dX1_push_53 : decode cX1_push 53 = .ok (.putfield 16, 3) := by decide +kernel
theorem dX1_push_56 : decode cX1_push 56 = .ok (.return_, 1) := by decide +kernel
set_option maxRecDepth 20000 in
theorem ggX1_popInto_X2_become : GoodIn wsX1_popInto wsX2_become := goodIn_r _ [8, 9, 10, 11, 12, 13, 14, 15, 16, 17, 18, 19, 20, 21, 22, 23, 24, 25, 26, 27, 28, 29, 30, 31, 32, 33, 37, 38, 39, 40, 41, 42, 43, 44, 45, 46, 47, 48, 49, 50, 51] (by decide +kernel) (by decide +kernel)
set_option maxRecDepth 20000 in
theorem gX1_popInto_X2_become : GoodIn wsX1_popInto (wsV RX1 23 RX2 yX2_become wsX2_become) := goodIn_app (goodIn_of _ (by decide +kernel)) ggX1_popInto_X2_become
theorem dX1_popInto_0 : decode cX1_popInto 0 = .ok (.aload_n 0, 1) := by decide +kernel
theorem dX1_popInto_1 : decode cX1_popInto 1 = .ok (.getfield 20, 3) := by decide +kernel
theorem dX1_popInto_4 : decode cX1_popInto 4 = .ok (.ifCond .le 34, 3) := by decide +kernel
theorem dX1_popInto_7 : decode cX1_popInto 7 = .ok (.aload_n 0, 1) := by decide +kernel
theorem dX1_popInto_8 : decode cX1_popInto 8 = .ok (.dup, 1) := by decide +kernel
theorem dX1_popInto_9 : decode cX1_popInto 9 = .ok (.getfield 20, 3) := by decide +kernel
theorem dX1_popInto_12 : decode cX1_popInto 12 = .ok (.iconst 1, 1) := by decide +kernel
theorem dX1_popInto_13 : decode cX1_popInto 13 = .ok (.isub, 1) := by decide +kernel
theorem dX1_popInto_14 : decode cX1_popInto 14 = .ok (.putfield 20, 3) := by decide +kernel
theorem dX1_popInto_17 : decode cX1_popInto 17 = .ok (.aload_n 1, 1) := by decide +kernel
theorem dX1_popInto_18 : decode cX1_popInto 18 = .ok (.aload_n 0, 1) := by decide +kernel
theorem dX1_popInto_19 : decode cX1_popInto 19 = .ok (.getfield 11, 3) := by decide +kernel
theorem dX1_popInto_22 : decode cX1_popInto 22 = .ok (.aload_n 0, 1) := by decide +kernel
theorem dX1_popInto_23 : decode cX1_popInto 23 = .ok (.getfield 16, 3) := by decide +kernel
theorem dX1_popInto_26 : decode cX1_popInto 26 = .ok (.aload_n 0, 1) := by decide +kernel
theorem dX1_popInto_27 : decode cX1_popInto 27 = .ok (.getfield 20, 3) := by decide +kernel
theorem dX1_popInto_30 : decode cX1_popInto 30 = .ok (.iadd, 1) := by decide +kernel
theorem dX1_popInto_31 : decode cX1_popInto 31 = .ok (.bipush 6, 2) := by decide +kernel
theorem dX1_popInto_33 : decode cX1_popInto 33 = .ok (.irem, 1) := by decide +kernel
theorem dX1_popInto_34 : decode cX1_popInto 34 = .ok (.aaload, 1) := by decide +kernel
theorem dX1_popInto_35 : decode cX1_popInto 35 = .ok (.invokevirtual 23, 3) := by decide +kernel
theorem dX1_popInto_38 : decode cX1_popInto 38 = .ok (.return_, 1) := by decide +kernel
set_option maxRecDepth 20000 in
theorem ggX2_init_X0_init : GoodIn wsX2_init wsX0_init := goodIn_r _ [15, 16, 2, 3, 4, 17, 18, 19, 20, 21, 11, 22, 23, 24, 25, 26, 27, 36, 37, 38, 39, 40, 41, 42] (by decide +kernel) (by decide +kernel)
set_option maxRecDepth 20000 in
theorem gX2_init_X0_init : GoodIn wsX2_init (wsX0_init) := ggX2_init_X0_init
theorem dX2_init_0 : decode cX2_init 0 = .ok (.aload_n 0, 1) := by decide +kernel
theorem dX2_init_1 : decode cX2_init 1 = .ok (.invokespecial 3, 3) := by decide +kernel
theorem dX2_init_4 : decode cX2_init 4 = .ok (.aload_n 0, 1) := by decide +kernel
theorem dX2_init_5 : decode cX2_init 5 = .ok (.bipush 16, 2) := by decide +kernel
theorem dX2_init_7 : decode cX2_init 7 = .ok (.newarray .int, 2) := by decide +kernel
theorem dX2_init_9 : decode cX2_init 9 = .ok (.putfield 9, 3) := by decide +kernel
theorem dX2_init_12 : decode cX2_init 12 = .ok (.aload_n 0, 1) := by decide +kernel
theorem dX2_init_13 : decode cX2_init 13 = .ok (.bipush 16, 2) := by decide +kernel
theorem dX2_init_15 : decode cX2_init 15 = .ok (.newarray .int, 2) := by decide +kernel
theorem dX2_init_17 : decode cX2_init 17 = .ok (.putfield 15, 3) := by decide +kernel
theorem dX2_init_20 : decode cX2_init 20 = .ok (.aload_n 0, 1) := by decide +kernel
theorem dX2_init_21 : decode cX2_init 21 = .ok (.bipush 8, 2) := by decide +kernel
theorem dX2_init_23 : decode cX2_init 23 = .ok (.newarray .int, 2) := by decide +kernel
theorem dX2_init_25 : decode cX2_init 25 = .ok (.putfield 18, 3) := by decide +kernel
theorem dX2_init_28 : decode cX2_init 28 = .ok (.aload_n 0, 1) := by decide +kernel
theorem dX2_init_29 : decode cX2_init 29 = .ok (.iconst 2, 1) := by decide +kernel
theorem dX2_init_30 : decode cX2_init 30 = .ok (.newarray .int, 2) := by decide +kernel
theorem dX2_init_32 : decode cX2_init 32 = .ok (.putfield 21, 3) := by decide +kernel
theorem dX2_init_35 : decode cX2_init 35 = .ok (.aload_n 0, 1) := by decide +kernel
theorem dX2_init_36 : decode cX2_init 36 = .ok (.new 24, 3) := by decide +kernel
theorem dX2_init_39 : decode cX2_init 39 = .ok (.dup, 1) := by decide +kernel
theorem dX2_init_40 : decode cX2_init 40 = .ok (.invokespecial 26, 3) := by decide +kernel
theorem dX2_init_43 : decode cX2_init 43 = .ok (.putfield 27, 3) := by decide +kernel
theorem dX2_init_46 : decode cX2_init 46 = .ok (.aload_n 0, 1) := by decide +kernel
theorem dX2_init_47 : decode cX2_init 47 = .ok (.getfield 21, 3) := by decide +kernel
theorem dX2_init_50 : decode cX2_init 50 = .ok (.iconst 0, 1) := by decide +kernel
theorem dX2_init_51 : decode cX2_init 51 = .ok (.bipush 6, 2) := by decide +kernel
theorem dX2_init_53 : decode cX2_init 53 = .ok (.iastore, 1) := by decide +kernel
theorem dX2_init_54 : decode cX2_init 54 = .ok (.return_, 1) := by decide +kernel
set_option maxRecDepth 20000 in
theorem ggX2_become_X0_becomeLike : GoodIn wsX2_become wsX0_becomeLike := goodIn_r _ [17, 18, 19, 3, 4, 5, 20, 21, 22, 23, 24, 25, 34, 35, 36, 37, 38, 39, 40] (by decide +kernel) (by decide +kernel)
set_option maxRecDepth 20000 in
theorem gX2_become_X0_becomeLike : GoodIn wsX2_become (wsV RX2 37 RX0 yX0_becomeLike wsX0_becomeLike) := goodIn_app (goodIn_of _ (by decide +kernel)) ggX2_become_X0_becomeLike
theorem dX2_become_0 : decode cX2_become 0 = .ok (.aload_n 1, 1) := by decide +kernel
theorem dX2_become_1 : decode cX2_become 1 = .ok (.getfield 9, 3) := by decide +kernel
theorem dX2_become_4 : decode cX2_become 4 = .ok (.iconst 0, 1) := by decide +kernel
theorem dX2_become_5 : decode cX2_become 5 = .ok (.aload_n 0, 1) := by decide +kernel
theorem dX2_become_6 : decode cX2_become 6 = .ok (.getfield 9, 3) := by decide +kernel
theorem dX2_become_9 : decode cX2_become 9 = .ok (.iconst 0, 1) := by decide +kernel
theorem dX2_become_10 : decode cX2_become 10 = .ok (.bipush 16, 2) := by decide +kernel
theorem dX2_become_12 : decode cX2_become 12 = .ok (.invokestatic 31, 3) := by decide +kernel
theorem dX2_become_15 : decode cX2_become 15 = .ok (.aload_n 1, 1) := by decide +kernel
theorem dX2_become_16 : decode cX2_become 16 = .ok (.getfield 15, 3) := by decide +kernel
theorem dX2_become_19 : decode cX2_become 19 = .ok (.iconst 0, 1) := by decide +kernel
theorem dX2_become_20 : decode cX2_become 20 = .ok (.aload_n 0, 1) := by decide +kernel
theorem dX2_become_21 : decode cX2_become 21 = .ok (.getfield 15, 3) := by decide +kernel
theorem dX2_become_24 : decode cX2_become 24 = .ok (.iconst 0, 1) := by decide +kernel
theorem dX2_become_25 : decode cX2_become 25 = .ok (.bipush 16, 2) := by decide +kernel
theorem dX2_become_27 : decode cX2_become 27 = .ok (.invokestatic 31, 3) := by decide +kernel
theorem dX2_become_30 : decode cX2_become 30 = .ok (.aload_n 1, 1) := by decide +kernel
theorem dX2_become_31 : decode cX2_become 31 = .ok (.getfield 18, 3) := by decide +kernel
theorem dX2_become_34 : decode cX2_become 34 = .ok (.iconst 0, 1) := by decide +kernel
theorem dX2_become_35 : decode cX2_become 35 = .ok (.aload_n 0, 1) := by decide +kernel
theorem dX2_become_36 : decode cX2_become 36 = .ok (.getfield 18, 3) := by decide +kernel
theorem dX2_become_39 : decode cX2_become 39 = .ok (.iconst 0, 1) := by decide +kernel
theorem dX2_become_40 : decode cX2_become 40 = .ok (.bipush 8, 2) := by decide +kernel
theorem dX2_become_42 : decode cX2_become 42 = .ok (.invokestatic 31, 3) := by decide +kernel
theorem dX2_become_45 : decode cX2_become 45 = .ok (.aload_n 1, 1) := by decide +kernel
theorem dX2_become_46 : decode cX2_become 46 = .ok (.getfield 21, 3) := by decide +kernel
theorem dX2_become_49 : decode cX2_become 49 = .ok (.iconst 0, 1) := by decide +kernel
theorem dX2_become_50 : decode cX2_become 50 = .ok (.aload_n 0, 1) := by decide +kernel
theorem dX2_become_51 : decode cX2_become 51 = .ok (.getfield 21, 3) := by decide +kernel
theorem dX2_become_54 : decode cX2_become 54 = .ok (.iconst 0, 1) := by decide +kernel
theorem dX2_become_55 : decode cX2_become 55 = .ok (.iconst 2, 1) := by decide +kernel
theorem dX2_become_56 : decode cX2_become 56 = .ok (.invokestatic 31, 3) := by decide +kernel
theorem dX2_become_59 : decode cX2_become 59 = .ok (.aload_n 0, 1) := by decide +kernel
theorem dX2_become_60 : decode cX2_become 60 = .ok (.getfield 27, 3) := by decide +kernel
theorem dX2_become_63 : decode cX2_become 63 = .ok (.aload_n 1, 1) := by decide +kernel
theorem dX2_become_64 : decode cX2_become 64 = .ok (.getfield 27, 3) := by decide +kernel
theorem dX2_become_67 : decode cX2_become 67 = .ok (.invokevirtual 37, 3) := by decide +kernel
theorem dX2_become_70 : decode cX2_become 70 = .ok (.aload_n 0, 1) := by decide +kernel
theorem dX2_become_71 : decode cX2_become 71 = .ok (.aload_n 1, 1) := by decide +kernel
theorem dX2_become_72 : decode cX2_become 72 = .ok (.getfield 41, 3) := by decide +kernel
theorem dX2_become_75 : decode cX2_become 75 = .ok (.putfield 41, 3) := by decide +kernel
theorem dX2_become_78 : decode cX2_become 78 = .ok (.aload_n 0, 1) := by decide +kernel
theorem dX2_become_79 : decode cX2_become 79 = .ok (.aload_n 1, 1) := by decide +kernel
theorem dX2_become_80 : decode cX2_become 80 = .ok (.getfield 45, 3) := by decide +kernel
theorem dX2_become_83 : decode cX2_become 83 = .ok (.putfield 45, 3) := by decide +kernel
theorem dX2_become_86 : decode cX2_become 86 = .ok (.aload_n 0, 1) := by decide +kernel
theorem dX2_become_87 : decode cX2_become 87 = .ok (.aload_n 1, 1) := by decide +kernel
theorem dX2_become_88 : decode cX2_become 88 = .ok (.getfield 48, 3) := by decide +kernel
theorem dX2_become_91 : decode cX2_become 91 = .ok (.putfield 48, 3) := by decide +kernel
theorem dX2_become_94 : decode cX2_become 94 = .ok (.return_, 1) := by decide +kernel
theorem dX2_asWord_0 : decode cX2_asWord 0 = .ok (.aload_n 0, 1) := by decide +kernel
theorem dX2_asWord_1 : decode cX2_asWord 1 = .ok (.getfield 21, 3) := by decide +kernel
theorem dX2_asWord_4 : decode cX2_asWord 4 = .ok (.iconst 1, 1) := by decide +kernel
theorem dX2_asWord_5 : decode cX2_asWord 5 = .ok (.iaload, 1) := by decide +kernel
theorem dX2_asWord_6 : decode cX2_asWord 6 = .ok (.ifCond .ne 7, 3) := by decide +kernel
theorem dX2_asWord_9 : decode cX2_asWord 9 = .ok (.iload_n 1, 1) := by decide +kernel
theorem dX2_asWord_10 : decode cX2_asWord 10 = .ok (.goto 8, 3) := by decide +kernel
theorem dX2_asWord_13 : decode cX2_asWord 13 = .ok (.iload_n 1, 1) := by decide +kernel
theorem dX2_asWord_14 : decode cX2_asWord 14 = .ok (.sipush 255, 3) := by decide +kernel
theorem dX2_asWord_17 : decode cX2_asWord 17 = .ok (.ixor, 1) := by decide +kernel
theorem dX2_asWord_18 : decode cX2_asWord 18 = .ok (.ireturn, 1) := by decide +kernel
set_option maxRecDepth 20000 in
theorem ggX2_means_X2_asWord : GoodIn wsX2_means wsX2_asWord := goodIn_r _ [6, 7, 8, 9, 10, 11, 12, 13, 14, 15] (by decide +kernel) (by decide +kernel)
set_option maxRecDepth 20000 in
theorem gX2_means_X2_asWord : GoodIn wsX2_means (wsV RX2 51 RX2 yX2_asWord wsX2_asWord) := goodIn_app (goodIn_of _ (by decide +kernel)) ggX2_means_X2_asWord
theorem dX2_means_0 : decode cX2_means 0 = .ok (.aload_n 0, 1) := by decide +kernel
theorem dX2_means_1 : decode cX2_means 1 = .ok (.aload_n 0, 1) := by decide +kernel
theorem dX2_means_2 : decode cX2_means 2 = .ok (.getfield 9, 3) := by decide +kernel
theorem dX2_means_5 : decode cX2_means 5 = .ok (.iload_n 1, 1) := by decide +kernel
theorem dX2_means_6 : decode cX2_means 6 = .ok (.iaload, 1) := by decide +kernel
theorem dX2_means_7 : decode cX2_means 7 = .ok (.invokevirtual 51, 3) := by decide +kernel
theorem dX2_means_10 : decode cX2_means 10 = .ok (.ireturn, 1) := by decide +kernel
set_option maxRecDepth 20000 in
theorem ggX2_tells_X2_answering : GoodIn wsX2_tells wsX2_answering := goodIn_r _ [5, 6, 7, 8, 9, 10, 11, 12, 13, 4, 14, 15, 16, 17, 18, 19, 20, 21, 22, 23, 24, 29, 30, 31, 32, 33, 34, 35, 36] (by decide +kernel) (by decide +kernel)
set_option maxRecDepth 20000 in
theorem gX2_tells_X2_answering : GoodIn wsX2_tells (wsV RX2 55 RX2 yX2_answering wsX2_answering) := goodIn_app (goodIn_of _ (by decide +kernel)) ggX2_tells_X2_answering
set_option maxRecDepth 20000 in
theorem ggX2_tells_X2_asWord : GoodIn wsX2_tells wsX2_asWord := goodIn_r _ [28, 7, 29, 30, 31, 32, 33, 34, 35, 36] (by decide +kernel) (by decide +kernel)
set_option maxRecDepth 20000 in
theorem gX2_tells_X2_asWord : GoodIn wsX2_tells (wsV RX2 51 RX2 yX2_asWord wsX2_asWord) := goodIn_app (goodIn_of _ (by decide +kernel)) ggX2_tells_X2_asWord
theorem dX2_tells_0 : decode cX2_tells 0 = .ok (.aload_n 0, 1) := by decide +kernel
theorem dX2_tells_1 : decode cX2_tells 1 = .ok (.aload_n 0, 1) := by decide +kernel
theorem dX2_tells_2 : decode cX2_tells 2 = .ok (.iload_n 1, 1) := by decide +kernel
theorem dX2_tells_3 : decode cX2_tells 3 = .ok (.invokevirtual 55, 3) := by decide +kernel
theorem dX2_tells_6 : decode cX2_tells 6 = .ok (.invokevirtual 51, 3) := by decide +kernel
theorem dX2_tells_9 : decode cX2_tells 9 = .ok (.ireturn, 1) := by decide +kernel
set_option maxRecDepth 20000 in
theorem ggX2_layThrough_X2_wearRings : GoodIn wsX2_layThrough wsX2_wearRings := goodIn_r _ [7, 8, 9, 10, 11, 12, 13, 14, 15, 23, 24, 25, 26, 27, 28, 29, 30] (by decide +kernel) (by decide +kernel)
set_option maxRecDepth 20000 in
theorem gX2_layThrough_X2_wearRings : GoodIn wsX2_layThrough (wsV RX2 58 RX2 yX2_wearRings wsX2_wearRings) := goodIn_app (goodIn_of _ (by decide +kernel)) ggX2_layThrough_X2_wearRings
set_option maxRecDepth 20000 in
theorem ggX2_layThrough_J6_bitCount_0f7a4 : GoodIn wsX2_layThrough wsJ6_bitCount_0f7a4 := goodIn_r _ [19, 20, 21, 22] (by decide +kernel) (by decide +kernel)
set_option maxRecDepth 20000 in
theorem gX2_layThrough_J6_bitCount_0f7a4 : GoodIn wsX2_layThrough (va_wsS RX2 62 yJ6_bitCount_0f7a4 wsJ6_bitCount_0f7a4) := goodIn_app (goodIn_of _ (by decide +kernel)) ggX2_layThrough_J6_bitCount_0f7a4
theorem dX2_layThrough_0 : decode cX2_layThrough 0 = .ok (.aload_n 0, 1) := by decide +kernel
theorem dX2_layThrough_1 : decode cX2_layThrough 1 = .ok (.getfield 9, 3) := by decide +kernel
theorem dX2_layThrough_4 : decode cX2_layThrough 4 = .ok (.iload_n 1, 1) := by decide +kernel
theorem dX2_layThrough_5 : decode cX2_layThrough 5 = .ok (.iaload, 1) := by decide +kernel
theorem dX2_layThrough_6 : decode cX2_layThrough 6 = .ok (.iload_n 2, 1) := by decide +kernel
theorem dX2_layThrough_7 : decode cX2_layThrough 7 = .ok (.ixor, 1) := by decide +kernel
theorem dX2_layThrough_8 : decode cX2_layThrough 8 = .ok (.istore_n 3, 1) := by decide +kernel
theorem dX2_layThrough_9 : decode cX2_layThrough 9 = .ok (.aload_n 0, 1) := by decide +kernel
theorem dX2_layThrough_10 : decode cX2_layThrough 10 = .ok (.iload_n 3, 1) := by decide +kernel
theorem dX2_layThrough_11 : decode cX2_layThrough 11 = .ok (.iconst 2, 1) := by decide +kernel
theorem dX2_layThrough_12 : decode cX2_layThrough 12 = .ok (.invokevirtual 58, 3) := by decide +kernel
theorem dX2_layThrough_15 : decode cX2_layThrough 15 = .ok (.aload_n 0, 1) := by decide +kernel
theorem dX2_layThrough_16 : decode cX2_layThrough 16 = .ok (.getfield 9, 3) := by decide +kernel
theorem dX2_layThrough_19 : decode cX2_layThrough 19 = .ok (.iload_n 1, 1) := by decide +kernel
theorem dX2_layThrough_20 : decode cX2_layThrough 20 = .ok (.iload_n 2, 1) := by decide +kernel
theorem dX2_layThrough_21 : decode cX2_layThrough 21 = .ok (.iastore, 1) := by decide +kernel
theorem dX2_layThrough_22 : decode cX2_layThrough 22 = .ok (.iload_n 3, 1) := by decide +kernel
theorem dX2_layThrough_23 : decode cX2_layThrough 23 = .ok (.invokestatic 62, 3) := by decide +kernel
theorem dX2_layThrough_26 : decode cX2_layThrough 26 = .ok (.istore 4, 2) := by decide +kernel
theorem dX2_layThrough_28 : decode cX2_layThrough 28 = .ok (.aload_n 0, 1) := by decide +kernel
theorem dX2_layThrough_29 : decode cX2_layThrough 29 = .ok (.dup, 1) := by decide +kernel
theorem dX2_layThrough_30 : decode cX2_layThrough 30 = .ok (.getfield 45, 3) := by decide +kernel
theorem dX2_layThrough_33 : decode cX2_layThrough 33 = .ok (.iload 4, 2) := by decide +kernel
theorem dX2_layThrough_35 : decode cX2_layThrough 35 = .ok (.iadd, 1) := by decide +kernel
theorem dX2_layThrough_36 : decode cX2_layThrough 36 = .ok (.putfield 45, 3) := by decide +kernel
theorem dX2_layThrough_39 : decode cX2_layThrough 39 = .ok (.iload 4, 2) := by decide +kernel
theorem dX2_layThrough_41 : decode cX2_layThrough 41 = .ok (.ireturn, 1) := by decide +kernel
set_option maxRecDepth 20000 in
theorem ggX2_renewRing_X2_threadsThrough : GoodIn wsX2_renewRing wsX2_threadsThrough := goodIn_r _ [7, 1, 8, 9, 10, 18, 19, 20, 21, 22, 23, 24, 25] (by decide +kernel) (by decide +kernel)
set_option maxRecDepth 20000 in
theorem gX2_renewRing_X2_threadsThrough : GoodIn wsX2_renewRing (wsV RX2 67 RX2 yX2_threadsThrough wsX2_threadsThrough) := goodIn_app (goodIn_of _ (by decide +kernel)) ggX2_renewRing_X2_threadsThrough
set_option maxRecDepth 20000 in
theorem ggX2_renewRing_J6_bitCount_0f7a4 : GoodIn wsX2_renewRing wsJ6_bitCount_0f7a4 := goodIn_r _ [14, 15, 16, 17] (by decide +kernel) (by decide +kernel)
set_option maxRecDepth 20000 in
theorem gX2_renewRing_J6_bitCount_0f7a4 : GoodIn wsX2_renewRing (va_wsS RX2 62 yJ6_bitCount_0f7a4 wsJ6_bitCount_0f7a4) := goodIn_app (goodIn_of _ (by decide +kernel)) ggX2_renewRing_J6_bitCount_0f7a4
theorem dX2_renewRing_0 : decode cX2_renewRing 0 = .ok (.aload_n 0, 1) := by decide +kernel
theorem dX2_renewRing_1 : decode cX2_renewRing 1 = .ok (.iload_n 1, 1) := by decide +kernel
theorem dX2_renewRing_2 : decode cX2_renewRing 2 = .ok (.invokevirtual 67, 3) := by decide +kernel
theorem dX2_renewRing_5 : decode cX2_renewRing 5 = .ok (.invokestatic 62, 3) := by decide +kernel
theorem dX2_renewRing_8 : decode cX2_renewRing 8 = .ok (.istore_n 2, 1) := by decide +kernel
theorem dX2_renewRing_9 : decode cX2_renewRing 9 = .ok (.iconst 0, 1) := by decide +kernel
theorem dX2_renewRing_10 : decode cX2_renewRing 10 = .ok (.istore_n 3, 1) := by decide +kernel
theorem dX2_renewRing_11 : decode cX2_renewRing 11 = .ok (.iload_n 3, 1) := by decide +kernel
theorem dX2_renewRing_12 : decode cX2_renewRing 12 = .ok (.bipush 16, 2) := by decide +kernel
theorem dX2_renewRing_14 : decode cX2_renewRing 14 = .ok (.if_icmp .ge 23, 3) := by decide +kernel
theorem dX2_renewRing_17 : decode cX2_renewRing 17 = .ok (.aload_n 0, 1) := by decide +kernel
theorem dX2_renewRing_18 : decode cX2_renewRing 18 = .ok (.getfield 9, 3) := by decide +kernel
theorem dX2_renewRing_21 : decode cX2_renewRing 21 = .ok (.iload_n 3, 1) := by decide +kernel
theorem dX2_renewRing_22 : decode cX2_renewRing 22 = .ok (.dup2, 1) := by decide +kernel
theorem dX2_renewRing_23 : decode cX2_renewRing 23 = .ok (.iaload, 1) := by decide +kernel
theorem dX2_renewRing_24 : decode cX2_renewRing 24 = .ok (.iconst 1, 1) := by decide +kernel
theorem dX2_renewRing_25 : decode cX2_renewRing 25 = .ok (.iload_n 1, 1) := by decide +kernel
theorem dX2_renewRing_26 : decode cX2_renewRing 26 = .ok (.ishl, 1) := by decide +kernel
theorem dX2_renewRing_27 : decode cX2_renewRing 27 = .ok (.iconst (-1), 1) := by decide +kernel
theorem dX2_renewRing_28 : decode cX2_renewRing 28 = .ok (.ixor, 1) := by decide +kernel
theorem dX2_renewRing_29 : decode cX2_renewRing 29 = .ok (.iand, 1) := by decide +kernel
theorem dX2_renewRing_30 : decode cX2_renewRing 30 = .ok (.iastore, 1) := by decide +kernel
theorem dX2_renewRing_31 : decode cX2_renewRing 31 = .ok (.iinc 3 1, 3) := by decide +kernel
theorem dX2_renewRing_34 : decode cX2_renewRing 34 = .ok (.goto (-23), 3) := by decide +kernel
theorem dX2_renewRing_37 : decode cX2_renewRing 37 = .ok (.aload_n 0, 1) := by decide +kernel
theorem dX2_renewRing_38 : decode cX2_renewRing 38 = .ok (.getfield 18, 3) := by decide +kernel
theorem dX2_renewRing_41 : decode cX2_renewRing 41 = .ok (.iload_n 1, 1) := by decide +kernel
theorem dX2_renewRing_42 : decode cX2_renewRing 42 = .ok (.iconst 0, 1) := by decide +kernel
theorem dX2_renewRing_43 : decode cX2_renewRing 43 = .ok (.iastore, 1) := by decide +kernel
theorem dX2_renewRing_44 : decode cX2_renewRing 44 = .ok (.iload_n 2, 1) := by decide +kernel
theorem dX2_renewRing_45 : decode cX2_renewRing 45 = .ok (.ireturn, 1) := by decide +kernel
set_option maxRecDepth 20000 in
theorem ggX2_wearRings_X4_bit : GoodIn wsX2_wearRings wsX4_bit := goodIn_r _ [8] (by decide +kernel) (by decide +kernel)
set_option maxRecDepth 20000 in
theorem gX2_wearRings_X4_bit_n70 : GoodIn wsX2_wearRings (wsX4_bit) := ggX2_wearRings_X4_bit
theorem dX2_wearRings_0 : decode cX2_wearRings 0 = .ok (.iconst 0, 1) := by decide +kernel
theorem dX2_wearRings_1 : decode cX2_wearRings 1 = .ok (.istore_n 3, 1) := by decide +kernel
theorem dX2_wearRings_2 : decode cX2_wearRings 2 = .ok (.iload_n 3, 1) := by decide +kernel
theorem dX2_wearRings_3 : decode cX2_wearRings 3 = .ok (.bipush 8, 2) := by decide +kernel
theorem dX2_wearRings_5 : decode cX2_wearRings 5 = .ok (.if_icmp .ge 37, 3) := by decide +kernel
theorem dX2_wearRings_8 : decode cX2_wearRings 8 = .ok (.iload_n 1, 1) := by decide +kernel
theorem dX2_wearRings_9 : decode cX2_wearRings 9 = .ok (.iload_n 3, 1) := by decide +kernel
theorem dX2_wearRings_10 : decode cX2_wearRings 10 = .ok (.invokestatic 70, 3) := by decide +kernel
theorem dX2_wearRings_13 : decode cX2_wearRings 13 = .ok (.iconst 1, 1) := by decide +kernel
theorem dX2_wearRings_14 : decode cX2_wearRings 14 = .ok (.if_icmp .ne 22, 3) := by decide +kernel
theorem dX2_wearRings_17 : decode cX2_wearRings 17 = .ok (.aload_n 0, 1) := by decide +kernel
theorem dX2_wearRings_18 : decode cX2_wearRings 18 = .ok (.getfield 18, 3) := by decide +kernel
theorem dX2_wearRings_21 : decode cX2_wearRings 21 = .ok (.iload_n 3, 1) := by decide +kernel
theorem dX2_wearRings_22 : decode cX2_wearRings 22 = .ok (.aload_n 0, 1) := by decide +kernel
theorem dX2_wearRings_23 : decode cX2_wearRings 23 = .ok (.getfield 18, 3) := by decide +kernel
theorem dX2_wearRings_26 : decode cX2_wearRings 26 = .ok (.iload_n 3, 1) := by decide +kernel
theorem dX2_wearRings_27 : decode cX2_wearRings 27 = .ok (.iaload, 1) := by decide +kernel
theorem dX2_wearRings_28 : decode cX2_wearRings 28 = .ok (.iload_n 2, 1) := by decide +kernel
theorem dX2_wearRings_29 : decode cX2_wearRings 29 = .ok (.iadd, 1) := by decide +kernel
theorem dX2_wearRings_30 : decode cX2_wearRings 30 = .ok (.bipush 99, 2) := by decide +kernel
theorem dX2_wearRings_32 : decode cX2_wearRings 32 = .ok (.invokestatic 74, 3) := by decide +kernel
theorem dX2_wearRings_35 : decode cX2_wearRings 35 = .ok (.iastore, 1) := by decide +kernel
theorem dX2_wearRings_36 : decode cX2_wearRings 36 = .ok (.iinc 3 1, 3) := by decide +kernel
