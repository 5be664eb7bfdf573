theorem qL_act_0 : GoodIn wsL_law [Cond.code yL_act cL_act 4 (some .int)] := goodIn_r _ [249] (by decide +kernel) (by decide +kernel)
set_option maxRecDepth 20000 in
theorem qL_act_r1 : GoodIn wsL_law wsL_act_r1 := goodIn_r _ [250, 251, 107, 252, 253, 254, 255, 256, 2, 257, 114, 115, 17, 12, 116, 119, 120, 121, 75, 76, 77, 163, 164, 165] (by decide +kernel) (by decide +kernel)
set_option maxRecDepth 20000 in
theorem qL_act_r2 : GoodIn wsL_law wsL_act_r2 := goodIn_r _ [258, 259, 260, 16, 261, 59, 262, 263, 264, 79, 80, 11, 81, 31, 82, 83, 84, 85, 32, 33, 34, 38, 86, 87] (by decide +kernel) (by decide +kernel)
set_option maxRecDepth 20000 in
theorem qL_act_r3 : GoodIn wsL_law wsL_act_r3 := goodIn_r _ [88, 89, 90, 91, 37, 92, 43, 93, 44, 49, 50, 51, 52, 53, 265, 266, 267, 268, 269, 270, 271, 272, 206, 207] (by decide +kernel) (by decide +kernel)
set_option maxRecDepth 20000 in
theorem qL_act_r4 : GoodIn wsL_law wsL_act_r4 := goodIn_r _ [147, 208, 123, 124, 98, 99, 100, 101, 102, 103, 104, 122, 273, 274, 275, 276, 70, 71, 277, 130, 131, 132, 278, 279] (by decide +kernel) (by decide +kernel)
set_option maxRecDepth 20000 in
theorem qL_act_r5 : GoodIn wsL_law wsL_act_r5 := goodIn_r _ [280, 281, 117, 282, 283, 284, 285, 224, 225, 226, 227, 286, 287, 288, 289, 290, 291, 292, 293, 178, 167, 168, 169, 294] (by decide +kernel) (by decide +kernel)
set_option maxRecDepth 20000 in
theorem qL_act_r6 : GoodIn wsL_law wsL_act_r6 := goodIn_r _ [295, 296, 297, 298, 299, 300, 301, 302, 134, 135, 136, 137, 138, 139, 140, 141, 142, 143, 144, 145, 146, 148, 149, 150] (by decide +kernel) (by decide +kernel)
set_option maxRecDepth 20000 in
theorem qL_act_r7 : GoodIn wsL_law wsL_act_r7 := goodIn_r _ [151, 152, 129, 303, 304, 305, 306, 213, 218, 307, 46, 47, 48, 308, 309, 310, 311, 312, 313, 314, 315, 316, 317, 318] (by decide +kernel) (by decide +kernel)
set_option maxRecDepth 20000 in
theorem qL_act_r8 : GoodIn wsL_law wsL_act_r8 := goodIn_r _ [319, 320, 321, 322, 323, 324, 325, 326, 327, 328, 329, 330, 331, 332, 20, 18, 72, 73, 74, 78, 94, 95, 96, 97] (by decide +kernel) (by decide +kernel)
set_option maxRecDepth 20000 in
theorem ggL_law_L_act : GoodIn wsL_law wsL_act := goodIn_app qL_act_0 (goodIn_app (goodIn_app (goodIn_app (goodIn_app (goodIn_app (goodIn_app (goodIn_app (goodIn_app qL_act_r1 (goodIn_app qL_act_r2 (goodIn_app qL_act_r3 (goodIn_app qL_act_r4 (goodIn_app qL_act_r5 (goodIn_app qL_act_r6 (goodIn_app qL_act_r7 qL_act_r8))))))) (goodIn_sub inlX4 (by decide +kernel))) (goodIn_sub inlX2 (by decide +kernel))) (goodIn_sub inlX1 (by decide +kernel))) (goodIn_sub inlX0 (by decide +kernel))) (goodIn_sub (fun _ h => List.mem_append_left _ (List.mem_append_right _ h)) (by decide +kernel))) (goodIn_sub (fun _ h => List.mem_append_left _ (List.mem_append_left _ (List.mem_append_right _ h))) (by decide +kernel))) (goodIn_sub (fun _ h => List.mem_append_right _ h) (by decide +kernel)))
set_option maxRecDepth 20000 in
theorem gL_law_L_act : GoodIn wsL_law (va_wsS RL 109 yL_act wsL_act) := goodIn_app (goodIn_of _ (by decide +kernel)) ggL_law_L_act
