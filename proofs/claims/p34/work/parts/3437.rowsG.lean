theorem qL_isStrong_0 : GoodIn wsL_law [Cond.code yL_isStrong cL_isStrong 11 (some .boolean)] := goodIn_r _ [343] (by decide +kernel) (by decide +kernel)
set_option maxRecDepth 20000 in
theorem qL_isStrong_r1 : GoodIn wsL_law wsL_isStrong_r1 := goodIn_r _ [110, 111, 112, 2, 113, 114, 115, 70, 71, 12, 116, 117, 118, 119, 120, 121, 75, 76, 77, 122, 123, 124, 125, 126] (by decide +kernel) (by decide +kernel)
set_option maxRecDepth 20000 in
theorem qL_isStrong_r2 : GoodIn wsL_law wsL_isStrong_r2 := goodIn_r _ [127, 11, 128, 31, 129, 130, 131, 132, 34, 133, 134, 135, 136, 137, 138, 139, 140, 141, 142, 143, 144, 145, 146, 147] (by decide +kernel) (by decide +kernel)
set_option maxRecDepth 20000 in
theorem qL_isStrong_r3 : GoodIn wsL_law wsL_isStrong_r3 := goodIn_r _ [148, 33, 149, 150, 151, 152, 86, 153, 99, 100, 101, 102, 103, 104, 154, 344, 345, 346, 347, 163, 164, 165, 348, 349] (by decide +kernel) (by decide +kernel)
set_option maxRecDepth 20000 in
theorem qL_isStrong_r4 : GoodIn wsL_law wsL_isStrong_r4 := goodIn_r _ [350, 351, 352, 158, 159, 160, 161, 162, 166, 167, 168, 169, 170, 171, 172, 173, 174, 175, 176, 177, 178, 220, 221, 222] (by decide +kernel) (by decide +kernel)
set_option maxRecDepth 20000 in
theorem qL_isStrong_r5 : GoodIn wsL_law wsL_isStrong_r5 := goodIn_r _ [223, 224, 225, 226, 227, 155, 156, 107, 157] (by decide +kernel) (by decide +kernel)
set_option maxRecDepth 20000 in
theorem ggL_law_L_isStrong : GoodIn wsL_law wsL_isStrong := goodIn_app qL_isStrong_0 (goodIn_app (goodIn_app (goodIn_app (goodIn_app (goodIn_app qL_isStrong_r1 (goodIn_app qL_isStrong_r2 (goodIn_app qL_isStrong_r3 (goodIn_app qL_isStrong_r4 qL_isStrong_r5)))) (goodIn_sub inlX4 (by decide +kernel))) (goodIn_sub inlX2 (by decide +kernel))) (goodIn_sub (fun _ h => List.mem_append_left _ (List.mem_append_right _ h)) (by decide +kernel))) (goodIn_sub (fun _ h => List.mem_append_left _ (List.mem_append_left _ (List.mem_append_right _ h))) (by decide +kernel)))
set_option maxRecDepth 20000 in
theorem gL_law_L_isStrong : GoodIn wsL_law (va_wsS RL 113 yL_isStrong wsL_isStrong) := goodIn_app (goodIn_of _ (by decide +kernel)) ggL_law_L_isStrong
