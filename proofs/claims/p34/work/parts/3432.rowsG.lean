theorem qL_holds_0 : GoodIn wsL_law [Cond.code yL_holds cL_holds 10 (some .boolean)] := goodIn_r _ [108] (by decide +kernel) (by decide +kernel)
set_option maxRecDepth 20000 in
theorem qL_holds_r1 : GoodIn wsL_law wsL_holds_r1 := goodIn_r _ [109, 110, 111, 112, 2, 113, 114, 115, 70, 71, 12, 116, 117, 118, 119, 120, 121, 75, 76, 77, 122, 123, 124, 125] (by decide +kernel) (by decide +kernel)
set_option maxRecDepth 20000 in
theorem qL_holds_r2 : GoodIn wsL_law wsL_holds_r2 := goodIn_r _ [126, 127, 11, 128, 31, 129, 130, 131, 132, 34, 133, 134, 135, 136, 137, 138, 139, 140, 141, 142, 143, 144, 145, 146] (by decide +kernel) (by decide +kernel)
set_option maxRecDepth 20000 in
theorem qL_holds_r3 : GoodIn wsL_law wsL_holds_r3 := goodIn_r _ [147, 148, 33, 149, 150, 151, 152, 86, 153, 99, 100, 101, 102, 103, 104, 154, 155, 156, 107, 157, 158, 159, 160, 161] (by decide +kernel) (by decide +kernel)
set_option maxRecDepth 20000 in
theorem qL_holds_r4 : GoodIn wsL_law wsL_holds_r4 := goodIn_r _ [162, 163, 164, 165, 166, 167, 168, 169, 170, 171, 172, 173, 174, 175, 176, 177, 178, 179, 180, 181, 182, 183, 184, 17] (by decide +kernel) (by decide +kernel)
set_option maxRecDepth 20000 in
theorem qL_holds_r5 : GoodIn wsL_law wsL_holds_r5 := goodIn_r _ [185, 94, 95, 96, 97, 98, 186, 187, 188, 189, 190, 191, 192, 193, 194, 195, 196, 197, 198, 199, 200, 201, 26, 202] (by decide +kernel) (by decide +kernel)
set_option maxRecDepth 20000 in
theorem qL_holds_r6 : GoodIn wsL_law wsL_holds_r6 := goodIn_r _ [203, 204, 205, 206, 207, 208, 209, 210, 211, 212, 213, 214, 215, 216, 217, 218, 219, 220, 221, 222, 223, 224, 225, 226] (by decide +kernel) (by decide +kernel)
set_option maxRecDepth 20000 in
theorem qL_holds_r7 : GoodIn wsL_law wsL_holds_r7 := goodIn_r _ [227, 228, 229, 230, 231, 232, 233, 234, 235, 236, 237] (by decide +kernel) (by decide +kernel)
set_option maxRecDepth 20000 in
theorem ggL_law_L_holds : GoodIn wsL_law wsL_holds := goodIn_app qL_holds_0 (goodIn_app (goodIn_app (goodIn_app (goodIn_app (goodIn_app (goodIn_app (goodIn_app qL_holds_r1 (goodIn_app qL_holds_r2 (goodIn_app qL_holds_r3 (goodIn_app qL_holds_r4 (goodIn_app qL_holds_r5 (goodIn_app qL_holds_r6 qL_holds_r7)))))) (goodIn_sub inlX4 (by decide +kernel))) (goodIn_sub inlX2 (by decide +kernel))) (goodIn_sub inlX1 (by decide +kernel))) (goodIn_sub inlX0 (by decide +kernel))) (goodIn_sub (fun _ h => List.mem_append_left _ (List.mem_append_right _ h)) (by decide +kernel))) (goodIn_sub (fun _ h => List.mem_append_left _ (List.mem_append_left _ (List.mem_append_right _ h))) (by decide +kernel)))
set_option maxRecDepth 20000 in
theorem gL_law_L_holds : GoodIn wsL_law (va_wsS RL 101 yL_holds wsL_holds) := goodIn_app (goodIn_of _ (by decide +kernel)) ggL_law_L_holds
