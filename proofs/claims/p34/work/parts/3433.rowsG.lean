theorem qL_looks_0 : GoodIn wsL_law [Cond.code yL_looks cL_looks 4 (some .long)] := goodIn_r _ [244] (by decide +kernel) (by decide +kernel)
set_option maxRecDepth 20000 in
theorem qL_looks_r1 : GoodIn wsL_law wsL_looks_r1 := goodIn_r _ [245, 246, 179, 180, 181, 2, 182, 70, 71, 12, 183, 184, 117, 17, 185, 94, 95, 96, 11, 97, 31, 98, 99, 100] (by decide +kernel) (by decide +kernel)
set_option maxRecDepth 20000 in
theorem qL_looks_r2 : GoodIn wsL_law wsL_looks_r2 := goodIn_r _ [101, 102, 103, 104, 186, 187, 188, 189, 178, 167, 168, 169, 123, 124, 190, 191, 192, 193, 137, 138, 139, 140, 34, 141] (by decide +kernel) (by decide +kernel)
set_option maxRecDepth 20000 in
theorem qL_looks_r3 : GoodIn wsL_law wsL_looks_r3 := goodIn_r _ [142, 143, 144, 145, 146, 147, 148, 33, 149, 150, 151, 152, 86, 153, 194, 195, 196, 197, 198, 199, 200, 201, 26, 133] (by decide +kernel) (by decide +kernel)
set_option maxRecDepth 20000 in
theorem qL_looks_r4 : GoodIn wsL_law wsL_looks_r4 := goodIn_r _ [134, 135, 136, 129, 130, 131, 132, 202, 203, 204, 205, 206, 207, 208, 209, 210, 211, 212, 213, 214, 215, 216, 217, 218] (by decide +kernel) (by decide +kernel)
set_option maxRecDepth 20000 in
theorem qL_looks_r5 : GoodIn wsL_law wsL_looks_r5 := goodIn_r _ [219, 110, 111, 112, 113, 114, 115, 116, 118, 119, 120, 121, 75, 76, 77, 122, 125, 126, 127, 128, 154, 158, 159, 160] (by decide +kernel) (by decide +kernel)
set_option maxRecDepth 20000 in
theorem qL_looks_r6 : GoodIn wsL_law wsL_looks_r6 := goodIn_r _ [161, 162, 163, 164, 165, 166, 170, 171, 172, 173, 174, 175, 176, 177, 233, 234, 235, 236, 237, 220, 221, 222, 223, 224] (by decide +kernel) (by decide +kernel)
set_option maxRecDepth 20000 in
theorem qL_looks_r7 : GoodIn wsL_law wsL_looks_r7 := goodIn_r _ [225, 226, 227] (by decide +kernel) (by decide +kernel)
set_option maxRecDepth 20000 in
theorem ggL_law_L_looks : GoodIn wsL_law wsL_looks := goodIn_app qL_looks_0 (goodIn_app (goodIn_app (goodIn_app (goodIn_app (goodIn_app (goodIn_app (goodIn_app qL_looks_r1 (goodIn_app qL_looks_r2 (goodIn_app qL_looks_r3 (goodIn_app qL_looks_r4 (goodIn_app qL_looks_r5 (goodIn_app qL_looks_r6 qL_looks_r7)))))) (goodIn_sub inlX4 (by decide +kernel))) (goodIn_sub inlX2 (by decide +kernel))) (goodIn_sub inlX1 (by decide +kernel))) (goodIn_sub inlX0 (by decide +kernel))) (goodIn_sub (fun _ h => List.mem_append_left _ (List.mem_append_left _ (List.mem_append_right _ h))) (by decide +kernel))) (goodIn_sub (fun _ h => List.mem_append_left _ (List.mem_append_right _ h)) (by decide +kernel)))
set_option maxRecDepth 20000 in
theorem gL_law_L_looks : GoodIn wsL_law (va_wsS RL 81 yL_looks wsL_looks) := goodIn_app (goodIn_of _ (by decide +kernel)) ggL_law_L_looks
