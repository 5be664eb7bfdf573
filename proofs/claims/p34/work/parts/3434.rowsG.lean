theorem qX4_count_0 : GoodIn wsL_law [Cond.code yX4_count cX4_count 2 (some .int)] := goodIn_r _ [182] (by decide +kernel) (by decide +kernel)
set_option maxRecDepth 20000 in
theorem qX4_count_r1 : GoodIn wsL_law wsX4_count_r1 := goodIn_r _ [70, 71, 12, 183, 184, 117, 17, 185, 94, 95, 96, 11, 97, 31, 98, 99, 100, 101, 102, 103, 104, 186, 187, 188] (by decide +kernel) (by decide +kernel)
set_option maxRecDepth 20000 in
theorem qX4_count_r2 : GoodIn wsL_law wsX4_count_r2 := goodIn_r _ [189, 178, 167, 168, 169, 123, 2, 124, 190, 191, 192, 193, 137, 138, 139, 140, 34, 141, 142, 143, 144, 145, 146, 147] (by decide +kernel) (by decide +kernel)
set_option maxRecDepth 20000 in
theorem qX4_count_r3 : GoodIn wsL_law wsX4_count_r3 := goodIn_r _ [148, 33, 149, 150, 151, 152, 86, 153, 194, 195, 196, 197, 198, 199, 200, 201, 26, 133, 134, 135, 136, 129, 130, 131] (by decide +kernel) (by decide +kernel)
set_option maxRecDepth 20000 in
theorem qX4_count_r4 : GoodIn wsL_law wsX4_count_r4 := goodIn_r _ [132, 202, 203, 204, 205, 206, 207, 208] (by decide +kernel) (by decide +kernel)
set_option maxRecDepth 20000 in
theorem ggL_law_X4_count : GoodIn wsL_law wsX4_count := goodIn_app qX4_count_0 (goodIn_app (goodIn_app (goodIn_app (goodIn_app (goodIn_app qX4_count_r1 (goodIn_app qX4_count_r2 (goodIn_app qX4_count_r3 qX4_count_r4))) (goodIn_sub inlX4 (by decide +kernel))) (goodIn_sub inlX2 (by decide +kernel))) (goodIn_sub inlX1 (by decide +kernel))) (goodIn_sub (fun _ h => List.mem_append_left _ (List.mem_append_left _ (List.mem_append_right _ h))) (by decide +kernel)))
set_option maxRecDepth 20000 in
theorem gL_law_X4_count : GoodIn wsL_law (wsV RL 13 RX4 yX4_count wsX4_count) := goodIn_app (goodIn_of _ (by decide +kernel)) ggL_law_X4_count
