theorem qX4_keep_0 : GoodIn wsL_law [Cond.code yX4_keep cX4_keep 2 (some .int)] := goodIn_r _ [69] (by decide +kernel) (by decide +kernel)
set_option maxRecDepth 20000 in
theorem qX4_keep_r1 : GoodIn wsL_law wsX4_keep_r1 := goodIn_r _ [70, 71, 18, 12, 20, 72, 73, 2, 74, 75, 76, 77, 78, 79, 80, 11, 81, 31, 82, 83, 84, 85, 32, 33] (by decide +kernel) (by decide +kernel)
set_option maxRecDepth 20000 in
theorem qX4_keep_r2 : GoodIn wsL_law wsX4_keep_r2 := goodIn_r _ [34, 38, 86, 87, 88, 89, 90, 91, 37, 92, 43, 93, 44, 49, 50, 51, 52, 53, 94, 95, 96, 97, 98, 99] (by decide +kernel) (by decide +kernel)
set_option maxRecDepth 20000 in
theorem qX4_keep_r3 : GoodIn wsL_law wsX4_keep_r3 := goodIn_r _ [100, 101, 102, 103, 104] (by decide +kernel) (by decide +kernel)
set_option maxRecDepth 20000 in
theorem ggL_law_X4_keep : GoodIn wsL_law wsX4_keep := goodIn_app qX4_keep_0 (goodIn_app (goodIn_app (goodIn_app (goodIn_app (goodIn_app qX4_keep_r1 (goodIn_app qX4_keep_r2 qX4_keep_r3)) (goodIn_sub inlX4 (by decide +kernel))) (goodIn_sub inlX2 (by decide +kernel))) (goodIn_sub inlX0 (by decide +kernel))) (goodIn_sub (fun _ h => List.mem_append_left _ (List.mem_append_left _ (List.mem_append_right _ h))) (by decide +kernel)))
set_option maxRecDepth 20000 in
theorem gL_law_X4_keep : GoodIn wsL_law (wsV RL 85 RX4 yX4_keep wsX4_keep) := goodIn_app (goodIn_of _ (by decide +kernel)) ggL_law_X4_keep
