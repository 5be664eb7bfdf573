theorem qX4_guard_0 : GoodIn wsL_law [Cond.code yX4_guard cX4_guard 2 (some .int)] := goodIn_r _ [281] (by decide +kernel) (by decide +kernel)
set_option maxRecDepth 20000 in
theorem qX4_guard_r1 : GoodIn wsL_law wsX4_guard_r1 := goodIn_r _ [114, 115, 17, 12, 117, 119, 120, 2, 121, 75, 76, 77, 258, 259, 260, 16, 261, 59, 262, 263, 264, 79, 80, 11] (by decide +kernel) (by decide +kernel)
set_option maxRecDepth 20000 in
theorem qX4_guard_r2 : GoodIn wsL_law wsX4_guard_r2 := goodIn_r _ [81, 31, 82, 83, 84, 85, 32, 33, 34, 38, 86, 87, 88, 89, 90, 91, 37, 92, 43, 93, 44, 49, 50, 51] (by decide +kernel) (by decide +kernel)
set_option maxRecDepth 20000 in
theorem qX4_guard_r3 : GoodIn wsL_law wsX4_guard_r3 := goodIn_r _ [52, 53, 122, 123, 124] (by decide +kernel) (by decide +kernel)
set_option maxRecDepth 20000 in
theorem ggL_law_X4_guard : GoodIn wsL_law wsX4_guard := goodIn_app qX4_guard_0 (goodIn_app (goodIn_app (goodIn_app (goodIn_app (goodIn_app (goodIn_app qX4_guard_r1 (goodIn_app qX4_guard_r2 qX4_guard_r3)) (goodIn_sub inlX4 (by decide +kernel))) (goodIn_sub inlX2 (by decide +kernel))) (goodIn_sub inlX1 (by decide +kernel))) (goodIn_sub inlX0 (by decide +kernel))) (goodIn_sub (fun _ h => List.mem_append_left _ (List.mem_append_right _ h)) (by decide +kernel)))
set_option maxRecDepth 20000 in
theorem gL_law_X4_guard : GoodIn wsL_law (wsV RL 46 RX4 yX4_guard wsX4_guard) := goodIn_app (goodIn_of _ (by decide +kernel)) ggL_law_X4_guard
