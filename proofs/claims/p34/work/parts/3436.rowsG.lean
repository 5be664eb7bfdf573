theorem qX4_undo_0 : GoodIn wsL_law [Cond.code yX4_undo cX4_undo 1 (some .int)] := goodIn_r _ [336] (by decide +kernel) (by decide +kernel)
set_option maxRecDepth 20000 in
theorem qX4_undo_r1 : GoodIn wsL_law wsX4_undo_r1 := goodIn_r _ [331, 332, 17, 185, 12, 337, 338, 339, 16, 340, 263, 59, 262, 264, 79, 80, 11, 81, 31, 82, 83, 84, 85, 32] (by decide +kernel) (by decide +kernel)
set_option maxRecDepth 20000 in
theorem qX4_undo_r2 : GoodIn wsL_law wsX4_undo_r2 := goodIn_r _ [33, 34, 38, 86, 87, 88, 89, 90, 91, 37, 92, 43, 93, 44, 49, 50, 51, 52, 53] (by decide +kernel) (by decide +kernel)
set_option maxRecDepth 20000 in
theorem ggL_law_X4_undo : GoodIn wsL_law wsX4_undo := goodIn_app qX4_undo_0 (goodIn_app (goodIn_app (goodIn_app (goodIn_app (goodIn_app (goodIn_app qX4_undo_r1 qX4_undo_r2) (goodIn_sub inlX4 (by decide +kernel))) (goodIn_sub inlX1 (by decide +kernel))) (goodIn_sub inlX2 (by decide +kernel))) (goodIn_sub inlX0 (by decide +kernel))) (goodIn_sub (fun _ h => List.mem_append_right _ h) (by decide +kernel)))
set_option maxRecDepth 20000 in
theorem gL_law_X4_undo : GoodIn wsL_law (wsV RL 97 RX4 yX4_undo wsX4_undo) := goodIn_app (goodIn_of _ (by decide +kernel)) ggL_law_X4_undo
theorem qX4_threadOf_0 : GoodIn wsL_law [Cond.code yX4_threadOf cX4_threadOf 3 (some .int)] := goodIn_r _ [113] (by decide +kernel) (by decide +kernel)
set_option maxRecDepth 20000 in
theorem qX4_threadOf_r1 : GoodIn wsL_law wsX4_threadOf_r1 := goodIn_r _ [114, 115, 70, 71, 12, 116, 117, 118, 119, 120, 2, 121, 75, 76, 77, 122, 123, 124, 125, 126, 127, 11, 128, 31] (by decide +kernel) (by decide +kernel)
set_option maxRecDepth 20000 in
theorem qX4_threadOf_r2 : GoodIn wsL_law wsX4_threadOf_r2 := goodIn_r _ [129, 130, 131, 132, 34, 133, 134, 135, 136, 137, 138, 139, 140, 141, 142, 143, 144, 145, 146, 147, 148, 33, 149, 150] (by decide +kernel) (by decide +kernel)
set_option maxRecDepth 20000 in
theorem qX4_threadOf_r3 : GoodIn wsL_law wsX4_threadOf_r3 := goodIn_r _ [151, 152, 86, 153, 99, 100, 101, 102, 103, 104, 154] (by decide +kernel) (by decide +kernel)
set_option maxRecDepth 20000 in
theorem ggL_law_X4_threadOf : GoodIn wsL_law wsX4_threadOf := goodIn_app qX4_threadOf_0 (goodIn_app (goodIn_app (goodIn_app (goodIn_app (goodIn_app qX4_threadOf_r1 (goodIn_app qX4_threadOf_r2 qX4_threadOf_r3)) (goodIn_sub inlX4 (by decide +kernel))) (goodIn_sub inlX2 (by decide +kernel))) (goodIn_sub (fun _ h => List.mem_append_left _ (List.mem_append_right _ h)) (by decide +kernel))) (goodIn_sub (fun _ h => List.mem_append_left _ (List.mem_append_left _ (List.mem_append_right _ h))) (by decide +kernel)))
set_option maxRecDepth 20000 in
theorem gL_law_X4_threadOf : GoodIn wsL_law (wsV RL 22 RX4 yX4_threadOf wsX4_threadOf) := goodIn_app (goodIn_of _ (by decide +kernel)) ggL_law_X4_threadOf
