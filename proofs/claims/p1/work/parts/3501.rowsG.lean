set_option maxRecDepth 20000 in
theorem ggL_law_X5_change : GoodIn wsL_law wsX5_change := goodIn_r _ [240, 74, 153, 154, 5, 155, 150, 151, 152, 156, 157, 158, 159, 160, 161, 162, 163, 164, 165, 166, 167, 168, 169, 241, 242, 243, 244, 204, 205, 206, 207, 208, 209, 873, 874, 875, 876, 877, 878, 879, 880, 881, 882] (by decide +kernel) (by decide +kernel)
set_option maxRecDepth 20000 in
theorem gL_law_X5_change : GoodIn wsL_law (wsV RL 110 RX5 yX5_change wsX5_change) := goodIn_app (goodIn_of _ (by decide +kernel)) ggL_law_X5_change
set_option maxRecDepth 20000 in
theorem ggL_law_L_set : GoodIn wsL_law wsL_set := goodIn_ca (goodIn_ca (goodIn_r _ [247, 82, 181, 248, 249, 250, 2, 251, 87, 88, 186, 187, 21, 16, 252, 253, 254, 255, 93, 94, 95, 99, 100, 101, 20, 102, 63, 103, 104, 105, 106, 107, 15, 108, 35, 109, 110, 111, 112, 36, 37, 38, 42, 113, 114, 115, 116, 117, 118, 41, 119, 47, 120, 48, 53, 54, 55, 56, 57, 866, 867, 868, 869, 870, 871, 872, 883, 884, 885, 886, 887, 888, 889, 890, 891, 892, 893, 899, 900, 901, 902, 903, 904, 905] (by decide +kernel) (by decide +kernel)) (goodIn_sub (fun _ h => List.mem_append_left _ (List.mem_append_left _ (List.mem_append_right _ h))) (by decide +kernel))) (goodIn_sub (fun _ h => List.mem_append_left _ (List.mem_append_right _ h)) (by decide +kernel))
set_option maxRecDepth 20000 in
theorem gL_law_L_set : GoodIn wsL_law (va_wsS RL 111 yL_set wsL_set) := goodIn_app (goodIn_of _ (by decide +kernel)) ggL_law_L_set
set_option maxRecDepth 20000 in
theorem ggL_law_X5_set : GoodIn wsL_law wsX5_set := goodIn_r _ [259, 74, 150, 151, 5, 152, 156, 157, 158, 159, 160, 161, 162, 163, 164, 165, 166, 167, 168, 169, 873, 874, 875, 876, 877, 878, 879, 880, 881, 882] (by decide +kernel) (by decide +kernel)
set_option maxRecDepth 20000 in
theorem gL_law_X5_set : GoodIn wsL_law (wsV RL 113 RX5 yX5_set wsX5_set) := goodIn_app (goodIn_of _ (by decide +kernel)) ggL_law_X5_set
set_option maxRecDepth 20000 in
theorem ggL_law_L_read : GoodIn wsL_law wsL_read := goodIn_ca (goodIn_r _ [262, 82, 263, 264, 265, 2, 266, 87, 88, 21, 16, 90, 91, 92, 93, 94, 95, 99, 100, 101, 20, 102, 63, 103, 104, 105, 106, 107, 15, 108, 35, 109, 110, 111, 112, 36, 37, 38, 42, 113, 114, 115, 116, 117, 118, 41, 119, 47, 120, 48, 53, 54, 55, 56, 57, 267, 268, 269, 270, 271, 272, 273, 274, 275, 276, 277, 278, 133, 134, 279, 280, 281, 282, 283, 284, 131, 285, 286, 287, 288, 289, 290, 189, 190, 191, 125, 126, 127, 128, 129, 130, 132, 866, 867, 868, 869, 870, 871, 872, 891, 892, 893, 883, 884, 885, 886, 887, 888, 889, 890, 899, 900, 901, 902, 903, 904, 905] (by decide +kernel) (by decide +kernel)) (goodIn_sub (fun _ h => List.mem_append_left _ (List.mem_append_left _ (List.mem_append_right _ h))) (by decide +kernel))
set_option maxRecDepth 20000 in
theorem gL_law_L_read : GoodIn wsL_law (va_wsS RL 114 yL_read wsL_read) := goodIn_app (goodIn_of _ (by decide +kernel)) ggL_law_L_read
set_option maxRecDepth 20000 in
theorem ggL_law_X5_read : GoodIn wsL_law wsX5_read := goodIn_r _ [294, 147, 148, 5, 149, 150, 151, 152, 156, 157, 158, 159, 160, 161, 162, 163, 164, 165, 166, 167, 168, 169, 74, 295, 296, 297, 298, 299, 300, 301, 302, 303, 304, 305, 306, 307, 308, 309, 310, 311, 312, 313, 314, 315, 316, 317, 318, 204, 205, 206, 200, 201, 202, 203, 170, 171, 172, 173, 873, 874, 875, 876, 877, 878, 879, 880, 881, 882] (by decide +kernel) (by decide +kernel)
set_option maxRecDepth 20000 in
theorem gL_law_X5_read : GoodIn wsL_law (wsV RL 116 RX5 yX5_read wsX5_read) := goodIn_app (goodIn_of _ (by decide +kernel)) ggL_law_X5_read
set_option maxRecDepth 20000 in
theorem ggL_law_X4_start : GoodIn wsL_law wsX4_start := goodIn_r _ [322, 21, 16, 323, 324, 99, 100, 101, 20, 102, 63, 103, 104, 105, 106, 107, 15, 108, 35, 109, 110, 111, 112, 36, 37, 38, 42, 113, 114, 115, 116, 117, 118, 41, 119, 47, 120, 48, 53, 54, 55, 56, 57, 325, 50, 51, 52, 866, 867, 868, 869, 870, 871, 872, 883, 884, 885, 886, 887, 888, 889, 890, 899, 900, 901, 902, 903, 904, 905, 891, 892, 893] (by decide +kernel) (by decide +kernel)
set_option maxRecDepth 20000 in
theorem gL_law_X4_start : GoodIn wsL_law (wsV RL 117 RX4 yX4_start wsX4_start) := goodIn_app (goodIn_of _ (by decide +kernel)) ggL_law_X4_start
set_option maxRecDepth 20000 in
theorem ggL_law_X5_start : GoodIn wsL_law wsX5_start := goodIn_r _ [329, 160, 74, 161, 162, 163, 5, 164, 165, 166, 167, 168, 169, 873, 874, 875, 876, 877, 878, 879, 880, 881, 882] (by decide +kernel) (by decide +kernel)
set_option maxRecDepth 20000 in
theorem gL_law_X5_start : GoodIn wsL_law (wsV RL 120 RX5 yX5_start wsX5_start) := goodIn_app (goodIn_of _ (by decide +kernel)) ggL_law_X5_start
set_option maxRecDepth 20000 in
theorem ggL_law_L_go : GoodIn wsL_law wsL_go := goodIn_ca (goodIn_r _ [332, 181, 333, 334, 335, 2, 336, 186, 187, 21, 16, 93, 94, 95, 99, 100, 101, 20, 102, 63, 103, 104, 105, 106, 107, 15, 108, 35, 109, 110, 111, 112, 36, 37, 38, 42, 113, 114, 115, 116, 117, 118, 41, 119, 47, 120, 48, 53, 54, 55, 56, 57, 337, 338, 339, 340, 341, 342, 343, 268, 269, 270, 271, 272, 273, 274, 275, 276, 277, 278, 133, 134, 279, 280, 281, 282, 283, 284, 131, 285, 286, 287, 288, 289, 290, 189, 190, 191, 125, 126, 127, 128, 129, 130, 132, 344, 345, 346, 347, 348, 349, 350, 351, 866, 867, 868, 869, 870, 871, 872, 891, 892, 893, 883, 884, 885, 886, 887, 888, 889, 890, 899, 900, 901, 902, 903, 904, 905] (by decide +kernel) (by decide +kernel)) (goodIn_sub (fun _ h => List.mem_append_left _ (List.mem_append_right _ h)) (by decide +kernel))
set_option maxRecDepth 20000 in
theorem gL_law_L_go : GoodIn wsL_law (va_wsS RL 121 yL_go wsL_go) := goodIn_app (goodIn_of _ (by decide +kernel)) ggL_law_L_go
set_option maxRecDepth 20000 in
theorem ggL_law_X5_go : GoodIn wsL_law wsX5_go := goodIn_r _ [355, 150, 151, 5, 152, 156, 157, 158, 159, 160, 161, 162, 163, 164, 165, 166, 167, 168, 169, 74, 356, 357, 358, 359, 360, 361, 362, 363, 295, 296, 297, 298, 299, 300, 301, 302, 303, 304, 305, 306, 307, 308, 309, 310, 311, 312, 313, 314, 315, 316, 317, 318, 204, 205, 206, 200, 201, 202, 203, 170, 171, 172, 173, 364, 365, 366, 367, 873, 874, 875, 876, 877, 878, 879, 880, 881, 882] (by decide +kernel) (by decide +kernel)
set_option maxRecDepth 20000 in
theorem gL_law_X5_go : GoodIn wsL_law (wsV RL 123 RX5 yX5_go wsX5_go) := goodIn_app (goodIn_of _ (by decide +kernel)) ggL_law_X5_go
set_option maxRecDepth 20000 in
theorem ggL_law_L_append : GoodIn wsL_law wsL_append := goodIn_ca (goodIn_ca (goodIn_r _ [370, 181, 371, 372, 373, 374, 2, 375, 186, 187, 376, 377, 28, 378, 93, 94, 95, 379, 380, 381, 27, 382, 383, 68, 866, 867, 868, 869, 870, 871, 872, 894, 895, 896, 897, 898] (by decide +kernel) (by decide +kernel)) (goodIn_sub (fun _ h => List.mem_append_left _ (List.mem_append_right _ h)) (by decide +kernel))) (goodIn_sub (fun _ h => List.mem_append_right _ h) (by decide +kernel))
set_option maxRecDepth 20000 in
theorem gL_law_L_append : GoodIn wsL_law (va_wsS RL 124 yL_append wsL_append) := goodIn_app (goodIn_of _ (by decide +kernel)) ggL_law_L_append
