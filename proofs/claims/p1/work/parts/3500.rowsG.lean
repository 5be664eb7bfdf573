set_option maxRecDepth 20000 in
theorem ggL_law_X4_init : GoodIn wsL_law wsX4_init := goodIn_r _ [9, 10, 11, 12, 13, 14, 15, 16, 17, 18, 19, 20, 21, 22, 23, 24, 25, 26, 27, 28, 29, 30, 31, 32, 33, 34, 35, 36, 37, 38, 39, 40, 41, 42, 43, 44, 45, 46, 47, 48, 49, 50, 51, 52, 53, 54, 55, 56, 57, 58, 59, 60, 61, 62, 63, 64, 65, 66, 67, 68, 69, 883, 884, 885, 886, 887, 888, 889, 890, 866, 867, 868, 869, 870, 871, 872, 891, 892, 893, 894, 895, 896, 897, 898, 899, 900, 901, 902, 903, 904, 905] (by decide +kernel) (by decide +kernel)
set_option maxRecDepth 20000 in
theorem gL_law_X4_init : GoodIn wsL_law (wsX4_init) := ggL_law_X4_init
set_option maxRecDepth 20000 in
theorem ggL_law_X5_init : GoodIn wsL_law wsX5_init := goodIn_r _ [72, 73, 11, 12, 29, 74, 23, 75, 76, 77, 873, 874, 875, 876, 877, 878, 879, 880, 881, 882] (by decide +kernel) (by decide +kernel)
set_option maxRecDepth 20000 in
theorem gL_law_X5_init : GoodIn wsL_law (wsX5_init) := ggL_law_X5_init
set_option maxRecDepth 20000 in
theorem ggL_law_L_cross : GoodIn wsL_law wsL_cross := goodIn_ca (goodIn_r _ [81, 82, 83, 84, 85, 2, 86, 87, 88, 21, 16, 89, 90, 91, 92, 93, 94, 95, 96, 97, 98, 99, 100, 101, 20, 102, 63, 103, 104, 105, 106, 107, 15, 108, 35, 109, 110, 111, 112, 36, 37, 38, 42, 113, 114, 115, 116, 117, 118, 41, 119, 47, 120, 48, 53, 54, 55, 56, 57, 121, 122, 123, 124, 125, 126, 127, 128, 129, 130, 131, 132, 133, 134, 135, 136, 137, 138, 139, 140, 141, 142, 866, 867, 868, 869, 870, 871, 872, 883, 884, 885, 886, 887, 888, 889, 890, 891, 892, 893, 899, 900, 901, 902, 903, 904, 905] (by decide +kernel) (by decide +kernel)) (goodIn_sub (fun _ h => List.mem_append_left _ (List.mem_append_left _ (List.mem_append_right _ h))) (by decide +kernel))
set_option maxRecDepth 20000 in
theorem gL_law_L_cross : GoodIn wsL_law (va_wsS RL 92 yL_cross wsL_cross) := goodIn_app (goodIn_of _ (by decide +kernel)) ggL_law_L_cross
set_option maxRecDepth 20000 in
theorem ggL_law_X5_cross : GoodIn wsL_law wsX5_cross := goodIn_r _ [146, 74, 147, 148, 5, 149, 150, 151, 152, 153, 154, 155, 156, 157, 158, 159, 160, 161, 162, 163, 164, 165, 166, 167, 168, 169, 170, 171, 172, 173, 873, 874, 875, 876, 877, 878, 879, 880, 881, 882] (by decide +kernel) (by decide +kernel)
set_option maxRecDepth 20000 in
theorem gL_law_X5_cross : GoodIn wsL_law (wsV RL 97 RX5 yX5_cross wsX5_cross) := goodIn_app (goodIn_of _ (by decide +kernel)) ggL_law_X5_cross
set_option maxRecDepth 20000 in
theorem ggL_law_X5_thrown : GoodIn wsL_law wsX5_thrown := goodIn_r _ [177, 160, 873, 874, 875, 876, 877, 878, 879, 880, 881, 882] (by decide +kernel) (by decide +kernel)
set_option maxRecDepth 20000 in
theorem gL_law_X5_thrown : GoodIn wsL_law (wsV RL 98 RX5 yX5_thrown wsX5_thrown) := goodIn_app (goodIn_of _ (by decide +kernel)) ggL_law_X5_thrown
set_option maxRecDepth 20000 in
theorem ggL_law_L_lay : GoodIn wsL_law wsL_lay := goodIn_ca (goodIn_ca (goodIn_r _ [180, 82, 181, 182, 183, 184, 2, 185, 87, 88, 186, 187, 21, 16, 90, 91, 92, 93, 94, 95, 99, 100, 101, 20, 102, 63, 103, 104, 105, 106, 107, 15, 108, 35, 109, 110, 111, 112, 36, 37, 38, 42, 113, 114, 115, 116, 117, 118, 41, 119, 47, 120, 48, 53, 54, 55, 56, 57, 188, 189, 190, 191, 121, 122, 123, 124, 125, 126, 127, 128, 129, 130, 131, 132, 133, 134, 135, 136, 137, 138, 139, 140, 141, 866, 867, 868, 869, 870, 871, 872, 891, 892, 893, 883, 884, 885, 886, 887, 888, 889, 890, 899, 900, 901, 902, 903, 904, 905] (by decide +kernel) (by decide +kernel)) (goodIn_sub (fun _ h => List.mem_append_left _ (List.mem_append_left _ (List.mem_append_right _ h))) (by decide +kernel))) (goodIn_sub (fun _ h => List.mem_append_left _ (List.mem_append_right _ h)) (by decide +kernel))
set_option maxRecDepth 20000 in
theorem gL_law_L_lay : GoodIn wsL_law (va_wsS RL 101 yL_lay wsL_lay) := goodIn_app (goodIn_of _ (by decide +kernel)) ggL_law_L_lay
set_option maxRecDepth 20000 in
theorem ggL_law_X5_lay : GoodIn wsL_law wsX5_lay := goodIn_r _ [195, 147, 148, 5, 149, 150, 151, 152, 156, 157, 158, 159, 160, 161, 162, 163, 164, 165, 166, 167, 168, 169, 74, 196, 197, 198, 199, 200, 201, 202, 203, 204, 205, 206, 170, 171, 172, 173, 207, 208, 209, 873, 874, 875, 876, 877, 878, 879, 880, 881, 882] (by decide +kernel) (by decide +kernel)
set_option maxRecDepth 20000 in
theorem gL_law_X5_lay : GoodIn wsL_law (wsV RL 103 RX5 yX5_lay wsX5_lay) := goodIn_app (goodIn_of _ (by decide +kernel)) ggL_law_X5_lay
set_option maxRecDepth 20000 in
theorem ggL_law_L_guard : GoodIn wsL_law wsL_guard := goodIn_ca (goodIn_r _ [212, 82, 213, 214, 215, 2, 216, 87, 88, 21, 16, 217, 90, 91, 92, 93, 94, 95, 99, 100, 101, 20, 102, 63, 103, 104, 105, 106, 107, 15, 108, 35, 109, 110, 111, 112, 36, 37, 38, 42, 113, 114, 115, 116, 117, 118, 41, 119, 47, 120, 48, 53, 54, 55, 56, 57, 142, 133, 134, 866, 867, 868, 869, 870, 871, 872, 883, 884, 885, 886, 887, 888, 889, 890, 891, 892, 893, 899, 900, 901, 902, 903, 904, 905] (by decide +kernel) (by decide +kernel)) (goodIn_sub (fun _ h => List.mem_append_left _ (List.mem_append_left _ (List.mem_append_right _ h))) (by decide +kernel))
set_option maxRecDepth 20000 in
theorem gL_law_L_guard : GoodIn wsL_law (va_wsS RL 104 yL_guard wsL_guard) := goodIn_app (goodIn_of _ (by decide +kernel)) ggL_law_L_guard
set_option maxRecDepth 20000 in
theorem ggL_law_X5_guard : GoodIn wsL_law wsX5_guard := goodIn_r _ [221, 74, 147, 148, 5, 149, 150, 151, 152, 156, 157, 158, 159, 160, 161, 162, 163, 164, 165, 166, 167, 168, 169, 873, 874, 875, 876, 877, 878, 879, 880, 881, 882] (by decide +kernel) (by decide +kernel)
set_option maxRecDepth 20000 in
theorem gL_law_X5_guard : GoodIn wsL_law (wsV RL 107 RX5 yX5_guard wsX5_guard) := goodIn_app (goodIn_of _ (by decide +kernel)) ggL_law_X5_guard
set_option maxRecDepth 20000 in
theorem ggL_law_L_change : GoodIn wsL_law wsL_change := goodIn_ca (goodIn_r _ [224, 82, 225, 226, 227, 2, 228, 87, 88, 21, 16, 96, 97, 98, 93, 94, 95, 99, 100, 101, 20, 102, 63, 103, 104, 105, 106, 107, 15, 108, 35, 109, 110, 111, 112, 36, 37, 38, 42, 113, 114, 115, 116, 117, 118, 41, 119, 47, 120, 48, 53, 54, 55, 56, 57, 229, 230, 231, 232, 233, 234, 235, 236, 133, 134, 135, 136, 137, 138, 139, 140, 141, 866, 867, 868, 869, 870, 871, 872, 891, 892, 893, 883, 884, 885, 886, 887, 888, 889, 890, 899, 900, 901, 902, 903, 904, 905] (by decide +kernel) (by decide +kernel)) (goodIn_sub (fun _ h => List.mem_append_left _ (List.mem_append_left _ (List.mem_append_right _ h))) (by decide +kernel))
set_option maxRecDepth 20000 in
theorem gL_law_L_change : GoodIn wsL_law (va_wsS RL 108 yL_change wsL_change) := goodIn_app (goodIn_of _ (by decide +kernel)) ggL_law_L_change
