set_option maxRecDepth 20000 in
theorem ggL_law_X5_keep : GoodIn wsL_law wsX5_keep := goodIn_r _ [495, 75, 150, 151, 5, 152, 156, 157, 158, 159, 160, 166, 167, 168, 169, 74, 496, 497, 498, 499, 207, 208, 209, 873, 874, 875, 876, 877, 878, 879, 880, 881, 882] (by decide +kernel) (by decide +kernel)
set_option maxRecDepth 20000 in
theorem gL_law_X5_keep : GoodIn wsL_law (wsV RL 143 RX5 yX5_keep wsX5_keep) := goodIn_app (goodIn_of _ (by decide +kernel)) ggL_law_X5_keep
set_option maxRecDepth 20000 in
theorem ggL_law_L_goBack : GoodIn wsL_law wsL_goBack := goodIn_ca (goodIn_ca (goodIn_r _ [502, 181, 371, 503, 504, 505, 2, 506, 186, 187, 376, 377, 24, 21, 16, 22, 484, 485, 486, 93, 94, 95, 99, 100, 101, 20, 102, 63, 103, 104, 105, 106, 107, 15, 108, 35, 109, 110, 111, 112, 36, 37, 38, 42, 113, 114, 115, 116, 117, 118, 41, 119, 47, 120, 48, 53, 54, 55, 56, 57, 487, 488, 489, 490, 491, 135, 136, 137, 138, 139, 140, 141, 866, 867, 868, 869, 870, 871, 872, 891, 892, 893, 883, 884, 885, 886, 887, 888, 889, 890, 899, 900, 901, 902, 903, 904, 905] (by decide +kernel) (by decide +kernel)) (goodIn_sub (fun _ h => List.mem_append_left _ (List.mem_append_right _ h)) (by decide +kernel))) (goodIn_sub (fun _ h => List.mem_append_right _ h) (by decide +kernel))
set_option maxRecDepth 20000 in
theorem gL_law_L_goBack : GoodIn wsL_law (va_wsS RL 144 yL_goBack wsL_goBack) := goodIn_app (goodIn_of _ (by decide +kernel)) ggL_law_L_goBack
set_option maxRecDepth 20000 in
theorem ggL_law_X5_goBack : GoodIn wsL_law wsX5_goBack := goodIn_r _ [510, 75, 150, 151, 5, 152, 156, 157, 158, 159, 160, 161, 162, 163, 164, 165, 166, 167, 168, 169, 74, 496, 497, 498, 499, 207, 208, 209, 873, 874, 875, 876, 877, 878, 879, 880, 881, 882] (by decide +kernel) (by decide +kernel)
set_option maxRecDepth 20000 in
theorem gL_law_X5_goBack : GoodIn wsL_law (wsV RL 146 RX5 yX5_goBack wsX5_goBack) := goodIn_app (goodIn_of _ (by decide +kernel)) ggL_law_X5_goBack
set_option maxRecDepth 20000 in
theorem ggL_law_L_undo : GoodIn wsL_law wsL_undo := goodIn_ca (goodIn_r _ [513, 371, 514, 515, 516, 2, 517, 376, 377, 21, 518, 16, 519, 520, 521, 20, 522, 104, 63, 103, 105, 106, 107, 15, 108, 35, 109, 110, 111, 112, 36, 37, 38, 42, 113, 114, 115, 116, 117, 118, 41, 119, 47, 120, 48, 53, 54, 55, 56, 57, 866, 867, 868, 869, 870, 871, 872, 891, 892, 893, 883, 884, 885, 886, 887, 888, 889, 890, 899, 900, 901, 902, 903, 904, 905] (by decide +kernel) (by decide +kernel)) (goodIn_sub (fun _ h => List.mem_append_right _ h) (by decide +kernel))
set_option maxRecDepth 20000 in
theorem gL_law_L_undo : GoodIn wsL_law (va_wsS RL 147 yL_undo wsL_undo) := goodIn_app (goodIn_of _ (by decide +kernel)) ggL_law_L_undo
set_option maxRecDepth 20000 in
theorem ggL_law_X5_undo : GoodIn wsL_law wsX5_undo := goodIn_r _ [526, 165, 156, 157, 158, 5, 159, 160, 166, 167, 168, 169, 74, 873, 874, 875, 876, 877, 878, 879, 880, 881, 882] (by decide +kernel) (by decide +kernel)
set_option maxRecDepth 20000 in
theorem gL_law_X5_undo : GoodIn wsL_law (wsV RL 150 RX5 yX5_undo wsX5_undo) := goodIn_app (goodIn_of _ (by decide +kernel)) ggL_law_X5_undo
set_option maxRecDepth 20000 in
theorem ggL_law_L_threadOf : GoodIn wsL_law wsL_threadOf := goodIn_ca (goodIn_ca (goodIn_r _ [529, 82, 181, 530, 531, 532, 2, 533, 87, 88, 186, 187, 16, 89, 217, 534, 90, 91, 92, 93, 94, 95, 142, 133, 134, 535, 536, 537, 15, 538, 35, 290, 189, 190, 191, 38, 461, 272, 273, 274, 275, 276, 277, 278, 279, 280, 281, 282, 283, 284, 131, 285, 37, 286, 287, 288, 289, 113, 539, 136, 137, 138, 139, 140, 141, 540, 866, 867, 868, 869, 870, 871, 872, 883, 884, 885, 886, 887, 888, 889, 890] (by decide +kernel) (by decide +kernel)) (goodIn_sub (fun _ h => List.mem_append_left _ (List.mem_append_left _ (List.mem_append_right _ h))) (by decide +kernel))) (goodIn_sub (fun _ h => List.mem_append_left _ (List.mem_append_right _ h)) (by decide +kernel))
set_option maxRecDepth 20000 in
theorem gL_law_L_threadOf : GoodIn wsL_law (va_wsS RL 151 yL_threadOf wsL_threadOf) := goodIn_app (goodIn_of _ (by decide +kernel)) ggL_law_L_threadOf
set_option maxRecDepth 20000 in
theorem ggL_law_X5_threadOf : GoodIn wsL_law wsX5_threadOf := goodIn_r _ [544, 147, 148, 5, 149, 150, 151, 152, 156, 157, 158, 159, 160, 545, 546, 547, 548, 74, 549, 550, 551, 552, 200, 201, 202, 203, 299, 300, 301, 302, 303, 304, 305, 306, 307, 308, 309, 310, 311, 312, 313, 314, 315, 316, 317, 318, 204, 205, 206, 207, 208, 209, 873, 874, 875, 876, 877, 878, 879, 880, 881, 882] (by decide +kernel) (by decide +kernel)
set_option maxRecDepth 20000 in
theorem gL_law_X5_threadOf : GoodIn wsL_law (wsV RL 153 RX5 yX5_threadOf wsX5_threadOf) := goodIn_app (goodIn_of _ (by decide +kernel)) ggL_law_X5_threadOf
set_option maxRecDepth 20000 in
theorem ggL_law_L_ringOf : GoodIn wsL_law wsL_ringOf := goodIn_ca (goodIn_ca (goodIn_r _ [555, 82, 181, 556, 557, 558, 2, 559, 87, 88, 186, 187, 16, 560, 96, 97, 98, 93, 94, 95, 561, 234, 235, 15, 236, 35, 133, 134, 539, 136, 137, 138, 139, 140, 141, 562, 563, 564, 565, 275, 276, 277, 278, 38, 279, 280, 281, 282, 283, 284, 131, 285, 37, 286, 287, 288, 289, 113, 566, 567, 568, 569, 233, 866, 867, 868, 869, 870, 871, 872, 883, 884, 885, 886, 887, 888, 889, 890] (by decide +kernel) (by decide +kernel)) (goodIn_sub (fun _ h => List.mem_append_left _ (List.mem_append_left _ (List.mem_append_right _ h))) (by decide +kernel))) (goodIn_sub (fun _ h => List.mem_append_left _ (List.mem_append_right _ h)) (by decide +kernel))
set_option maxRecDepth 20000 in
theorem gL_law_L_ringOf : GoodIn wsL_law (va_wsS RL 154 yL_ringOf wsL_ringOf) := goodIn_app (goodIn_of _ (by decide +kernel)) ggL_law_L_ringOf
set_option maxRecDepth 20000 in
theorem ggL_law_X5_ringOf : GoodIn wsL_law wsX5_ringOf := goodIn_r _ [573, 153, 154, 5, 155, 150, 151, 152, 156, 157, 158, 159, 160, 574, 575, 576, 577, 74, 241, 242, 243, 244, 204, 205, 206, 207, 208, 209, 578, 579, 580, 581, 303, 304, 305, 306, 307, 308, 309, 310, 311, 312, 313, 314, 315, 316, 317, 318, 873, 874, 875, 876, 877, 878, 879, 880, 881, 882] (by decide +kernel) (by decide +kernel)
set_option maxRecDepth 20000 in
theorem gL_law_X5_ringOf : GoodIn wsL_law (wsV RL 156 RX5 yX5_ringOf wsX5_ringOf) := goodIn_app (goodIn_of _ (by decide +kernel)) ggL_law_X5_ringOf
set_option maxRecDepth 20000 in
theorem ggL_law_L_strength : GoodIn wsL_law wsL_strength := goodIn_ca (goodIn_ca (goodIn_r _ [584, 82, 181, 585, 586, 587, 2, 588, 87, 88, 186, 187, 16, 90, 91, 92, 93, 94, 95, 96, 97, 98, 589, 590, 591, 15, 592, 35, 133, 134, 286, 287, 288, 289, 113, 593, 280, 281, 282, 283, 284, 131, 285, 37, 866, 867, 868, 869, 870, 871, 872, 883, 884, 885, 886, 887, 888, 889, 890] (by decide +kernel) (by decide +kernel)) (goodIn_sub (fun _ h => List.mem_append_left _ (List.mem_append_left _ (List.mem_append_right _ h))) (by decide +kernel))) (goodIn_sub (fun _ h => List.mem_append_left _ (List.mem_append_right _ h)) (by decide +kernel))
set_option maxRecDepth 20000 in
theorem gL_law_L_strength : GoodIn wsL_law (va_wsS RL 157 yL_strength wsL_strength) := goodIn_app (goodIn_of _ (by decide +kernel)) ggL_law_L_strength
