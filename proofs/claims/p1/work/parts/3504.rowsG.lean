set_option maxRecDepth 20000 in
theorem ggL_law_X5_strength : GoodIn wsL_law wsX5_strength := goodIn_r _ [597, 147, 148, 5, 149, 150, 151, 152, 153, 154, 155, 156, 157, 158, 159, 160, 307, 308, 309, 310, 74, 311, 312, 313, 314, 315, 316, 317, 318, 204, 205, 206, 873, 874, 875, 876, 877, 878, 879, 880, 881, 882] (by decide +kernel) (by decide +kernel)
set_option maxRecDepth 20000 in
theorem gL_law_X5_strength : GoodIn wsL_law (wsV RL 160 RX5 yX5_strength wsX5_strength) := goodIn_app (goodIn_of _ (by decide +kernel)) ggL_law_X5_strength
set_option maxRecDepth 20000 in
theorem ggL_law_L_machine : GoodIn wsL_law wsL_machine := goodIn_ca (goodIn_r _ [600, 181, 601, 602, 603, 2, 604, 186, 187, 16, 323, 605, 606, 607, 608, 324, 609, 866, 867, 868, 869, 870, 871, 872, 883, 884, 885, 886, 887, 888, 889, 890, 899, 900, 901, 902, 903, 904, 905] (by decide +kernel) (by decide +kernel)) (goodIn_sub (fun _ h => List.mem_append_left _ (List.mem_append_right _ h)) (by decide +kernel))
set_option maxRecDepth 20000 in
theorem gL_law_L_machine : GoodIn wsL_law (va_wsS RL 161 yL_machine wsL_machine) := goodIn_app (goodIn_of _ (by decide +kernel)) ggL_law_L_machine
set_option maxRecDepth 20000 in
theorem ggL_law_X5_machine : GoodIn wsL_law wsX5_machine := goodIn_r _ [613, 150, 151, 5, 152, 156, 157, 158, 159, 160, 614, 615, 616, 617, 74, 873, 874, 875, 876, 877, 878, 879, 880, 881, 882] (by decide +kernel) (by decide +kernel)
set_option maxRecDepth 20000 in
theorem gL_law_X5_machine : GoodIn wsL_law (wsV RL 163 RX5 yX5_machine wsX5_machine) := goodIn_app (goodIn_of _ (by decide +kernel)) ggL_law_X5_machine
set_option maxRecDepth 20000 in
theorem ggL_law_L_told : GoodIn wsL_law wsL_told := goodIn_ca (goodIn_r _ [620, 181, 621, 622, 623, 2, 624, 186, 187, 16, 323, 625, 93, 94, 95, 866, 867, 868, 869, 870, 871, 872, 883, 884, 885, 886, 887, 888, 889, 890, 899, 900, 901, 902, 903, 904, 905] (by decide +kernel) (by decide +kernel)) (goodIn_sub (fun _ h => List.mem_append_left _ (List.mem_append_right _ h)) (by decide +kernel))
set_option maxRecDepth 20000 in
theorem gL_law_L_told : GoodIn wsL_law (va_wsS RL 164 yL_told wsL_told) := goodIn_app (goodIn_of _ (by decide +kernel)) ggL_law_L_told
set_option maxRecDepth 20000 in
theorem ggL_law_X5_told : GoodIn wsL_law wsX5_told := goodIn_r _ [629, 150, 151, 5, 152, 156, 157, 158, 159, 160, 630, 631, 632, 633, 74, 873, 874, 875, 876, 877, 878, 879, 880, 881, 882] (by decide +kernel) (by decide +kernel)
set_option maxRecDepth 20000 in
theorem gL_law_X5_told : GoodIn wsL_law (wsV RL 166 RX5 yX5_told wsX5_told) := goodIn_app (goodIn_of _ (by decide +kernel)) ggL_law_X5_told
set_option maxRecDepth 20000 in
theorem ggL_law_L_count : GoodIn wsL_law wsL_count := goodIn_ca (goodIn_r _ [636, 181, 637, 638, 639, 2, 640, 186, 187, 16, 641, 642, 217, 21, 518, 488, 489, 490, 15, 491, 35, 135, 136, 137, 138, 139, 140, 141, 643, 644, 645, 646, 233, 234, 235, 236, 133, 134, 647, 648, 649, 650, 275, 276, 277, 278, 38, 279, 280, 281, 282, 283, 284, 131, 285, 37, 286, 287, 288, 289, 113, 539, 651, 652, 653, 654, 655, 656, 657, 658, 30, 461, 272, 273, 274, 290, 189, 190, 191, 659, 660, 661, 662, 129, 130, 132, 866, 867, 868, 869, 870, 871, 872, 883, 884, 885, 886, 887, 888, 889, 890, 891, 892, 893] (by decide +kernel) (by decide +kernel)) (goodIn_sub (fun _ h => List.mem_append_left _ (List.mem_append_right _ h)) (by decide +kernel))
set_option maxRecDepth 20000 in
theorem gL_law_L_count : GoodIn wsL_law (va_wsS RL 167 yL_count wsL_count) := goodIn_app (goodIn_of _ (by decide +kernel)) ggL_law_L_count
set_option maxRecDepth 20000 in
theorem ggL_law_X5_count : GoodIn wsL_law wsX5_count := goodIn_r _ [666, 150, 151, 5, 152, 156, 157, 158, 159, 160, 667, 668, 669, 670, 74, 165, 496, 497, 498, 499, 207, 208, 209, 671, 672, 673, 674, 241, 242, 243, 244, 204, 205, 206, 675, 676, 677, 678, 299, 300, 301, 302, 303, 304, 305, 306, 307, 308, 309, 310, 311, 312, 313, 314, 315, 316, 317, 318, 200, 201, 202, 203, 549, 550, 551, 552, 679, 680, 681, 682, 683, 684, 685, 686, 873, 874, 875, 876, 877, 878, 879, 880, 881, 882] (by decide +kernel) (by decide +kernel)
set_option maxRecDepth 20000 in
theorem gL_law_X5_count : GoodIn wsL_law (wsV RL 169 RX5 yX5_count wsX5_count) := goodIn_app (goodIn_of _ (by decide +kernel)) ggL_law_X5_count
set_option maxRecDepth 20000 in
theorem ggL_law_L_setting : GoodIn wsL_law wsL_setting := goodIn_ca (goodIn_r _ [689, 82, 690, 691, 692, 2, 693, 87, 88, 16, 252, 253, 254, 255, 93, 94, 95, 866, 867, 868, 869, 870, 871, 872, 883, 884, 885, 886, 887, 888, 889, 890] (by decide +kernel) (by decide +kernel)) (goodIn_sub (fun _ h => List.mem_append_left _ (List.mem_append_left _ (List.mem_append_right _ h))) (by decide +kernel))
set_option maxRecDepth 20000 in
theorem gL_law_L_setting : GoodIn wsL_law (va_wsS RL 170 yL_setting wsL_setting) := goodIn_app (goodIn_of _ (by decide +kernel)) ggL_law_L_setting
set_option maxRecDepth 20000 in
theorem ggL_law_X5_setting : GoodIn wsL_law wsX5_setting := goodIn_r _ [697, 74, 150, 151, 5, 152, 156, 157, 158, 159, 160, 873, 874, 875, 876, 877, 878, 879, 880, 881, 882] (by decide +kernel) (by decide +kernel)
set_option maxRecDepth 20000 in
theorem gL_law_X5_setting : GoodIn wsL_law (wsV RL 172 RX5 yX5_setting wsX5_setting) := goodIn_app (goodIn_of _ (by decide +kernel)) ggL_law_X5_setting
set_option maxRecDepth 20000 in
theorem ggL_law_L_ifLoaded : GoodIn wsL_law wsL_ifLoaded := goodIn_ca (goodIn_r _ [700, 82, 701, 702, 703, 2, 704, 87, 88, 28, 90, 91, 92, 93, 94, 95, 441, 442, 443, 27, 444, 383, 405, 445, 402, 403, 404, 406, 68, 407, 408, 409, 410, 69, 411, 412, 413, 705, 706, 707, 708, 439, 16, 440, 535, 536, 537, 15, 538, 35, 290, 189, 190, 191, 38, 539, 136, 137, 138, 139, 140, 141, 866, 867, 868, 869, 870, 871, 872, 894, 895, 896, 897, 898, 883, 884, 885, 886, 887, 888, 889, 890] (by decide +kernel) (by decide +kernel)) (goodIn_sub (fun _ h => List.mem_append_left _ (List.mem_append_left _ (List.mem_append_right _ h))) (by decide +kernel))
set_option maxRecDepth 20000 in
theorem gL_law_L_ifLoaded : GoodIn wsL_law (va_wsS RL 173 yL_ifLoaded wsL_ifLoaded) := goodIn_app (goodIn_of _ (by decide +kernel)) ggL_law_L_ifLoaded
