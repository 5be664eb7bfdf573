set_option maxRecDepth 20000 in
theorem ggL_law_X5_ifLoaded : GoodIn wsL_law wsX5_ifLoaded := goodIn_r _ [712, 147, 148, 5, 149, 150, 151, 152, 156, 157, 158, 159, 160, 419, 420, 421, 422, 418, 423, 388, 76, 424, 425, 426, 427, 77, 428, 429, 430, 431, 713, 714, 715, 716, 166, 167, 168, 169, 74, 450, 451, 452, 453, 196, 197, 198, 199, 200, 201, 202, 203, 204, 205, 206, 170, 171, 172, 173, 207, 208, 209, 873, 874, 875, 876, 877, 878, 879, 880, 881, 882] (by decide +kernel) (by decide +kernel)
set_option maxRecDepth 20000 in
theorem gL_law_X5_ifLoaded : GoodIn wsL_law (wsV RL 175 RX5 yX5_ifLoaded wsX5_ifLoaded) := goodIn_app (goodIn_of _ (by decide +kernel)) ggL_law_X5_ifLoaded
set_option maxRecDepth 20000 in
theorem ggL_law_X4_bestPlace : GoodIn wsL_law wsX4_bestPlace := goodIn_r _ [720, 28, 441, 442, 443, 27, 444, 383, 405, 445, 402, 403, 404, 406, 68, 407, 408, 409, 410, 69, 411, 412, 413, 705, 706, 707, 2, 708, 439, 16, 440, 535, 536, 537, 15, 538, 35, 290, 189, 190, 191, 38, 539, 136, 137, 138, 139, 140, 141, 866, 867, 868, 869, 870, 871, 872, 894, 895, 896, 897, 898, 883, 884, 885, 886, 887, 888, 889, 890] (by decide +kernel) (by decide +kernel)
set_option maxRecDepth 20000 in
theorem gL_law_X4_bestPlace : GoodIn wsL_law (wsV RL 176 RX4 yX4_bestPlace wsX4_bestPlace) := goodIn_app (goodIn_of _ (by decide +kernel)) ggL_law_X4_bestPlace
set_option maxRecDepth 20000 in
theorem ggL_law_X5_bestPlace : GoodIn wsL_law wsX5_bestPlace := goodIn_r _ [724, 160, 725, 726, 727, 5, 728, 419, 420, 421, 422, 418, 423, 388, 76, 424, 425, 426, 427, 77, 428, 429, 430, 431, 150, 151, 152, 713, 714, 715, 716, 166, 167, 168, 169, 74, 450, 451, 452, 453, 196, 197, 198, 199, 200, 201, 202, 203, 204, 205, 206, 170, 171, 172, 173, 207, 208, 209, 873, 874, 875, 876, 877, 878, 879, 880, 881, 882] (by decide +kernel) (by decide +kernel)
set_option maxRecDepth 20000 in
theorem gL_law_X5_bestPlace : GoodIn wsL_law (wsV RL 179 RX5 yX5_bestPlace wsX5_bestPlace) := goodIn_app (goodIn_of _ (by decide +kernel)) ggL_law_X5_bestPlace
set_option maxRecDepth 20000 in
theorem ggL_law_X4_bestGuard : GoodIn wsL_law wsX4_bestGuard := goodIn_r _ [732, 17, 16, 217, 487, 106, 107, 15, 108, 35, 109, 110, 111, 112, 36, 37, 38, 42, 113, 114, 115, 116, 117, 118, 41, 119, 47, 120, 48, 53, 54, 55, 56, 57, 142, 133, 2, 134, 647, 648, 649, 650, 275, 276, 277, 278, 279, 280, 281, 282, 283, 284, 131, 285, 286, 287, 288, 289, 866, 867, 868, 869, 870, 871, 872, 883, 884, 885, 886, 887, 888, 889, 890, 899, 900, 901, 902, 903, 904, 905] (by decide +kernel) (by decide +kernel)
set_option maxRecDepth 20000 in
theorem gL_law_X4_bestGuard : GoodIn wsL_law (wsV RL 180 RX4 yX4_bestGuard wsX4_bestGuard) := goodIn_app (goodIn_of _ (by decide +kernel)) ggL_law_X4_bestGuard
set_option maxRecDepth 20000 in
theorem ggL_law_X5_bestGuard : GoodIn wsL_law wsX5_bestGuard := goodIn_r _ [736, 160, 737, 738, 739, 5, 740, 74, 204, 205, 206, 166, 167, 168, 169, 675, 676, 677, 678, 299, 300, 301, 302, 303, 304, 305, 306, 307, 308, 309, 310, 311, 312, 313, 314, 315, 316, 317, 318, 200, 201, 202, 203, 549, 550, 551, 552, 873, 874, 875, 876, 877, 878, 879, 880, 881, 882] (by decide +kernel) (by decide +kernel)
set_option maxRecDepth 20000 in
theorem gL_law_X5_bestGuard : GoodIn wsL_law (wsV RL 183 RX5 yX5_bestGuard wsX5_bestGuard) := goodIn_app (goodIn_of _ (by decide +kernel)) ggL_law_X5_bestGuard
set_option maxRecDepth 20000 in
theorem ggL_law_L_lastsFor : GoodIn wsL_law wsL_lastsFor := goodIn_ca (goodIn_r _ [743, 82, 744, 745, 746, 2, 747, 87, 88, 16, 90, 91, 92, 93, 94, 95, 748, 749, 750, 15, 751, 38, 37, 35, 133, 134, 866, 867, 868, 869, 870, 871, 872, 883, 884, 885, 886, 887, 888, 889, 890] (by decide +kernel) (by decide +kernel)) (goodIn_sub (fun _ h => List.mem_append_left _ (List.mem_append_left _ (List.mem_append_right _ h))) (by decide +kernel))
set_option maxRecDepth 20000 in
theorem gL_law_L_lastsFor : GoodIn wsL_law (va_wsS RL 184 yL_lastsFor wsL_lastsFor) := goodIn_app (goodIn_of _ (by decide +kernel)) ggL_law_L_lastsFor
set_option maxRecDepth 20000 in
theorem ggL_law_X5_lastsFor : GoodIn wsL_law wsX5_lastsFor := goodIn_r _ [755, 147, 148, 5, 149, 150, 151, 152, 156, 157, 158, 159, 160, 756, 757, 758, 759, 299, 300, 301, 302, 303, 304, 305, 306, 74, 307, 308, 309, 310, 311, 312, 313, 314, 315, 316, 317, 318, 204, 205, 206, 200, 201, 202, 203, 166, 167, 168, 169, 295, 296, 297, 298, 170, 171, 172, 173, 873, 874, 875, 876, 877, 878, 879, 880, 881, 882] (by decide +kernel) (by decide +kernel)
set_option maxRecDepth 20000 in
theorem gL_law_X5_lastsFor : GoodIn wsL_law (wsV RL 186 RX5 yX5_lastsFor wsX5_lastsFor) := goodIn_app (goodIn_of _ (by decide +kernel)) ggL_law_X5_lastsFor
set_option maxRecDepth 20000 in
theorem ggL_law_L_ifGone : GoodIn wsL_law wsL_ifGone := goodIn_ca (goodIn_r _ [762, 181, 763, 764, 765, 2, 766, 186, 187, 17, 16, 323, 606, 605, 609, 93, 94, 95, 487, 106, 107, 15, 108, 35, 109, 110, 111, 112, 36, 37, 38, 42, 113, 114, 115, 116, 117, 118, 41, 119, 47, 120, 48, 53, 54, 55, 56, 57, 337, 338, 339, 340, 341, 342, 343, 268, 269, 270, 271, 272, 273, 274, 275, 276, 277, 278, 133, 134, 279, 280, 281, 282, 283, 284, 131, 285, 286, 287, 288, 289, 290, 189, 190, 191, 125, 126, 127, 128, 129, 130, 132, 344, 345, 346, 347, 348, 349, 350, 351, 866, 867, 868, 869, 870, 871, 872, 883, 884, 885, 886, 887, 888, 889, 890, 899, 900, 901, 902, 903, 904, 905] (by decide +kernel) (by decide +kernel)) (goodIn_sub (fun _ h => List.mem_append_left _ (List.mem_append_right _ h)) (by decide +kernel))
set_option maxRecDepth 20000 in
theorem gL_law_L_ifGone : GoodIn wsL_law (va_wsS RL 187 yL_ifGone wsL_ifGone) := goodIn_app (goodIn_of _ (by decide +kernel)) ggL_law_L_ifGone
set_option maxRecDepth 20000 in
theorem ggL_law_X5_ifGone : GoodIn wsL_law wsX5_ifGone := goodIn_r _ [770, 150, 151, 5, 152, 156, 157, 158, 159, 160, 771, 772, 773, 774, 74, 166, 167, 168, 169, 356, 357, 358, 359, 360, 361, 362, 363, 295, 296, 297, 298, 299, 300, 301, 302, 303, 304, 305, 306, 307, 308, 309, 310, 311, 312, 313, 314, 315, 316, 317, 318, 204, 205, 206, 200, 201, 202, 203, 170, 171, 172, 173, 364, 365, 366, 367, 873, 874, 875, 876, 877, 878, 879, 880, 881, 882] (by decide +kernel) (by decide +kernel)
set_option maxRecDepth 20000 in
theorem gL_law_X5_ifGone : GoodIn wsL_law (wsV RL 189 RX5 yX5_ifGone wsX5_ifGone) := goodIn_app (goodIn_of _ (by decide +kernel)) ggL_law_X5_ifGone
set_option maxRecDepth 20000 in
theorem ggL_law_X4_rightShare : GoodIn wsL_law wsX4_rightShare := goodIn_r _ [778, 16, 779, 647, 648, 649, 15, 650, 35, 275, 276, 277, 278, 38, 133, 2, 134, 279, 280, 281, 282, 283, 284, 131, 285, 37, 286, 287, 288, 289, 113, 866, 867, 868, 869, 870, 871, 872, 883, 884, 885, 886, 887, 888, 889, 890] (by decide +kernel) (by decide +kernel)
set_option maxRecDepth 20000 in
theorem gL_law_X4_rightShare : GoodIn wsL_law (wsV RL 190 RX4 yX4_rightShare wsX4_rightShare) := goodIn_app (goodIn_of _ (by decide +kernel)) ggL_law_X4_rightShare
