theorem qX5_digest_0 : GoodIn wsL_law [Cond.code yX5_digest cX5_digest 2 (some .long)] := goodIn_r _ [845] (by decide +kernel) (by decide +kernel)
set_option maxRecDepth 20000 in
theorem qX5_digest_r1 : GoodIn wsL_law wsX5_digest_r1 := goodIn_r _ [160, 846, 847, 74, 848, 849, 850, 851, 852, 75, 388, 76, 667, 668, 669, 5, 670, 165, 496, 497, 498, 499, 207, 208] (by decide +kernel) (by decide +kernel)
set_option maxRecDepth 20000 in
theorem qX5_digest_r2 : GoodIn wsL_law wsX5_digest_r2 := goodIn_r _ [209, 671, 672, 673, 674, 241, 242, 243, 244, 204, 205, 206, 675, 676, 677, 678, 299, 300, 301, 302, 303, 304, 305, 306] (by decide +kernel) (by decide +kernel)
set_option maxRecDepth 20000 in
theorem qX5_digest_r3 : GoodIn wsL_law wsX5_digest_r3 := goodIn_r _ [307, 308, 309, 310, 311, 312, 313, 314, 315, 316, 317, 318, 200, 201, 202, 203, 549, 550, 551, 552, 679, 680, 681, 682] (by decide +kernel) (by decide +kernel)
set_option maxRecDepth 20000 in
theorem qX5_digest_r4 : GoodIn wsL_law wsX5_digest_r4 := goodIn_r _ [683, 684, 685, 686, 853, 854, 855, 856, 857, 858, 859, 860, 861, 545, 546, 547, 548, 756, 757, 758, 759, 166, 167, 168] (by decide +kernel) (by decide +kernel)
set_option maxRecDepth 20000 in
theorem qX5_digest_r5 : GoodIn wsL_law wsX5_digest_r5 := goodIn_r _ [169, 295, 296, 297, 298, 170, 171, 172, 173, 574, 575, 576, 577, 578, 579, 580, 581, 614, 615, 616, 617, 630, 631, 632] (by decide +kernel) (by decide +kernel)
set_option maxRecDepth 20000 in
theorem qX5_digest_r6 : GoodIn wsL_law wsX5_digest_r6 := goodIn_r _ [633, 771, 772, 773, 774, 356, 357, 358, 359, 360, 361, 362, 363, 364, 365, 366, 367, 419, 420, 421, 422, 418, 423, 424] (by decide +kernel) (by decide +kernel)
set_option maxRecDepth 20000 in
theorem qX5_digest_r7 : GoodIn wsL_law wsX5_digest_r7 := goodIn_r _ [425, 426, 427, 77, 428, 429, 430, 431, 150, 151, 152, 713, 714, 715, 716, 450, 451, 452, 453, 196, 197, 198, 199, 725] (by decide +kernel) (by decide +kernel)
set_option maxRecDepth 20000 in
theorem qX5_digest_r8 : GoodIn wsL_law wsX5_digest_r8 := goodIn_r _ [726, 727, 728, 737, 738, 739, 740, 784, 785, 786, 787, 788, 862, 863, 864, 865, 802, 803, 804, 805, 806] (by decide +kernel) (by decide +kernel)
set_option maxRecDepth 20000 in
theorem ggL_law_X5_digest : GoodIn wsL_law wsX5_digest := goodIn_app qX5_digest_0 (goodIn_app (goodIn_app qX5_digest_r1 (goodIn_app qX5_digest_r2 (goodIn_app qX5_digest_r3 (goodIn_app qX5_digest_r4 (goodIn_app qX5_digest_r5 (goodIn_app qX5_digest_r6 (goodIn_app qX5_digest_r7 qX5_digest_r8))))))) (goodIn_sub inlX5 (by decide +kernel)))
set_option maxRecDepth 20000 in
theorem gL_law_X5_digest : GoodIn wsL_law (wsV RL 204 RX5 yX5_digest wsX5_digest) := goodIn_app (goodIn_of _ (by decide +kernel)) ggL_law_X5_digest
