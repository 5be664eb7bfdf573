set_option maxRecDepth 20000 in
theorem ggL_law_X5_rightShare : GoodIn wsL_law wsX5_rightShare := goodIn_r _ [783, 160, 784, 785, 786, 5, 787, 788, 675, 676, 677, 678, 299, 300, 301, 302, 303, 304, 305, 306, 74, 307, 308, 309, 310, 311, 312, 313, 314, 315, 316, 317, 318, 204, 205, 206, 200, 201, 202, 203, 549, 550, 551, 552, 873, 874, 875, 876, 877, 878, 879, 880, 881, 882] (by decide +kernel) (by decide +kernel)
set_option maxRecDepth 20000 in
theorem gL_law_X5_rightShare : GoodIn wsL_law (wsV RL 194 RX5 yX5_rightShare wsX5_rightShare) := goodIn_app (goodIn_of _ (by decide +kernel)) ggL_law_X5_rightShare
set_option maxRecDepth 20000 in
theorem ggL_law_X4_meanWear : GoodIn wsL_law wsX4_meanWear := goodIn_r _ [792, 16, 793, 794, 795, 796, 15, 797, 37, 866, 867, 868, 869, 870, 871, 872, 883, 884, 885, 886, 887, 888, 889, 890] (by decide +kernel) (by decide +kernel)
set_option maxRecDepth 20000 in
theorem gL_law_X4_meanWear : GoodIn wsL_law (wsV RL 195 RX4 yX4_meanWear wsX4_meanWear) := goodIn_app (goodIn_of _ (by decide +kernel)) ggL_law_X4_meanWear
set_option maxRecDepth 20000 in
theorem ggL_law_X5_meanWear : GoodIn wsL_law wsX5_meanWear := goodIn_r _ [801, 160, 802, 803, 804, 5, 805, 74, 806, 873, 874, 875, 876, 877, 878, 879, 880, 881, 882] (by decide +kernel) (by decide +kernel)
set_option maxRecDepth 20000 in
theorem gL_law_X5_meanWear : GoodIn wsL_law (wsV RL 199 RX5 yX5_meanWear wsX5_meanWear) := goodIn_app (goodIn_of _ (by decide +kernel)) ggL_law_X5_meanWear
