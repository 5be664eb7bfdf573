theorem qX4_digest_0 : GoodIn wsL_law [Cond.code yX4_digest cX4_digest 4 (some .long)] := goodIn_r _ [810] (by decide +kernel) (by decide +kernel)
set_option maxRecDepth 20000 in
theorem qX4_digest_r1 : GoodIn wsL_law wsX4_digest_r1 := goodIn_r _ [811, 812, 16, 252, 24, 813, 638, 639, 2, 640, 186, 187, 641, 642, 217, 21, 518, 488, 489, 490, 15, 491, 35, 135] (by decide +kernel) (by decide +kernel)
set_option maxRecDepth 20000 in
theorem qX4_digest_r2 : GoodIn wsL_law wsX4_digest_r2 := goodIn_r _ [136, 137, 138, 139, 140, 141, 643, 644, 645, 646, 233, 234, 235, 236, 133, 134, 647, 648, 649, 650, 275, 276, 277, 278] (by decide +kernel) (by decide +kernel)
set_option maxRecDepth 20000 in
theorem qX4_digest_r3 : GoodIn wsL_law wsX4_digest_r3 := goodIn_r _ [38, 279, 280, 281, 282, 283, 284, 131, 285, 37, 286, 287, 288, 289, 113, 539, 651, 652, 653, 654, 655, 656, 657, 658] (by decide +kernel) (by decide +kernel)
set_option maxRecDepth 20000 in
theorem qX4_digest_r4 : GoodIn wsL_law wsX4_digest_r4 := goodIn_r _ [30, 461, 272, 273, 274, 290, 189, 190, 191, 659, 660, 661, 662, 129, 130, 132, 814, 815, 816, 817, 818, 531, 532, 533] (by decide +kernel) (by decide +kernel)
set_option maxRecDepth 20000 in
theorem qX4_digest_r5 : GoodIn wsL_law wsX4_digest_r5 := goodIn_r _ [87, 88, 89, 534, 90, 91, 92, 93, 94, 95, 142, 535, 536, 537, 538, 540, 748, 749, 750, 751, 819, 820, 821, 822] (by decide +kernel) (by decide +kernel)
set_option maxRecDepth 20000 in
theorem qX4_digest_r6 : GoodIn wsL_law wsX4_digest_r6 := goodIn_r _ [823, 557, 558, 559, 560, 96, 97, 98, 561, 562, 563, 564, 565, 566, 567, 568, 569, 824, 586, 587, 588, 589, 590, 591] (by decide +kernel) (by decide +kernel)
set_option maxRecDepth 20000 in
theorem qX4_digest_r7 : GoodIn wsL_law wsX4_digest_r7 := goodIn_r _ [592, 593, 825, 826, 827, 828, 323, 625, 829, 602, 603, 604, 605, 606, 607, 608, 324, 609, 830, 764, 765, 766, 17, 487] (by decide +kernel) (by decide +kernel)
set_option maxRecDepth 20000 in
theorem qX4_digest_r8 : GoodIn wsL_law wsX4_digest_r8 := goodIn_r _ [106, 107, 108, 109, 110, 111, 112, 36, 42, 114, 115, 116, 117, 118, 41, 119, 47, 120, 48, 53, 54, 55, 56, 57] (by decide +kernel) (by decide +kernel)
set_option maxRecDepth 20000 in
theorem qX4_digest_r9 : GoodIn wsL_law wsX4_digest_r9 := goodIn_r _ [337, 338, 339, 340, 341, 342, 343, 268, 269, 270, 271, 125, 126, 127, 128, 344, 345, 346, 347, 348, 349, 350, 351, 831] (by decide +kernel) (by decide +kernel)
set_option maxRecDepth 20000 in
theorem qX4_digest_r10 : GoodIn wsL_law wsX4_digest_r10 := goodIn_r _ [702, 703, 704, 28, 441, 442, 443, 27, 444, 383, 405, 445, 402, 403, 404, 406, 68, 407, 408, 409, 410, 69, 411, 412] (by decide +kernel) (by decide +kernel)
set_option maxRecDepth 20000 in
theorem qX4_digest_r11 : GoodIn wsL_law wsX4_digest_r11 := goodIn_r _ [413, 705, 706, 707, 708, 439, 440, 832, 718, 719, 720, 833, 730, 731, 732, 834, 835, 836, 794, 795, 796, 797, 837, 838] (by decide +kernel) (by decide +kernel)
set_option maxRecDepth 20000 in
theorem qX4_digest_r12 : GoodIn wsL_law wsX4_digest_r12 := goodIn_r _ [839, 840, 378, 841] (by decide +kernel) (by decide +kernel)
set_option maxRecDepth 20000 in
theorem ggL_law_X4_digest : GoodIn wsL_law wsX4_digest := goodIn_app qX4_digest_0 (goodIn_app (goodIn_app (goodIn_app (goodIn_app (goodIn_app (goodIn_app (goodIn_app (goodIn_app qX4_digest_r1 (goodIn_app qX4_digest_r2 (goodIn_app qX4_digest_r3 (goodIn_app qX4_digest_r4 (goodIn_app qX4_digest_r5 (goodIn_app qX4_digest_r6 (goodIn_app qX4_digest_r7 (goodIn_app qX4_digest_r8 (goodIn_app qX4_digest_r9 (goodIn_app qX4_digest_r10 (goodIn_app qX4_digest_r11 qX4_digest_r12))))))))))) (goodIn_sub inlX4 (by decide +kernel))) (goodIn_sub inlX2 (by decide +kernel))) (goodIn_sub inlX1 (by decide +kernel))) (goodIn_sub inlX0 (by decide +kernel))) (goodIn_sub inlX3 (by decide +kernel))) (goodIn_sub (fun _ h => List.mem_append_left _ (List.mem_append_right _ h)) (by decide +kernel))) (goodIn_sub (fun _ h => List.mem_append_left _ (List.mem_append_left _ (List.mem_append_right _ h))) (by decide +kernel)))
set_option maxRecDepth 20000 in
theorem gL_law_X4_digest : GoodIn wsL_law (wsV RL 200 RX4 yX4_digest wsX4_digest) := goodIn_app (goodIn_of _ (by decide +kernel)) ggL_law_X4_digest
