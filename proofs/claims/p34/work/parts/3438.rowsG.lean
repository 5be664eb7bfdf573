theorem qL_isAhead_0 : GoodIn wsL_law [Cond.code yL_isAhead cL_isAhead 16 (some .boolean)] := goodIn_r _ [355] (by decide +kernel) (by decide +kernel)
set_option maxRecDepth 20000 in
theorem qL_isAhead_r1 : GoodIn wsL_law wsL_isAhead_r1 := goodIn_r _ [242, 243, 107, 244, 245, 246, 179, 180, 181, 2, 182, 70, 71, 12, 183, 184, 117, 17, 185, 94, 95, 96, 11, 97] (by decide +kernel) (by decide +kernel)
set_option maxRecDepth 20000 in
theorem qL_isAhead_r2 : GoodIn wsL_law wsL_isAhead_r2 := goodIn_r _ [31, 98, 99, 100, 101, 102, 103, 104, 186, 187, 188, 189, 178, 167, 168, 169, 123, 124, 190, 191, 192, 193, 137, 138] (by decide +kernel) (by decide +kernel)
set_option maxRecDepth 20000 in
theorem qL_isAhead_r3 : GoodIn wsL_law wsL_isAhead_r3 := goodIn_r _ [139, 140, 34, 141, 142, 143, 144, 145, 146, 147, 148, 33, 149, 150, 151, 152, 86, 153, 194, 195, 196, 197, 198, 199] (by decide +kernel) (by decide +kernel)
set_option maxRecDepth 20000 in
theorem qL_isAhead_r4 : GoodIn wsL_law wsL_isAhead_r4 := goodIn_r _ [200, 201, 26, 133, 134, 135, 136, 129, 130, 131, 132, 202, 203, 204, 205, 206, 207, 208, 209, 210, 211, 212, 213, 214] (by decide +kernel) (by decide +kernel)
set_option maxRecDepth 20000 in
theorem qL_isAhead_r5 : GoodIn wsL_law wsL_isAhead_r5 := goodIn_r _ [215, 216, 217, 218, 219, 110, 111, 112, 113, 114, 115, 116, 118, 119, 120, 121, 75, 76, 77, 122, 125, 126, 127, 128] (by decide +kernel) (by decide +kernel)
set_option maxRecDepth 20000 in
theorem qL_isAhead_r6 : GoodIn wsL_law wsL_isAhead_r6 := goodIn_r _ [154, 158, 159, 160, 161, 162, 163, 164, 165, 166, 170, 171, 172, 173, 174, 175, 176, 177, 233, 234, 235, 236, 237, 220] (by decide +kernel) (by decide +kernel)
set_option maxRecDepth 20000 in
theorem qL_isAhead_r7 : GoodIn wsL_law wsL_isAhead_r7 := goodIn_r _ [221, 222, 223, 224, 225, 226, 227, 66, 67, 68, 69, 18, 20, 72, 73, 74, 78, 79, 80, 81, 82, 83, 84, 85] (by decide +kernel) (by decide +kernel)
set_option maxRecDepth 20000 in
theorem qL_isAhead_r8 : GoodIn wsL_law wsL_isAhead_r8 := goodIn_r _ [32, 38, 87, 88, 89, 90, 91, 37, 92, 43, 93, 44, 49, 50, 51, 52, 53, 356, 357, 358, 359, 360, 361, 362] (by decide +kernel) (by decide +kernel)
set_option maxRecDepth 20000 in
theorem qL_isAhead_r9 : GoodIn wsL_law wsL_isAhead_r9 := goodIn_r _ [363, 294, 295, 296, 297, 258, 259, 260, 16, 261, 59, 262, 263, 264, 298, 299, 300, 301, 302, 269, 270, 271, 272, 327] (by decide +kernel) (by decide +kernel)
set_option maxRecDepth 20000 in
theorem qL_isAhead_r10 : GoodIn wsL_law wsL_isAhead_r10 := goodIn_r _ [328, 329, 330, 331, 332, 364, 365, 366, 367, 13, 278, 279, 280, 281, 368, 369, 370, 371, 312, 313, 314, 315, 316, 317] (by decide +kernel) (by decide +kernel)
set_option maxRecDepth 20000 in
theorem qL_isAhead_r11 : GoodIn wsL_law wsL_isAhead_r11 := goodIn_r _ [318, 319, 320, 321, 322, 323, 324, 325, 326, 308, 309, 310, 311, 333, 334, 335, 336, 337, 338, 339, 340] (by decide +kernel) (by decide +kernel)
set_option maxRecDepth 20000 in
theorem ggL_law_L_isAhead : GoodIn wsL_law wsL_isAhead := goodIn_app qL_isAhead_0 (goodIn_app (goodIn_app (goodIn_app (goodIn_app (goodIn_app (goodIn_app (goodIn_app (goodIn_app qL_isAhead_r1 (goodIn_app qL_isAhead_r2 (goodIn_app qL_isAhead_r3 (goodIn_app qL_isAhead_r4 (goodIn_app qL_isAhead_r5 (goodIn_app qL_isAhead_r6 (goodIn_app qL_isAhead_r7 (goodIn_app qL_isAhead_r8 (goodIn_app qL_isAhead_r9 (goodIn_app qL_isAhead_r10 qL_isAhead_r11)))))))))) (goodIn_sub inlX4 (by decide +kernel))) (goodIn_sub inlX2 (by decide +kernel))) (goodIn_sub inlX1 (by decide +kernel))) (goodIn_sub inlX0 (by decide +kernel))) (goodIn_sub (fun _ h => List.mem_append_left _ (List.mem_append_left _ (List.mem_append_right _ h))) (by decide +kernel))) (goodIn_sub (fun _ h => List.mem_append_left _ (List.mem_append_right _ h)) (by decide +kernel))) (goodIn_sub (fun _ h => List.mem_append_right _ h) (by decide +kernel)))
set_option maxRecDepth 20000 in
theorem gL_law_L_isAhead : GoodIn wsL_law (va_wsS RL 117 yL_isAhead wsL_isAhead) := goodIn_app (goodIn_of _ (by decide +kernel)) ggL_law_L_isAhead
