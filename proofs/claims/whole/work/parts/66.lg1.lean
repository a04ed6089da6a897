set_option maxRecDepth 20000 in
theorem ggL_law_X4_init : GoodIn wsL_law wsX4_init := goodIn_r _ [8, 9, 10, 11, 12, 13, 14, 15, 16, 17, 18, 19, 20, 21, 22, 23, 24, 25, 26, 27, 28, 29, 30, 31, 32, 33, 34, 35, 36, 37, 38, 39, 40, 41, 42, 43, 44, 45, 46, 47, 48, 49, 50, 489, 490, 491, 492, 493, 494, 495, 496, 497, 498, 481, 482, 483, 499, 500, 501, 502] (by decide +kernel) (by decide +kernel)
set_option maxRecDepth 20000 in
theorem gL_law_X4_init : GoodIn wsL_law (wsX4_init) := ggL_law_X4_init
set_option maxRecDepth 20000 in
theorem ggL_law_X5_init : GoodIn wsL_law wsX5_init := goodIn_r _ [53, 54, 10, 11, 27, 55, 56, 57, 58, 59, 484, 485, 486, 487, 488] (by decide +kernel) (by decide +kernel)
set_option maxRecDepth 20000 in
theorem gL_law_X5_init : GoodIn wsL_law (wsX5_init) := ggL_law_X5_init
set_option maxRecDepth 20000 in
theorem ggL_law_X4_give : GoodIn wsL_law wsX4_give := goodIn_r _ [63, 15, 19, 64, 65, 66, 2, 67, 68, 69, 70, 14, 71, 72, 73, 74, 75, 32, 33, 76, 77, 78, 31, 79, 42, 80, 81, 82, 83, 84, 18, 85, 48, 49, 50, 86, 87, 88, 89, 90, 91, 92, 93, 25, 94, 95, 96, 97, 26, 28, 34, 35, 36, 37, 38, 98, 99, 100, 101, 102, 103, 104, 105, 106, 107, 108, 109, 110, 111, 112, 113, 114, 115, 116, 117, 118, 119, 120, 481, 482, 483, 489, 490, 491, 492, 493, 494, 495, 496, 497, 498, 502, 499, 500, 501] (by decide +kernel) (by decide +kernel)
set_option maxRecDepth 20000 in
theorem gL_law_X4_give : GoodIn wsL_law (wsV RL 13 RX4 yX4_give wsX4_give) := goodIn_app (goodIn_of _ (by decide +kernel)) ggL_law_X4_give
set_option maxRecDepth 20000 in
theorem ggL_law_X5_give : GoodIn wsL_law wsX5_give := goodIn_r _ [124, 125, 55, 126, 127, 5, 128, 129, 130, 131, 132, 133, 134, 135, 136, 56, 137, 138, 139, 140, 141, 142, 143, 144, 145, 146, 147, 148, 149, 150, 151, 152, 153, 58, 484, 485, 486, 487, 488] (by decide +kernel) (by decide +kernel)
set_option maxRecDepth 20000 in
theorem gL_law_X5_give : GoodIn wsL_law (wsV RL 17 RX5 yX5_give wsX5_give) := goodIn_app (goodIn_of _ (by decide +kernel)) ggL_law_X5_give
set_option maxRecDepth 20000 in
theorem ggL_law_X4_back : GoodIn wsL_law wsX4_back := goodIn_r _ [157, 15, 64, 19, 65, 66, 2, 67, 158, 159, 113, 160, 161, 162, 163, 164, 165, 166, 167, 168, 169, 14, 170, 32, 35, 76, 77, 78, 31, 79, 42, 80, 81, 171, 172, 173, 174, 82, 83, 84, 18, 85, 48, 49, 50, 86, 87, 88, 89, 90, 91, 92, 93, 25, 94, 95, 96, 97, 26, 28, 33, 34, 36, 37, 38, 98, 99, 100, 101, 102, 175, 176, 177, 178, 179, 180, 181, 182, 183, 107, 108, 109, 110, 481, 482, 483, 489, 490, 491, 492, 493, 494, 495, 496, 497, 498, 502, 499, 500, 501] (by decide +kernel) (by decide +kernel)
set_option maxRecDepth 20000 in
theorem gL_law_X4_back : GoodIn wsL_law (wsV RL 18 RX4 yX4_back wsX4_back) := goodIn_app (goodIn_of _ (by decide +kernel)) ggL_law_X4_back
set_option maxRecDepth 20000 in
theorem ggL_law_X5_back : GoodIn wsL_law wsX5_back := goodIn_r _ [187, 55, 126, 127, 5, 128, 129, 130, 131, 132, 145, 146, 147, 188, 189, 190, 191, 133, 134, 135, 136, 56, 148, 149, 150, 151, 152, 153, 58, 484, 485, 486, 487, 488] (by decide +kernel) (by decide +kernel)
set_option maxRecDepth 20000 in
theorem gL_law_X5_back : GoodIn wsL_law (wsV RL 22 RX5 yX5_back wsX5_back) := goodIn_app (goodIn_of _ (by decide +kernel)) ggL_law_X5_back
set_option maxRecDepth 20000 in
theorem ggL_law_X4_number : GoodIn wsL_law wsX4_number := goodIn_r _ [195, 19, 15, 64, 65, 66, 2, 67, 82, 83, 84, 18, 85, 48, 49, 50, 86, 87, 88, 89, 90, 91, 92, 14, 93, 25, 94, 95, 96, 97, 26, 28, 32, 33, 34, 35, 36, 37, 38, 98, 99, 100, 31, 101, 42, 102, 196, 112, 113, 114, 115, 481, 482, 483, 489, 490, 491, 492, 493, 494, 495, 496, 497, 498, 499, 500, 501, 502] (by decide +kernel) (by decide +kernel)
set_option maxRecDepth 20000 in
theorem gL_law_X4_number : GoodIn wsL_law (wsV RL 23 RX4 yX4_number wsX4_number) := goodIn_app (goodIn_of _ (by decide +kernel)) ggL_law_X4_number
set_option maxRecDepth 20000 in
theorem ggL_law_X5_number : GoodIn wsL_law wsX5_number := goodIn_r _ [200, 126, 127, 5, 128, 129, 130, 131, 132, 133, 134, 135, 136, 56, 55, 145, 146, 147, 141, 142, 143, 144, 148, 149, 150, 151, 152, 153, 58, 484, 485, 486, 487, 488] (by decide +kernel) (by decide +kernel)
set_option maxRecDepth 20000 in
theorem gL_law_X5_number : GoodIn wsL_law (wsV RL 26 RX5 yX5_number wsX5_number) := goodIn_app (goodIn_of _ (by decide +kernel)) ggL_law_X5_number
set_option maxRecDepth 20000 in
theorem ggL_law_X4_copy : GoodIn wsL_law wsX4_copy := goodIn_r _ [204, 19, 15, 64, 65, 66, 2, 67, 82, 83, 84, 18, 85, 48, 49, 50, 86, 87, 88, 89, 90, 91, 92, 14, 93, 25, 94, 95, 96, 97, 26, 28, 32, 33, 34, 35, 36, 37, 38, 98, 99, 100, 31, 101, 42, 102, 481, 482, 483, 489, 490, 491, 492, 493, 494, 495, 496, 497, 498, 499, 500, 501, 502] (by decide +kernel) (by decide +kernel)
set_option maxRecDepth 20000 in
theorem gL_law_X4_copy : GoodIn wsL_law (wsV RL 27 RX4 yX4_copy wsX4_copy) := goodIn_app (goodIn_of _ (by decide +kernel)) ggL_law_X4_copy
set_option maxRecDepth 20000 in
theorem ggL_law_X5_copy : GoodIn wsL_law wsX5_copy := goodIn_r _ [208, 126, 127, 5, 128, 129, 130, 131, 132, 133, 134, 135, 136, 56, 55, 145, 146, 147, 209, 210, 211, 212, 141, 142, 143, 144, 148, 149, 150, 151, 152, 153, 58, 484, 485, 486, 487, 488] (by decide +kernel) (by decide +kernel)
set_option maxRecDepth 20000 in
theorem gL_law_X5_copy : GoodIn wsL_law (wsV RL 30 RX5 yX5_copy wsX5_copy) := goodIn_app (goodIn_of _ (by decide +kernel)) ggL_law_X5_copy
set_option maxRecDepth 20000 in
theorem ggL_law_X4_move : GoodIn wsL_law wsX4_move := goodIn_r _ [216, 217, 15, 64, 218, 19, 65, 66, 2, 67, 158, 159, 113, 160, 82, 83, 84, 18, 85, 48, 49, 50, 86, 87, 88, 89, 90, 91, 92, 14, 93, 25, 94, 95, 96, 97, 26, 28, 32, 33, 34, 35, 36, 37, 38, 98, 99, 100, 31, 101, 42, 102, 219, 220, 221, 161, 162, 163, 164, 165, 166, 222, 223, 224, 116, 117, 118, 119, 120, 112, 114, 115, 481, 482, 483, 489, 490, 491, 492, 493, 494, 495, 496, 497, 498, 499, 500, 501, 502] (by decide +kernel) (by decide +kernel)
set_option maxRecDepth 20000 in
theorem gL_law_X4_move : GoodIn wsL_law (wsV RL 31 RX4 yX4_move wsX4_move) := goodIn_app (goodIn_of _ (by decide +kernel)) ggL_law_X4_move
set_option maxRecDepth 20000 in
theorem ggL_law_X5_move : GoodIn wsL_law wsX5_move := goodIn_r _ [228, 229, 55, 230, 126, 127, 5, 128, 129, 130, 131, 132, 145, 146, 147, 133, 134, 135, 136, 56, 148, 149, 150, 151, 152, 153, 58, 484, 485, 486, 487, 488] (by decide +kernel) (by decide +kernel)
set_option maxRecDepth 20000 in
theorem gL_law_X5_move : GoodIn wsL_law (wsV RL 34 RX5 yX5_move wsX5_move) := goodIn_app (goodIn_of _ (by decide +kernel)) ggL_law_X5_move
set_option maxRecDepth 20000 in
theorem ggL_law_X4_narrow : GoodIn wsL_law wsX4_narrow := goodIn_r _ [234, 15, 64, 19, 65, 66, 2, 67, 158, 159, 113, 160, 235, 236, 237, 238, 220, 221, 239, 162, 163, 240, 165, 166, 82, 83, 84, 18, 85, 48, 49, 50, 86, 87, 88, 89, 90, 91, 92, 14, 93, 25, 94, 95, 96, 97, 26, 28, 32, 33, 34, 35, 36, 37, 38, 98, 99, 100, 31, 101, 42, 102, 219, 222, 223, 224, 116, 117, 118, 119, 120, 112, 114, 115, 481, 482, 483, 489, 490, 491, 492, 493, 494, 495, 496, 497, 498, 499, 500, 501, 502] (by decide +kernel) (by decide +kernel)
set_option maxRecDepth 20000 in
theorem gL_law_X4_narrow : GoodIn wsL_law (wsV RL 35 RX4 yX4_narrow wsX4_narrow) := goodIn_app (goodIn_of _ (by decide +kernel)) ggL_law_X4_narrow
set_option maxRecDepth 20000 in
theorem ggL_law_X5_narrow : GoodIn wsL_law wsX5_narrow := goodIn_r _ [244, 245, 55, 126, 127, 5, 128, 129, 130, 131, 132, 145, 146, 147, 133, 134, 135, 136, 56, 141, 142, 143, 144, 148, 149, 150, 151, 152, 153, 58, 484, 485, 486, 487, 488] (by decide +kernel) (by decide +kernel)
set_option maxRecDepth 20000 in
theorem gL_law_X5_narrow : GoodIn wsL_law (wsV RL 39 RX5 yX5_narrow wsX5_narrow) := goodIn_app (goodIn_of _ (by decide +kernel)) ggL_law_X5_narrow
set_option maxRecDepth 20000 in
theorem ggL_law_X4_look : GoodIn wsL_law wsX4_look := goodIn_r _ [249, 15, 64, 19, 65, 66, 2, 67, 250, 251, 252, 158, 159, 113, 160, 222, 223, 224, 235, 236, 237, 238, 220, 221, 239, 162, 163, 240, 165, 166, 82, 83, 84, 18, 85, 48, 49, 50, 86, 87, 88, 89, 90, 91, 92, 14, 93, 25, 94, 95, 96, 97, 26, 28, 32, 33, 34, 35, 36, 37, 38, 98, 99, 100, 31, 101, 42, 102, 219, 253, 254, 255, 256, 257, 258, 259, 260, 261, 262, 263, 264, 265, 266, 267, 183, 268, 269, 270, 271, 272, 273, 274, 275, 276, 277, 278, 111, 112, 114, 115, 279, 280, 281, 481, 482, 483, 489, 490, 491, 492, 493, 494, 495, 496, 497, 498, 499, 500, 501, 502] (by decide +kernel) (by decide +kernel)
set_option maxRecDepth 20000 in
theorem gL_law_X4_look : GoodIn wsL_law (wsV RL 40 RX4 yX4_look wsX4_look) := goodIn_app (goodIn_of _ (by decide +kernel)) ggL_law_X4_look
set_option maxRecDepth 20000 in
theorem ggL_law_X5_look : GoodIn wsL_law wsX5_look := goodIn_r _ [285, 55, 126, 127, 5, 128, 129, 130, 131, 132, 286, 287, 288, 289, 145, 146, 147, 133, 134, 135, 136, 56, 290, 291, 292, 293, 294, 295, 296, 297, 298, 299, 300, 301, 209, 210, 211, 212, 141, 142, 143, 144, 137, 138, 139, 140, 148, 149, 150, 151, 152, 153, 58, 484, 485, 486, 487, 488] (by decide +kernel) (by decide +kernel)
set_option maxRecDepth 20000 in
theorem gL_law_X5_look : GoodIn wsL_law (wsV RL 44 RX5 yX5_look wsX5_look) := goodIn_app (goodIn_of _ (by decide +kernel)) ggL_law_X5_look
set_option maxRecDepth 20000 in
theorem ggL_law_X4_lay : GoodIn wsL_law wsX4_lay := goodIn_r _ [305, 15, 64, 19, 65, 66, 2, 67, 250, 251, 252, 158, 159, 113, 160, 222, 223, 224, 235, 236, 237, 238, 220, 221, 239, 162, 163, 240, 165, 166, 82, 83, 84, 18, 85, 48, 49, 50, 86, 87, 88, 89, 90, 91, 92, 14, 93, 25, 94, 95, 96, 97, 26, 28, 32, 33, 34, 35, 36, 37, 38, 98, 99, 100, 31, 101, 42, 102, 219, 306, 307, 308, 309, 261, 310, 311, 312, 313, 481, 482, 483, 489, 490, 491, 492, 493, 494, 495, 496, 497, 498, 499, 500, 501, 502] (by decide +kernel) (by decide +kernel)
set_option maxRecDepth 20000 in
theorem gL_law_X4_lay : GoodIn wsL_law (wsV RL 45 RX4 yX4_lay wsX4_lay) := goodIn_app (goodIn_of _ (by decide +kernel)) ggL_law_X4_lay
set_option maxRecDepth 20000 in
theorem ggL_law_X5_lay : GoodIn wsL_law wsX5_lay := goodIn_r _ [317, 126, 127, 5, 128, 129, 130, 131, 132, 286, 287, 288, 289, 55, 145, 146, 147, 133, 134, 135, 136, 56, 290, 291, 292, 293, 209, 210, 211, 212, 141, 142, 143, 144, 318, 319, 320, 321, 148, 149, 150, 151, 152, 153, 58, 484, 485, 486, 487, 488] (by decide +kernel) (by decide +kernel)
set_option maxRecDepth 20000 in
theorem gL_law_X5_lay : GoodIn wsL_law (wsV RL 48 RX5 yX5_lay wsX5_lay) := goodIn_app (goodIn_of _ (by decide +kernel)) ggL_law_X5_lay
