set_option maxRecDepth 20000 in
theorem ggL_law_X4_block : GoodIn wsL_law wsX4_block := goodIn_r _ [325, 15, 64, 19, 65, 66, 2, 67, 250, 251, 252, 158, 159, 113, 160, 222, 223, 224, 235, 236, 237, 238, 220, 221, 239, 162, 163, 240, 165, 166, 82, 83, 84, 18, 85, 48, 49, 50, 86, 87, 88, 89, 90, 91, 92, 14, 93, 25, 94, 95, 96, 97, 26, 28, 32, 33, 34, 35, 36, 37, 38, 98, 99, 100, 31, 101, 42, 102, 219, 326, 327, 328, 329, 21, 253, 254, 255, 256, 257, 258, 259, 260, 261, 262, 263, 264, 265, 266, 267, 183, 268, 269, 270, 271, 272, 273, 274, 275, 276, 277, 278, 111, 112, 114, 115, 306, 307, 308, 309, 310, 311, 312, 313, 481, 482, 483, 489, 490, 491, 492, 493, 494, 495, 496, 497, 498, 499, 500, 501, 502] (by decide +kernel) (by decide +kernel)
set_option maxRecDepth 20000 in
theorem gL_law_X4_block : GoodIn wsL_law (wsV RL 49 RX4 yX4_block wsX4_block) := goodIn_app (goodIn_of _ (by decide +kernel)) ggL_law_X4_block
set_option maxRecDepth 20000 in
theorem ggL_law_X5_block : GoodIn wsL_law wsX5_block := goodIn_r _ [333, 125, 59, 55, 126, 127, 5, 128, 129, 130, 131, 132, 286, 287, 288, 289, 145, 146, 147, 133, 134, 135, 136, 56, 290, 291, 292, 293, 141, 142, 143, 144, 298, 299, 300, 301, 137, 138, 139, 140, 318, 319, 320, 321, 148, 149, 150, 151, 152, 153, 58, 484, 485, 486, 487, 488] (by decide +kernel) (by decide +kernel)
set_option maxRecDepth 20000 in
theorem gL_law_X5_block : GoodIn wsL_law (wsV RL 53 RX5 yX5_block wsX5_block) := goodIn_app (goodIn_of _ (by decide +kernel)) ggL_law_X5_block
set_option maxRecDepth 20000 in
theorem ggL_law_X4_sweep : GoodIn wsL_law wsX4_sweep := goodIn_r _ [337, 15, 338, 19, 82, 83, 84, 18, 85, 48, 49, 50, 86, 87, 88, 89, 90, 91, 92, 14, 93, 25, 94, 95, 96, 97, 26, 28, 32, 33, 34, 35, 36, 37, 38, 98, 99, 100, 31, 101, 42, 102, 339, 340, 341, 342, 343, 344, 345, 346, 347, 265, 266, 267, 183, 268, 269, 270, 271, 272, 273, 274, 275, 276, 277, 481, 482, 483, 489, 490, 491, 492, 493, 494, 495, 496, 497, 498, 499, 500, 501, 502] (by decide +kernel) (by decide +kernel)
set_option maxRecDepth 20000 in
theorem gL_law_X4_sweep : GoodIn wsL_law (wsV RL 54 RX4 yX4_sweep wsX4_sweep) := goodIn_app (goodIn_of _ (by decide +kernel)) ggL_law_X4_sweep
set_option maxRecDepth 20000 in
theorem ggL_law_X5_sweep : GoodIn wsL_law wsX5_sweep := goodIn_r _ [351, 55, 133, 134, 135, 5, 136, 56, 148, 149, 150, 151, 152, 153, 58, 484, 485, 486, 487, 488] (by decide +kernel) (by decide +kernel)
set_option maxRecDepth 20000 in
theorem gL_law_X5_sweep : GoodIn wsL_law (wsV RL 58 RX5 yX5_sweep wsX5_sweep) := goodIn_app (goodIn_of _ (by decide +kernel)) ggL_law_X5_sweep
set_option maxRecDepth 20000 in
theorem ggL_law_X4_step : GoodIn wsL_law wsX4_step := goodIn_r _ [355, 15, 338, 19, 82, 83, 84, 18, 85, 48, 49, 50, 86, 87, 88, 89, 90, 91, 92, 14, 93, 25, 94, 95, 96, 97, 26, 28, 32, 33, 34, 35, 36, 37, 38, 98, 99, 100, 31, 101, 42, 102, 356, 357, 358, 359, 360, 361, 362, 363, 364, 365, 366, 367, 368, 257, 258, 259, 260, 261, 159, 113, 160, 262, 162, 163, 263, 165, 166, 264, 265, 266, 267, 183, 268, 269, 270, 271, 272, 273, 274, 275, 276, 277, 278, 220, 221, 111, 112, 114, 115, 481, 482, 483, 489, 490, 491, 492, 493, 494, 495, 496, 497, 498, 499, 500, 501, 502] (by decide +kernel) (by decide +kernel)
set_option maxRecDepth 20000 in
theorem gL_law_X4_step : GoodIn wsL_law (wsV RL 59 RX4 yX4_step wsX4_step) := goodIn_app (goodIn_of _ (by decide +kernel)) ggL_law_X4_step
set_option maxRecDepth 20000 in
theorem ggL_law_X5_step : GoodIn wsL_law wsX5_step := goodIn_r _ [372, 373, 55, 130, 131, 5, 132, 133, 134, 135, 136, 56, 374, 375, 376, 377, 298, 299, 300, 301, 137, 138, 139, 140, 141, 142, 143, 144, 148, 149, 150, 151, 152, 153, 58, 484, 485, 486, 487, 488] (by decide +kernel) (by decide +kernel)
set_option maxRecDepth 20000 in
theorem gL_law_X5_step : GoodIn wsL_law (wsV RL 62 RX5 yX5_step wsX5_step) := goodIn_app (goodIn_of _ (by decide +kernel)) ggL_law_X5_step
set_option maxRecDepth 20000 in
theorem ggL_law_X4_end : GoodIn wsL_law wsX4_end := goodIn_r _ [381, 15, 338, 382, 19, 82, 83, 84, 18, 85, 48, 49, 50, 86, 87, 88, 89, 90, 91, 92, 14, 93, 25, 94, 95, 96, 97, 26, 28, 32, 33, 34, 35, 36, 37, 38, 98, 99, 100, 31, 101, 42, 102, 383, 384, 385, 386, 387, 388, 389, 390, 361, 362, 363, 364, 365, 366, 367, 368, 257, 258, 259, 260, 261, 159, 113, 160, 262, 162, 163, 263, 165, 166, 264, 265, 266, 267, 183, 268, 269, 270, 271, 272, 273, 274, 275, 276, 277, 278, 220, 221, 111, 112, 114, 115, 343, 344, 345, 346, 347, 391, 392, 393, 394, 481, 482, 483, 489, 490, 491, 492, 493, 494, 495, 496, 497, 498, 499, 500, 501, 502] (by decide +kernel) (by decide +kernel)
set_option maxRecDepth 20000 in
theorem gL_law_X4_end : GoodIn wsL_law (wsV RL 63 RX4 yX4_end wsX4_end) := goodIn_app (goodIn_of _ (by decide +kernel)) ggL_law_X4_end
set_option maxRecDepth 20000 in
theorem ggL_law_X5_end : GoodIn wsL_law wsX5_end := goodIn_r _ [398, 55, 399, 400, 401, 5, 402, 133, 134, 135, 136, 56, 374, 375, 376, 377, 298, 299, 300, 301, 137, 138, 139, 140, 141, 142, 143, 144, 148, 149, 150, 151, 152, 153, 58, 484, 485, 486, 487, 488] (by decide +kernel) (by decide +kernel)
set_option maxRecDepth 20000 in
theorem gL_law_X5_end : GoodIn wsL_law (wsV RL 66 RX5 yX5_end wsX5_end) := goodIn_app (goodIn_of _ (by decide +kernel)) ggL_law_X5_end
set_option maxRecDepth 20000 in
theorem ggL_law_X4_told : GoodIn wsL_law wsX4_told := goodIn_r _ [406, 15, 64, 407, 217, 65, 66, 2, 67, 408, 409, 410, 411, 158, 159, 113, 160, 279, 280, 281, 219, 220, 221, 161, 162, 163, 164, 165, 166, 222, 223, 224, 412, 258, 259, 14, 260, 34, 261, 262, 263, 264, 265, 266, 31, 267, 42, 183, 268, 269, 270, 271, 272, 273, 274, 275, 276, 277, 413, 80, 81, 414, 73, 74, 75, 32, 33, 76, 77, 78, 79, 481, 482, 483, 489, 490, 491, 492, 493, 494, 495, 496, 497, 498, 502] (by decide +kernel) (by decide +kernel)
set_option maxRecDepth 20000 in
theorem gL_law_X4_told : GoodIn wsL_law (wsV RL 67 RX4 yX4_told wsX4_told) := goodIn_app (goodIn_of _ (by decide +kernel)) ggL_law_X4_told
set_option maxRecDepth 20000 in
theorem ggL_law_X5_told : GoodIn wsL_law wsX5_told := goodIn_r _ [418, 129, 419, 420, 229, 55, 130, 131, 5, 132, 145, 146, 147, 298, 299, 300, 301, 484, 485, 486, 487, 488] (by decide +kernel) (by decide +kernel)
set_option maxRecDepth 20000 in
theorem gL_law_X5_told : GoodIn wsL_law (wsV RL 70 RX5 yX5_told wsX5_told) := goodIn_app (goodIn_of _ (by decide +kernel)) ggL_law_X5_told
set_option maxRecDepth 20000 in
theorem ggL_law_X4_page : GoodIn wsL_law wsX4_page := goodIn_r _ [424, 15, 425, 426, 427, 311, 312, 14, 313, 37, 279, 280, 2, 281, 428, 388, 389, 390, 38, 429, 430, 431, 432, 25, 261, 159, 113, 160, 433, 265, 266, 31, 267, 42, 183, 268, 269, 270, 271, 272, 273, 274, 275, 276, 277, 481, 482, 483, 489, 490, 491, 492, 493, 494, 495, 496, 497, 498, 502] (by decide +kernel) (by decide +kernel)
set_option maxRecDepth 20000 in
theorem gL_law_X4_page : GoodIn wsL_law (wsV RL 71 RX4 yX4_page wsX4_page) := goodIn_app (goodIn_of _ (by decide +kernel)) ggL_law_X4_page
set_option maxRecDepth 20000 in
theorem ggL_law_X5_page : GoodIn wsL_law wsX5_page := goodIn_r _ [437, 438, 439, 55, 130, 131, 5, 132, 484, 485, 486, 487, 488] (by decide +kernel) (by decide +kernel)
set_option maxRecDepth 20000 in
theorem gL_law_X5_page : GoodIn wsL_law (wsV RL 74 RX5 yX5_page wsX5_page) := goodIn_app (goodIn_of _ (by decide +kernel)) ggL_law_X5_page
set_option maxRecDepth 20000 in
theorem ggL_law_X4_range : GoodIn wsL_law wsX4_range := goodIn_r _ [443, 15, 425, 413, 80, 2, 81, 444, 77, 78, 31, 79, 42, 445, 446, 447, 14, 448, 35, 76, 449, 172, 173, 174, 32, 481, 482, 483, 489, 490, 491, 492, 493, 494, 495, 496, 497, 498, 502] (by decide +kernel) (by decide +kernel)
set_option maxRecDepth 20000 in
theorem gL_law_X4_range : GoodIn wsL_law (wsV RL 75 RX4 yX4_range wsX4_range) := goodIn_app (goodIn_of _ (by decide +kernel)) ggL_law_X4_range
set_option maxRecDepth 20000 in
theorem ggL_law_X5_range : GoodIn wsL_law wsX5_range := goodIn_r _ [453, 419, 55, 130, 131, 5, 132, 188, 189, 190, 191, 484, 485, 486, 487, 488] (by decide +kernel) (by decide +kernel)
set_option maxRecDepth 20000 in
theorem gL_law_X5_range : GoodIn wsL_law (wsV RL 78 RX5 yX5_range wsX5_range) := goodIn_app (goodIn_of _ (by decide +kernel)) ggL_law_X5_range
set_option maxRecDepth 20000 in
theorem ggL_law_X4_undo : GoodIn wsL_law wsX4_undo := goodIn_r _ [457, 19, 458, 15, 459, 460, 461, 18, 462, 50, 49, 48, 90, 91, 92, 14, 93, 25, 94, 95, 96, 97, 26, 28, 32, 33, 34, 35, 36, 37, 38, 98, 99, 100, 31, 101, 42, 102, 481, 482, 483, 499, 500, 501, 489, 490, 491, 492, 493, 494, 495, 496, 497, 498, 502] (by decide +kernel) (by decide +kernel)
set_option maxRecDepth 20000 in
theorem gL_law_X4_undo : GoodIn wsL_law (wsV RL 79 RX4 yX4_undo wsX4_undo) := goodIn_app (goodIn_of _ (by decide +kernel)) ggL_law_X4_undo
set_option maxRecDepth 20000 in
theorem ggL_law_X5_undo : GoodIn wsL_law wsX5_undo := goodIn_r _ [466, 152, 55, 58, 484, 485, 486, 487, 488] (by decide +kernel) (by decide +kernel)
set_option maxRecDepth 20000 in
theorem gL_law_X5_undo : GoodIn wsL_law (wsV RL 82 RX5 yX5_undo wsX5_undo) := goodIn_app (goodIn_of _ (by decide +kernel)) ggL_law_X5_undo
set_option maxRecDepth 20000 in
theorem ggL_law_X4_count : GoodIn wsL_law wsX4_count := goodIn_r _ [470, 15, 471, 425, 426, 472, 473, 338, 19, 458, 474, 344, 345, 31, 346, 347, 265, 266, 267, 42, 183, 268, 269, 270, 271, 272, 273, 274, 275, 276, 277, 279, 280, 2, 281, 481, 482, 483, 489, 490, 491, 492, 493, 494, 495, 496, 497, 498, 499, 500, 501, 502] (by decide +kernel) (by decide +kernel)
set_option maxRecDepth 20000 in
theorem gL_law_X4_count : GoodIn wsL_law (wsV RL 83 RX4 yX4_count wsX4_count) := goodIn_app (goodIn_of _ (by decide +kernel)) ggL_law_X4_count
set_option maxRecDepth 20000 in
theorem ggL_law_X5_count : GoodIn wsL_law wsX5_count := goodIn_r _ [478, 55, 152, 479, 480, 130, 131, 5, 132, 484, 485, 486, 487, 488] (by decide +kernel) (by decide +kernel)
set_option maxRecDepth 20000 in
theorem gL_law_X5_count : GoodIn wsL_law (wsV RL 86 RX5 yX5_count wsX5_count) := goodIn_app (goodIn_of _ (by decide +kernel)) ggL_law_X5_count
