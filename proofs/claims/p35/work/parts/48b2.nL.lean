set_option maxRecDepth 20000 in
theorem ggL_law_X4_init : GoodIn wsL_law wsX4_init := goodIn_r _ [11, 12, 13, 14, 15, 16, 17, 18, 19, 20, 21, 22, 23, 24, 25, 26, 27, 28, 29, 30, 31, 32, 33, 34, 35, 36, 37, 38, 39, 40, 41, 42, 43, 44, 45, 46, 47, 48, 49, 50, 51, 52, 53, 54, 55, 56, 57, 58, 59, 60, 61, 62, 63, 64, 65, 66, 67, 68, 69, 70, 71, 72, 73, 74, 75, 76, 77, 78, 79, 80, 81, 82, 453, 454, 421, 422, 423, 424, 425, 426, 427, 455, 456, 457, 458, 459, 460, 461, 462, 463, 464, 465, 466, 467, 468, 469, 470, 471, 472, 473, 474, 475, 476] (by decide +kernel) (by decide +kernel)
set_option maxRecDepth 20000 in
theorem gL_law_X4_init : GoodIn wsL_law (wsX4_init) := ggL_law_X4_init
set_option maxRecDepth 20000 in
theorem ggL_law_X5_init : GoodIn wsL_law wsX5_init := goodIn_r _ [85, 86, 13, 14, 42, 87, 88, 89, 90, 91, 92, 93, 94, 95, 96, 97, 98, 99, 100, 101, 428, 429, 430, 431, 432, 433, 434, 435, 436, 437, 438, 439, 440, 441, 442, 443, 444, 445, 446, 447, 448, 449, 450, 451, 452] (by decide +kernel) (by decide +kernel)
set_option maxRecDepth 20000 in
theorem gL_law_X5_init : GoodIn wsL_law (wsX5_init) := ggL_law_X5_init
set_option maxRecDepth 20000 in
theorem ggL_law_L_fill : GoodIn wsL_law wsL_fill := goodIn_ca (goodIn_ca (goodIn_ca (goodIn_r _ [174, 106, 107, 108, 175, 176, 177, 2, 178, 24, 110, 111, 112, 113, 114, 115, 116, 117, 118, 119, 120, 121, 122, 123, 18, 19, 124, 125, 126, 127, 128, 129, 130, 131, 17, 132, 43, 44, 133, 134, 135, 136, 137, 138, 139, 23, 140, 55, 141, 142, 143, 144, 421, 422, 423, 424, 425, 426, 427, 453, 454, 455, 456, 457, 458, 459, 460] (by decide +kernel) (by decide +kernel)) (goodIn_sub (fun _ h => List.mem_append_left _ (List.mem_append_left _ (List.mem_append_right _ h))) (by decide +kernel))) (goodIn_sub (fun _ h => List.mem_append_left _ (List.mem_append_right _ h)) (by decide +kernel))) (goodIn_sub (fun _ h => List.mem_append_right _ h) (by decide +kernel))
set_option maxRecDepth 20000 in
theorem gL_law_L_fill : GoodIn wsL_law (va_wsS RL 105 yL_fill wsL_fill) := goodIn_app (goodIn_of _ (by decide +kernel)) ggL_law_L_fill
set_option maxRecDepth 20000 in
theorem ggL_law_X5_fill : GoodIn wsL_law wsX5_fill := goodIn_r _ [182, 146, 147, 148, 5, 149, 150, 151, 152, 153, 154, 155, 156, 157, 158, 159, 160, 161, 162, 163, 164, 165, 166, 87, 88, 167, 168, 169, 170, 171, 428, 429, 430, 431, 432, 433, 434, 435, 436, 437, 438, 439, 440, 441, 442, 443, 444, 445, 446, 447, 448, 449, 450, 451, 452] (by decide +kernel) (by decide +kernel)
set_option maxRecDepth 20000 in
theorem gL_law_X5_fill : GoodIn wsL_law (wsV RL 108 RX5 yX5_fill wsX5_fill) := goodIn_app (goodIn_of _ (by decide +kernel)) ggL_law_X5_fill
set_option maxRecDepth 20000 in
theorem ggL_law_L_setLeast : GoodIn wsL_law wsL_setLeast := goodIn_ca (goodIn_r _ [249, 107, 250, 251, 252, 2, 253, 33, 24, 115, 116, 117, 118, 119, 137, 138, 139, 23, 140, 55, 421, 422, 423, 424, 425, 426, 427, 455, 456, 457, 458, 459, 460] (by decide +kernel) (by decide +kernel)) (goodIn_sub (fun _ h => List.mem_append_left _ (List.mem_append_right _ h)) (by decide +kernel))
set_option maxRecDepth 20000 in
theorem gL_law_L_setLeast : GoodIn wsL_law (va_wsS RL 143 yL_setLeast wsL_setLeast) := goodIn_app (goodIn_of _ (by decide +kernel)) ggL_law_L_setLeast
set_option maxRecDepth 20000 in
theorem ggL_law_X5_setLeast : GoodIn wsL_law wsX5_setLeast := goodIn_r _ [257, 146, 89, 171, 154, 155, 5, 156, 150, 151, 152, 153, 428, 429, 430, 431, 432, 433, 434, 435, 436, 437, 438, 439, 440, 441, 442, 443, 444, 445, 446, 447, 448, 449, 450, 451, 452] (by decide +kernel) (by decide +kernel)
set_option maxRecDepth 20000 in
theorem gL_law_X5_setLeast : GoodIn wsL_law (wsV RL 145 RX5 yX5_setLeast wsX5_setLeast) := goodIn_app (goodIn_of _ (by decide +kernel)) ggL_law_X5_setLeast
set_option maxRecDepth 20000 in
theorem ggL_law_X4_plan : GoodIn wsL_law wsX4_plan := goodIn_r _ [261, 24, 28, 18, 19, 33, 262, 263, 264, 23, 265, 55, 266, 267, 268, 27, 269, 270, 226, 40, 227, 66, 67, 61, 62, 271, 272, 142, 143, 17, 144, 44, 273, 274, 275, 276, 277, 195, 196, 197, 43, 198, 192, 193, 194, 278, 279, 280, 281, 282, 283, 284, 285, 286, 287, 288, 63, 64, 65, 289, 290, 291, 292, 293, 294, 295, 296, 297, 298, 68, 299, 300, 301, 302, 303, 304, 305, 306, 50, 51, 52, 53, 54, 307, 213, 214, 215, 308, 309, 310, 311, 312, 134, 135, 136, 313, 314, 315, 316, 317, 421, 422, 423, 424, 425, 426, 427, 455, 456, 457, 458, 459, 460, 461, 462, 463, 464, 465, 466, 467, 468, 453, 454] (by decide +kernel) (by decide +kernel)
set_option maxRecDepth 20000 in
theorem gL_law_X4_plan : GoodIn wsL_law (wsV RL 146 RX4 yX4_plan wsX4_plan) := goodIn_app (goodIn_of _ (by decide +kernel)) ggL_law_X4_plan
set_option maxRecDepth 20000 in
theorem ggL_law_X5_plan : GoodIn wsL_law wsX5_plan := goodIn_r _ [321, 146, 171, 322, 97, 162, 98, 90, 99, 91, 100, 92, 101, 93, 323, 324, 325, 326, 5, 327, 88, 89, 328, 329, 330, 331, 332, 333, 334, 335, 336, 337, 338, 339, 340, 341, 42, 229, 230, 231, 232, 161, 233, 234, 235, 236, 87, 428, 429, 430, 431, 432, 433, 434, 435, 436, 437, 438, 439, 440, 441, 442, 443, 444, 445, 446, 447, 448, 449, 450, 451, 452] (by decide +kernel) (by decide +kernel)
set_option maxRecDepth 20000 in
theorem gL_law_X5_plan : GoodIn wsL_law (wsV RL 149 RX5 yX5_plan wsX5_plan) := goodIn_app (goodIn_of _ (by decide +kernel)) ggL_law_X5_plan
