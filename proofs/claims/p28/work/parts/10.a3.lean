set_option maxRecDepth 20000 in
theorem ggL_law_L_set : GoodIn wsL_law wsL_set := goodIn_ca (goodIn_ca (goodIn_r _ [245, 165, 76, 246, 247, 248, 2, 249, 250, 251, 17, 13, 233, 234, 235, 170, 171, 236, 252, 241, 242, 85, 86, 87, 88, 89, 101, 102, 103, 16, 104, 105, 106, 53, 52, 11, 12, 107, 28, 29, 30, 8, 9, 31, 32, 33, 34, 35, 36, 37, 38, 39, 40, 41, 42, 43, 44, 45, 46, 3, 47, 108, 109, 110, 111, 100, 112, 113, 114, 115, 116, 117, 118, 119, 120, 121, 122, 123, 124, 125, 126, 127, 128, 129, 130, 131, 132, 133, 237, 238, 239, 240, 253, 254, 255, 256, 257, 258, 534, 535, 536, 537, 538, 545, 546, 547, 539, 540, 541, 542, 543, 544, 559, 560, 561] (by decide +kernel) (by decide +kernel)) (goodIn_sub (fun _ h => List.mem_append_right _ h) (by decide +kernel))) (goodIn_sub (fun _ h => List.mem_append_left _ (List.mem_append_left _ (List.mem_append_right _ h))) (by decide +kernel))
set_option maxRecDepth 20000 in
theorem gL_law_L_set : GoodIn wsL_law (va_wsS RL 141 yL_set wsL_set) := goodIn_app (goodIn_of _ (by decide +kernel)) ggL_law_L_set
set_option maxRecDepth 20000 in
theorem ggL_law_L_fixed : GoodIn wsL_law wsL_fixed := goodIn_r _ [261, 262, 263, 71, 264, 265, 266, 267, 268] (by decide +kernel) (by decide +kernel)
set_option maxRecDepth 20000 in
theorem gL_law_L_fixed : GoodIn wsL_law (va_wsS RL 85 yL_fixed wsL_fixed) := goodIn_app (goodIn_of _ (by decide +kernel)) ggL_law_L_fixed
set_option maxRecDepth 20000 in
theorem ggL_law_L_split : GoodIn wsL_law wsL_split := goodIn_r _ [271, 272, 273, 71, 274, 275, 276, 277, 266, 267, 268, 278, 279, 280, 281, 282, 283] (by decide +kernel) (by decide +kernel)
set_option maxRecDepth 20000 in
theorem gL_law_L_split : GoodIn wsL_law (va_wsS RL 115 yL_split wsL_split) := goodIn_app (goodIn_of _ (by decide +kernel)) ggL_law_L_split
set_option maxRecDepth 20000 in
theorem ggL_law_L_fewest : GoodIn wsL_law wsL_fewest := goodIn_r _ [286, 287, 288, 71, 289, 290, 291, 292, 293, 294, 295, 272, 273, 274, 275, 276, 277, 266, 267, 268, 278, 279, 280, 281, 282, 283] (by decide +kernel) (by decide +kernel)
set_option maxRecDepth 20000 in
theorem gL_law_L_fewest : GoodIn wsL_law (va_wsS RL 109 yL_fewest wsL_fewest) := goodIn_app (goodIn_of _ (by decide +kernel)) ggL_law_L_fewest
set_option maxRecDepth 20000 in
theorem ggL_law_L_simplify : GoodIn wsL_law wsL_simplify := goodIn_ca (goodIn_ca (goodIn_r _ [298, 165, 76, 299, 300, 301, 2, 302, 17, 13, 26, 172, 173, 174, 175, 176, 177, 178, 179, 170, 171, 96, 97, 98, 12, 99, 100, 180, 115, 116, 117, 32, 35, 303, 304, 305, 85, 86, 87, 88, 89, 101, 102, 103, 16, 104, 105, 106, 53, 52, 11, 107, 28, 29, 30, 8, 9, 31, 33, 34, 36, 37, 38, 39, 40, 41, 42, 43, 44, 45, 46, 3, 47, 108, 109, 110, 111, 112, 113, 114, 118, 119, 120, 121, 122, 123, 124, 125, 126, 127, 128, 129, 130, 131, 132, 133, 306, 307, 308, 309, 310, 182, 183, 184, 311, 238, 239, 240, 241, 242, 312, 313, 314, 315, 316, 317, 318, 319, 320, 321, 322, 323, 324, 325, 326, 327, 328, 192, 193, 194, 195, 196, 197, 198, 199, 329, 330, 331, 332, 333, 334, 335, 336, 200, 201, 202, 203, 237, 337, 338, 339, 25, 340, 341, 342, 343, 344, 345, 346, 347, 348, 349, 350, 351, 352, 353, 354, 355, 356, 357, 358, 359, 360, 361, 362, 363, 364, 365, 366, 367, 368, 369, 370, 371, 372, 373, 374, 66, 375, 376, 377, 378, 257, 258, 379, 380, 381, 382, 67, 68, 383, 384, 385, 386, 181, 387, 388, 389, 390, 391, 392, 393, 394, 395, 396, 397, 398, 399, 400, 401, 534, 535, 536, 537, 538, 539, 540, 541, 542, 543, 544, 545, 546, 547, 559, 560, 561, 556, 557, 558] (by decide +kernel) (by decide +kernel)) (goodIn_sub (fun _ h => List.mem_append_right _ h) (by decide +kernel))) (goodIn_sub (fun _ h => List.mem_append_left _ (List.mem_append_left _ (List.mem_append_right _ h))) (by decide +kernel))
set_option maxRecDepth 20000 in
theorem gL_law_L_simplify : GoodIn wsL_law (va_wsS RL 143 yL_simplify wsL_simplify) := goodIn_app (goodIn_of _ (by decide +kernel)) ggL_law_L_simplify
set_option maxRecDepth 20000 in
theorem ggL_law_L_ones : GoodIn wsL_law wsL_ones := goodIn_r _ [289] (by decide +kernel) (by decide +kernel)
set_option maxRecDepth 20000 in
theorem gL_law_L_ones : GoodIn wsL_law (va_wsS RL 75 yL_ones wsL_ones) := goodIn_app (goodIn_of _ (by decide +kernel)) ggL_law_L_ones
set_option maxRecDepth 20000 in
theorem ggL_law_L_bake : GoodIn wsL_law wsL_bake := goodIn_ca (goodIn_r _ [404, 165, 405, 406, 407, 2, 408, 17, 13, 172, 173, 174, 175, 176, 177, 178, 179, 170, 171, 96, 97, 98, 12, 99, 100, 180, 115, 116, 117, 32, 35, 101, 102, 103, 16, 104, 105, 106, 53, 52, 11, 107, 28, 29, 30, 8, 9, 31, 33, 34, 36, 37, 38, 39, 40, 41, 42, 43, 44, 45, 46, 3, 47, 108, 109, 110, 111, 112, 113, 114, 118, 119, 120, 121, 122, 123, 124, 125, 126, 127, 128, 129, 130, 131, 132, 133, 181, 182, 183, 184, 409, 410, 411, 412, 413, 414, 415, 416, 350, 351, 192, 193, 194, 195, 196, 197, 198, 199, 200, 201, 202, 203, 146, 147, 148, 149, 150, 151, 152, 153, 534, 535, 536, 537, 538, 539, 540, 541, 542, 543, 544, 545, 546, 547, 559, 560, 561] (by decide +kernel) (by decide +kernel)) (goodIn_sub (fun _ h => List.mem_append_right _ h) (by decide +kernel))
set_option maxRecDepth 20000 in
theorem gL_law_L_bake : GoodIn wsL_law (va_wsS RL 145 yL_bake wsL_bake) := goodIn_app (goodIn_of _ (by decide +kernel)) ggL_law_L_bake
