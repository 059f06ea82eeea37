set_option maxRecDepth 20000 in
theorem ggL_law_X5_init : GoodIn wsL_law wsX5_init := goodIn_r _ [9, 10, 11, 12, 13, 14, 15, 16, 17, 18, 19, 20, 21, 22, 23, 24, 25, 26, 27, 28, 29, 30, 31, 32, 33, 34, 35, 36, 37, 38, 39, 40, 41, 42, 43, 44, 45, 46, 47, 48, 49, 50, 51, 52, 53, 54, 55, 56, 57, 58, 59, 60, 61, 62, 63, 64, 65, 66, 67, 68, 69, 70, 71, 72, 991, 992, 993, 994, 995, 996, 970, 971, 972, 973, 974, 997, 998, 999, 1000, 1001, 1002, 1003, 1004, 1005, 1006, 1007, 1008, 1009, 1010, 1011, 1012, 1013] (by decide +kernel) (by decide +kernel)
set_option maxRecDepth 20000 in
theorem gL_law_X5_init : GoodIn wsL_law (wsX5_init) := ggL_law_X5_init
set_option maxRecDepth 20000 in
theorem ggL_law_X6_init : GoodIn wsL_law wsX6_init := goodIn_r _ [75, 76, 11, 12, 50, 77, 78, 79, 80, 81, 82, 83, 84, 85, 975, 976, 977, 978, 979, 980, 981, 982, 983, 984, 985, 986, 987, 988, 989, 990] (by decide +kernel) (by decide +kernel)
set_option maxRecDepth 20000 in
theorem gL_law_X6_init : GoodIn wsL_law (wsX6_init) := ggL_law_X6_init
set_option maxRecDepth 20000 in
theorem ggL_law_L_stroke : GoodIn wsL_law wsL_stroke := goodIn_ca (goodIn_ca (goodIn_r _ [89, 90, 91, 92, 93, 94, 2, 95, 20, 16, 96, 97, 98, 99, 100, 101, 102, 103, 104, 105, 106, 107, 108, 109, 110, 111, 112, 15, 113, 114, 115, 116, 117, 19, 118, 119, 120, 57, 56, 14, 121, 31, 32, 33, 11, 12, 34, 35, 36, 37, 38, 39, 40, 41, 42, 43, 44, 45, 46, 47, 48, 49, 50, 51, 122, 123, 124, 125, 126, 127, 128, 129, 130, 131, 132, 133, 134, 135, 136, 137, 138, 139, 140, 141, 142, 143, 144, 145, 146, 147, 148, 149, 150, 151, 152, 153, 154, 155, 156, 157, 158, 159, 160, 161, 162, 163, 164, 165, 166, 167, 970, 971, 972, 973, 974, 991, 992, 993, 994, 995, 996, 997, 998, 999, 1011, 1012, 1013] (by decide +kernel) (by decide +kernel)) (goodIn_sub (fun _ h => List.mem_append_left _ (List.mem_append_left _ (List.mem_append_right _ h))) (by decide +kernel))) (goodIn_sub (fun _ h => List.mem_append_left _ (List.mem_append_right _ h)) (by decide +kernel))
set_option maxRecDepth 20000 in
theorem gL_law_L_stroke : GoodIn wsL_law (va_wsS RL 91 yL_stroke wsL_stroke) := goodIn_app (goodIn_of _ (by decide +kernel)) ggL_law_L_stroke
set_option maxRecDepth 20000 in
theorem ggL_law_X6_stroke : GoodIn wsL_law wsX6_stroke := goodIn_r _ [171, 77, 172, 173, 174, 5, 175, 176, 177, 178, 179, 180, 181, 182, 183, 78, 184, 185, 186, 187, 188, 189, 190, 191, 192, 193, 194, 195, 196, 197, 198, 199, 200, 201, 202, 203, 975, 976, 977, 978, 979, 980, 981, 982, 983, 984, 985, 986, 987, 988, 989, 990] (by decide +kernel) (by decide +kernel)
set_option maxRecDepth 20000 in
theorem gL_law_X6_stroke : GoodIn wsL_law (wsV RL 96 RX6 yX6_stroke wsX6_stroke) := goodIn_app (goodIn_of _ (by decide +kernel)) ggL_law_X6_stroke
set_option maxRecDepth 20000 in
theorem ggL_law_X6_thrown : GoodIn wsL_law wsX6_thrown := goodIn_r _ [207, 172, 975, 976, 977, 978, 979, 980, 981, 982, 983, 984, 985, 986, 987, 988, 989, 990] (by decide +kernel) (by decide +kernel)
set_option maxRecDepth 20000 in
theorem gL_law_X6_thrown : GoodIn wsL_law (wsV RL 97 RX6 yX6_thrown wsX6_thrown) := goodIn_app (goodIn_of _ (by decide +kernel)) ggL_law_X6_thrown
set_option maxRecDepth 20000 in
theorem ggL_law_L_draw : GoodIn wsL_law wsL_draw := goodIn_ca (goodIn_ca (goodIn_r _ [210, 90, 91, 211, 212, 213, 2, 214, 102, 103, 25, 20, 16, 215, 216, 217, 24, 218, 219, 220, 221, 64, 222, 223, 224, 225, 62, 226, 153, 154, 37, 155, 136, 137, 227, 228, 229, 230, 231, 232, 233, 234, 235, 236, 237, 238, 239, 240, 241, 242, 243, 244, 245, 246, 247, 248, 249, 250, 251, 252, 157, 158, 159, 160, 161, 162, 163, 51, 164, 165, 166, 167, 104, 105, 106, 107, 108, 109, 110, 111, 112, 15, 113, 114, 115, 116, 117, 19, 118, 119, 120, 57, 56, 14, 121, 31, 32, 33, 11, 12, 34, 35, 36, 38, 39, 40, 41, 42, 43, 44, 45, 46, 47, 48, 49, 50, 122, 123, 124, 125, 126, 127, 128, 129, 130, 131, 132, 133, 134, 135, 138, 139, 140, 141, 142, 143, 144, 145, 146, 147, 148, 149, 150, 151, 152, 253, 254, 255, 256, 257, 258, 259, 260, 261, 970, 971, 972, 973, 974, 1000, 1001, 1002, 1003, 1004, 1005, 1006, 1007, 1011, 1012, 1013, 991, 992, 993, 994, 995, 996, 997, 998, 999] (by decide +kernel) (by decide +kernel)) (goodIn_sub (fun _ h => List.mem_append_left _ (List.mem_append_left _ (List.mem_append_right _ h))) (by decide +kernel))) (goodIn_sub (fun _ h => List.mem_append_left _ (List.mem_append_right _ h)) (by decide +kernel))
set_option maxRecDepth 20000 in
theorem gL_law_L_draw : GoodIn wsL_law (va_wsS RL 100 yL_draw wsL_draw) := goodIn_app (goodIn_of _ (by decide +kernel)) ggL_law_L_draw
set_option maxRecDepth 20000 in
theorem ggL_law_X6_draw : GoodIn wsL_law wsX6_draw := goodIn_r _ [265, 77, 172, 266, 85, 267, 268, 269, 270, 5, 271, 272, 273, 274, 275, 276, 277, 278, 279, 280, 281, 282, 283, 284, 285, 82, 176, 177, 178, 286, 287, 288, 289, 179, 180, 181, 182, 183, 78, 184, 185, 186, 187, 188, 189, 190, 191, 192, 193, 194, 195, 196, 197, 198, 199, 200, 201, 202, 203, 975, 976, 977, 978, 979, 980, 981, 982, 983, 984, 985, 986, 987, 988, 989, 990] (by decide +kernel) (by decide +kernel)
set_option maxRecDepth 20000 in
theorem gL_law_X6_draw : GoodIn wsL_law (wsV RL 103 RX6 yX6_draw wsX6_draw) := goodIn_app (goodIn_of _ (by decide +kernel)) ggL_law_X6_draw
set_option maxRecDepth 20000 in
theorem ggL_law_L_insert : GoodIn wsL_law wsL_insert := goodIn_ca (goodIn_ca (goodIn_ca (goodIn_r _ [292, 293, 90, 91, 294, 295, 296, 2, 297, 298, 299, 108, 109, 20, 16, 300, 301, 302, 303, 304, 305, 306, 307, 110, 111, 112, 15, 113, 114, 308, 129, 130, 131, 35, 38, 309, 245, 246, 37, 247, 136, 96, 97, 98, 99, 100, 101, 102, 103, 310, 311, 312, 115, 116, 117, 19, 118, 119, 120, 57, 56, 14, 121, 31, 32, 33, 11, 12, 34, 36, 39, 40, 41, 42, 43, 44, 45, 46, 47, 48, 49, 50, 51, 122, 123, 124, 125, 126, 127, 128, 132, 133, 134, 135, 137, 138, 139, 140, 141, 142, 143, 144, 145, 146, 147, 313, 314, 315, 316, 317, 318, 319, 320, 321, 322, 323, 324, 325, 326, 327, 328, 160, 161, 162, 163, 164, 165, 166, 167, 970, 971, 972, 973, 974, 991, 992, 993, 994, 995, 996, 1011, 1012, 1013, 997, 998, 999] (by decide +kernel) (by decide +kernel)) (goodIn_sub (fun _ h => List.mem_append_right _ h) (by decide +kernel))) (goodIn_sub (fun _ h => List.mem_append_left _ (List.mem_append_right _ h)) (by decide +kernel))) (goodIn_sub (fun _ h => List.mem_append_left _ (List.mem_append_left _ (List.mem_append_right _ h))) (by decide +kernel))
set_option maxRecDepth 20000 in
theorem gL_law_L_insert : GoodIn wsL_law (va_wsS RL 104 yL_insert wsL_insert) := goodIn_app (goodIn_of _ (by decide +kernel)) ggL_law_L_insert
set_option maxRecDepth 20000 in
theorem ggL_law_X6_insert : GoodIn wsL_law wsX6_insert := goodIn_r _ [332, 172, 77, 333, 334, 335, 5, 336, 176, 177, 178, 196, 197, 198, 199, 337, 338, 339, 173, 174, 175, 179, 180, 181, 182, 183, 78, 340, 341, 342, 343, 200, 201, 202, 203, 188, 189, 190, 191, 192, 193, 194, 195, 975, 976, 977, 978, 979, 980, 981, 982, 983, 984, 985, 986, 987, 988, 989, 990] (by decide +kernel) (by decide +kernel)
set_option maxRecDepth 20000 in
theorem gL_law_X6_insert : GoodIn wsL_law (wsV RL 107 RX6 yX6_insert wsX6_insert) := goodIn_app (goodIn_of _ (by decide +kernel)) ggL_law_X6_insert
set_option maxRecDepth 20000 in
theorem ggL_law_L_change : GoodIn wsL_law wsL_change := goodIn_ca (goodIn_ca (goodIn_r _ [346, 293, 90, 347, 348, 349, 2, 350, 20, 16, 300, 301, 302, 303, 304, 305, 306, 307, 298, 299, 110, 111, 112, 15, 113, 114, 308, 129, 130, 131, 35, 38, 351, 352, 353, 309, 245, 246, 37, 247, 136, 96, 97, 98, 99, 100, 101, 102, 103, 310, 311, 312, 115, 116, 117, 19, 118, 119, 120, 57, 56, 14, 121, 31, 32, 33, 11, 12, 34, 36, 39, 40, 41, 42, 43, 44, 45, 46, 47, 48, 49, 50, 51, 122, 123, 124, 125, 126, 127, 128, 132, 133, 134, 135, 137, 138, 139, 140, 141, 142, 143, 144, 145, 146, 147, 354, 318, 319, 320, 355, 322, 323, 324, 356, 161, 162, 163, 357, 165, 166, 167, 970, 971, 972, 973, 974, 991, 992, 993, 994, 995, 996, 1011, 1012, 1013, 997, 998, 999] (by decide +kernel) (by decide +kernel)) (goodIn_sub (fun _ h => List.mem_append_right _ h) (by decide +kernel))) (goodIn_sub (fun _ h => List.mem_append_left _ (List.mem_append_left _ (List.mem_append_right _ h))) (by decide +kernel))
set_option maxRecDepth 20000 in
theorem gL_law_L_change : GoodIn wsL_law (va_wsS RL 108 yL_change wsL_change) := goodIn_app (goodIn_of _ (by decide +kernel)) ggL_law_L_change
set_option maxRecDepth 20000 in
theorem ggL_law_X6_change : GoodIn wsL_law wsX6_change := goodIn_r _ [361, 172, 362, 363, 364, 5, 365, 333, 334, 335, 336, 77, 176, 177, 178, 196, 197, 198, 199, 337, 338, 339, 173, 174, 175, 179, 180, 181, 182, 183, 78, 340, 341, 342, 343, 200, 201, 202, 203, 188, 189, 190, 191, 192, 193, 194, 195, 975, 976, 977, 978, 979, 980, 981, 982, 983, 984, 985, 986, 987, 988, 989, 990] (by decide +kernel) (by decide +kernel)
set_option maxRecDepth 20000 in
theorem gL_law_X6_change : GoodIn wsL_law (wsV RL 110 RX6 yX6_change wsX6_change) := goodIn_app (goodIn_of _ (by decide +kernel)) ggL_law_X6_change
set_option maxRecDepth 20000 in
theorem ggL_law_L_remove : GoodIn wsL_law wsL_remove := goodIn_ca (goodIn_ca (goodIn_r _ [368, 293, 91, 369, 370, 371, 2, 372, 108, 109, 20, 16, 300, 301, 302, 303, 304, 305, 306, 307, 298, 299, 110, 111, 112, 15, 113, 114, 308, 129, 130, 131, 35, 38, 351, 352, 353, 309, 245, 246, 37, 247, 136, 115, 116, 117, 19, 118, 119, 120, 57, 56, 14, 121, 31, 32, 33, 11, 12, 34, 36, 39, 40, 41, 42, 43, 44, 45, 46, 47, 48, 49, 50, 51, 122, 123, 124, 125, 126, 127, 128, 132, 133, 134, 135, 137, 138, 139, 140, 141, 142, 143, 144, 145, 146, 147, 373, 374, 375, 376, 317, 318, 319, 320, 321, 322, 323, 324, 325, 326, 327, 328, 160, 161, 162, 163, 164, 165, 166, 167, 970, 971, 972, 973, 974, 991, 992, 993, 994, 995, 996, 1011, 1012, 1013, 997, 998, 999] (by decide +kernel) (by decide +kernel)) (goodIn_sub (fun _ h => List.mem_append_left _ (List.mem_append_right _ h)) (by decide +kernel))) (goodIn_sub (fun _ h => List.mem_append_right _ h) (by decide +kernel))
set_option maxRecDepth 20000 in
theorem gL_law_L_remove : GoodIn wsL_law (va_wsS RL 111 yL_remove wsL_remove) := goodIn_app (goodIn_of _ (by decide +kernel)) ggL_law_L_remove
set_option maxRecDepth 20000 in
theorem ggL_law_X6_remove : GoodIn wsL_law wsX6_remove := goodIn_r _ [380, 172, 362, 363, 364, 5, 365, 333, 334, 335, 336, 77, 176, 177, 178, 196, 197, 198, 199, 179, 180, 181, 182, 183, 78, 381, 382, 383, 384, 340, 341, 342, 343, 200, 201, 202, 203, 188, 189, 190, 191, 192, 193, 194, 195, 975, 976, 977, 978, 979, 980, 981, 982, 983, 984, 985, 986, 987, 988, 989, 990] (by decide +kernel) (by decide +kernel)
set_option maxRecDepth 20000 in
theorem gL_law_X6_remove : GoodIn wsL_law (wsV RL 114 RX6 yX6_remove wsX6_remove) := goodIn_app (goodIn_of _ (by decide +kernel)) ggL_law_X6_remove
set_option maxRecDepth 20000 in
theorem ggL_law_L_erase : GoodIn wsL_law wsL_erase := goodIn_ca (goodIn_r _ [387, 293, 388, 389, 390, 2, 391, 20, 16, 304, 305, 306, 307, 298, 299, 110, 111, 112, 15, 113, 114, 115, 116, 117, 19, 118, 119, 120, 57, 56, 14, 121, 31, 32, 33, 11, 12, 34, 35, 36, 37, 38, 39, 40, 41, 42, 43, 44, 45, 46, 47, 48, 49, 50, 51, 122, 123, 124, 125, 126, 127, 128, 129, 130, 131, 132, 133, 134, 135, 136, 137, 138, 139, 140, 141, 142, 143, 144, 145, 146, 147, 392, 393, 394, 395, 970, 971, 972, 973, 974, 991, 992, 993, 994, 995, 996, 997, 998, 999, 1011, 1012, 1013] (by decide +kernel) (by decide +kernel)) (goodIn_sub (fun _ h => List.mem_append_right _ h) (by decide +kernel))
set_option maxRecDepth 20000 in
theorem gL_law_L_erase : GoodIn wsL_law (va_wsS RL 115 yL_erase wsL_erase) := goodIn_app (goodIn_of _ (by decide +kernel)) ggL_law_L_erase
set_option maxRecDepth 20000 in
theorem ggL_law_X6_erase : GoodIn wsL_law wsX6_erase := goodIn_r _ [399, 172, 77, 333, 334, 335, 5, 336, 176, 177, 178, 179, 180, 181, 182, 183, 78, 975, 976, 977, 978, 979, 980, 981, 982, 983, 984, 985, 986, 987, 988, 989, 990] (by decide +kernel) (by decide +kernel)
set_option maxRecDepth 20000 in
theorem gL_law_X6_erase : GoodIn wsL_law (wsV RL 118 RX6 yX6_erase wsX6_erase) := goodIn_app (goodIn_of _ (by decide +kernel)) ggL_law_X6_erase
set_option maxRecDepth 20000 in
theorem ggL_law_L_simplify : GoodIn wsL_law wsL_simplify := goodIn_ca (goodIn_ca (goodIn_r _ [402, 293, 90, 403, 404, 405, 2, 406, 20, 16, 29, 300, 301, 302, 303, 304, 305, 306, 307, 298, 299, 110, 111, 112, 15, 113, 114, 308, 129, 130, 131, 35, 38, 407, 408, 409, 99, 100, 101, 102, 103, 115, 116, 117, 19, 118, 119, 120, 57, 56, 14, 121, 31, 32, 33, 11, 12, 34, 36, 37, 39, 40, 41, 42, 43, 44, 45, 46, 47, 48, 49, 50, 51, 122, 123, 124, 125, 126, 127, 128, 132, 133, 134, 135, 136, 137, 138, 139, 140, 141, 142, 143, 144, 145, 146, 147, 410, 411, 412, 413, 414, 245, 246, 247, 415, 416, 417, 418, 232, 233, 419, 420, 421, 422, 423, 424, 425, 426, 427, 428, 429, 430, 431, 432, 433, 434, 435, 317, 318, 319, 320, 321, 322, 323, 324, 436, 437, 438, 439, 440, 441, 442, 443, 325, 326, 327, 328, 444, 445, 446, 447, 28, 448, 449, 450, 451, 452, 453, 454, 455, 456, 457, 458, 459, 460, 461, 462, 463, 464, 465, 466, 467, 468, 469, 470, 471, 472, 473, 474, 475, 476, 477, 478, 479, 480, 481, 482, 70, 483, 484, 485, 486, 487, 488, 489, 490, 491, 492, 71, 72, 493, 494, 495, 496, 309, 497, 498, 499, 500, 501, 502, 503, 504, 505, 506, 507, 508, 509, 510, 511, 970, 971, 972, 973, 974, 991, 992, 993, 994, 995, 996, 997, 998, 999, 1011, 1012, 1013, 1008, 1009, 1010] (by decide +kernel) (by decide +kernel)) (goodIn_sub (fun _ h => List.mem_append_right _ h) (by decide +kernel))) (goodIn_sub (fun _ h => List.mem_append_left _ (List.mem_append_left _ (List.mem_append_right _ h))) (by decide +kernel))
set_option maxRecDepth 20000 in
theorem gL_law_L_simplify : GoodIn wsL_law (va_wsS RL 119 yL_simplify wsL_simplify) := goodIn_app (goodIn_of _ (by decide +kernel)) ggL_law_L_simplify
set_option maxRecDepth 20000 in
theorem ggL_law_X6_simplify : GoodIn wsL_law wsX6_simplify := goodIn_r _ [515, 172, 77, 333, 334, 335, 5, 336, 176, 177, 178, 179, 180, 181, 182, 183, 78, 516, 517, 518, 519, 520, 521, 522, 523, 524, 525, 526, 527, 196, 197, 198, 199, 528, 529, 530, 531, 340, 341, 342, 343, 532, 533, 534, 535, 536, 537, 538, 539, 540, 541, 542, 543, 544, 545, 546, 547, 548, 549, 550, 551, 552, 553, 554, 555, 556, 557, 558, 559, 560, 83, 84, 561, 562, 563, 564, 565, 566, 567, 568, 569, 570, 571, 975, 976, 977, 978, 979, 980, 981, 982, 983, 984, 985, 986, 987, 988, 989, 990] (by decide +kernel) (by decide +kernel)
set_option maxRecDepth 20000 in
theorem gL_law_X6_simplify : GoodIn wsL_law (wsV RL 121 RX6 yX6_simplify wsX6_simplify) := goodIn_app (goodIn_of _ (by decide +kernel)) ggL_law_X6_simplify
set_option maxRecDepth 20000 in
theorem ggL_law_L_bake : GoodIn wsL_law wsL_bake := goodIn_ca (goodIn_r _ [574, 293, 575, 576, 577, 2, 578, 20, 16, 300, 301, 302, 303, 304, 305, 306, 307, 298, 299, 110, 111, 112, 15, 113, 114, 308, 129, 130, 131, 35, 38, 115, 116, 117, 19, 118, 119, 120, 57, 56, 14, 121, 31, 32, 33, 11, 12, 34, 36, 37, 39, 40, 41, 42, 43, 44, 45, 46, 47, 48, 49, 50, 51, 122, 123, 124, 125, 126, 127, 128, 132, 133, 134, 135, 136, 137, 138, 139, 140, 141, 142, 143, 144, 145, 146, 147, 309, 245, 246, 247, 579, 580, 581, 582, 583, 584, 585, 586, 458, 459, 317, 318, 319, 320, 321, 322, 323, 324, 325, 326, 327, 328, 160, 161, 162, 163, 164, 165, 166, 167, 970, 971, 972, 973, 974, 991, 992, 993, 994, 995, 996, 997, 998, 999, 1011, 1012, 1013] (by decide +kernel) (by decide +kernel)) (goodIn_sub (fun _ h => List.mem_append_right _ h) (by decide +kernel))
set_option maxRecDepth 20000 in
theorem gL_law_L_bake : GoodIn wsL_law (va_wsS RL 122 yL_bake wsL_bake) := goodIn_app (goodIn_of _ (by decide +kernel)) ggL_law_L_bake
set_option maxRecDepth 20000 in
theorem ggL_law_X6_bake : GoodIn wsL_law wsX6_bake := goodIn_r _ [590, 172, 333, 334, 335, 5, 336, 77, 176, 177, 178, 179, 180, 181, 182, 183, 78, 591, 592, 593, 594, 196, 197, 198, 199, 569, 570, 571, 540, 541, 542, 381, 382, 383, 384, 340, 341, 342, 343, 200, 201, 202, 203, 188, 189, 190, 191, 192, 193, 194, 195, 975, 976, 977, 978, 979, 980, 981, 982, 983, 984, 985, 986, 987, 988, 989, 990] (by decide +kernel) (by decide +kernel)
set_option maxRecDepth 20000 in
theorem gL_law_X6_bake : GoodIn wsL_law (wsV RL 124 RX6 yX6_bake wsX6_bake) := goodIn_app (goodIn_of _ (by decide +kernel)) ggL_law_X6_bake
set_option maxRecDepth 20000 in
theorem ggL_law_L_set : GoodIn wsL_law wsL_set := goodIn_ca (goodIn_ca (goodIn_r _ [597, 293, 90, 598, 599, 600, 2, 601, 602, 603, 20, 16, 604, 605, 606, 298, 299, 607, 608, 232, 233, 99, 100, 101, 102, 103, 115, 116, 117, 19, 118, 119, 120, 57, 56, 14, 15, 121, 31, 32, 33, 11, 12, 34, 35, 36, 37, 38, 39, 40, 41, 42, 43, 44, 45, 46, 47, 48, 49, 50, 51, 122, 123, 124, 125, 114, 126, 127, 128, 129, 130, 131, 132, 133, 134, 135, 136, 137, 138, 139, 140, 141, 142, 143, 144, 145, 146, 147, 444, 416, 417, 418, 609, 610, 611, 612, 487, 488, 970, 971, 972, 973, 974, 997, 998, 999, 991, 992, 993, 994, 995, 996, 1011, 1012, 1013] (by decide +kernel) (by decide +kernel)) (goodIn_sub (fun _ h => List.mem_append_right _ h) (by decide +kernel))) (goodIn_sub (fun _ h => List.mem_append_left _ (List.mem_append_left _ (List.mem_append_right _ h))) (by decide +kernel))
set_option maxRecDepth 20000 in
theorem gL_law_L_set : GoodIn wsL_law (va_wsS RL 125 yL_set wsL_set) := goodIn_app (goodIn_of _ (by decide +kernel)) ggL_law_L_set
set_option maxRecDepth 20000 in
theorem ggL_law_X6_set : GoodIn wsL_law wsX6_set := goodIn_r _ [616, 172, 77, 176, 177, 5, 178, 617, 618, 619, 179, 180, 181, 182, 183, 78, 975, 976, 977, 978, 979, 980, 981, 982, 983, 984, 985, 986, 987, 988, 989, 990] (by decide +kernel) (by decide +kernel)
set_option maxRecDepth 20000 in
theorem gL_law_X6_set : GoodIn wsL_law (wsV RL 127 RX6 yX6_set wsX6_set) := goodIn_app (goodIn_of _ (by decide +kernel)) ggL_law_X6_set
set_option maxRecDepth 20000 in
theorem ggL_law_L_append : GoodIn wsL_law wsL_append := goodIn_ca (goodIn_ca (goodIn_r _ [622, 90, 91, 623, 624, 625, 2, 626, 108, 109, 25, 99, 100, 101, 102, 103, 627, 628, 629, 24, 630, 219, 631, 632, 633, 634, 62, 487, 488, 970, 971, 972, 973, 974, 1000, 1001, 1002, 1003, 1004, 1005, 1006, 1007] (by decide +kernel) (by decide +kernel)) (goodIn_sub (fun _ h => List.mem_append_left _ (List.mem_append_right _ h)) (by decide +kernel))) (goodIn_sub (fun _ h => List.mem_append_left _ (List.mem_append_left _ (List.mem_append_right _ h))) (by decide +kernel))
set_option maxRecDepth 20000 in
theorem gL_law_L_append : GoodIn wsL_law (va_wsS RL 128 yL_append wsL_append) := goodIn_app (goodIn_of _ (by decide +kernel)) ggL_law_L_append
set_option maxRecDepth 20000 in
theorem ggL_law_X6_append : GoodIn wsL_law wsX6_append := goodIn_r _ [638, 267, 172, 82, 176, 177, 5, 178, 975, 976, 977, 978, 979, 980, 981, 982, 983, 984, 985, 986, 987, 988, 989, 990] (by decide +kernel) (by decide +kernel)
set_option maxRecDepth 20000 in
theorem gL_law_X6_append : GoodIn wsL_law (wsV RL 130 RX6 yX6_append wsX6_append) := goodIn_app (goodIn_of _ (by decide +kernel)) ggL_law_X6_append
set_option maxRecDepth 20000 in
theorem ggL_law_X5_clearBuffer : GoodIn wsL_law wsX5_clearBuffer := goodIn_r _ [642, 25, 627, 628, 629, 24, 630, 219, 258, 259, 260, 261, 970, 971, 972, 973, 974, 1000, 1001, 1002, 1003, 1004, 1005, 1006, 1007] (by decide +kernel) (by decide +kernel)
set_option maxRecDepth 20000 in
theorem gL_law_X5_clearBuffer : GoodIn wsL_law (wsV RL 131 RX5 yX5_clearBuffer wsX5_clearBuffer) := goodIn_app (goodIn_of _ (by decide +kernel)) ggL_law_X5_clearBuffer
set_option maxRecDepth 20000 in
theorem ggL_law_X6_clearBuffer : GoodIn wsL_law wsX6_clearBuffer := goodIn_r _ [646, 172, 267, 975, 976, 977, 978, 979, 980, 981, 982, 983, 984, 985, 986, 987, 988, 989, 990] (by decide +kernel) (by decide +kernel)
set_option maxRecDepth 20000 in
theorem gL_law_X6_clearBuffer : GoodIn wsL_law (wsV RL 134 RX6 yX6_clearBuffer wsX6_clearBuffer) := goodIn_app (goodIn_of _ (by decide +kernel)) ggL_law_X6_clearBuffer
set_option maxRecDepth 20000 in
theorem ggL_law_X5_firstError : GoodIn wsL_law wsX5_firstError := goodIn_r _ [650, 25, 651, 223, 224, 24, 225, 64, 219, 62, 226, 153, 154, 37, 155, 136, 137, 227, 228, 229, 230, 221, 220, 231, 232, 2, 233, 234, 235, 236, 237, 238, 239, 240, 241, 242, 243, 244, 245, 246, 247, 248, 249, 250, 251, 252, 157, 158, 159, 160, 161, 162, 163, 51, 164, 165, 166, 167, 970, 971, 972, 973, 974, 1000, 1001, 1002, 1003, 1004, 1005, 1006, 1007, 1011, 1012, 1013] (by decide +kernel) (by decide +kernel)
set_option maxRecDepth 20000 in
theorem gL_law_X5_firstError : GoodIn wsL_law (wsV RL 135 RX5 yX5_firstError wsX5_firstError) := goodIn_app (goodIn_of _ (by decide +kernel)) ggL_law_X5_firstError
set_option maxRecDepth 20000 in
theorem ggL_law_X6_firstError : GoodIn wsL_law wsX6_firstError := goodIn_r _ [655, 172, 267, 268, 269, 270, 5, 271, 272, 273, 266, 274, 275, 276, 277, 85, 278, 279, 280, 281, 282, 283, 284, 285, 82, 176, 177, 178, 286, 287, 288, 289, 975, 976, 977, 978, 979, 980, 981, 982, 983, 984, 985, 986, 987, 988, 989, 990] (by decide +kernel) (by decide +kernel)
