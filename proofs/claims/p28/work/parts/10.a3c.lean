set_option maxRecDepth 20000 in
theorem hh_isAhead : GoodIn wsL_law [.code yL_isAhead cL_isAhead 10 (some .boolean)] := goodIn_r _ [519] (by decide +kernel) (by decide +kernel)
set_option maxRecDepth 20000 in
theorem hh_isAhead_wsL_isAhead_r1 : GoodIn wsL_law wsL_isAhead_r1 := goodIn_r _ [229, 230, 231, 2, 232, 13, 233, 234, 235, 170, 171, 236, 237, 238, 239, 12, 240, 42, 241, 242, 259, 260, 71, 261] (by decide +kernel) (by decide +kernel)
set_option maxRecDepth 20000 in
theorem hh_isAhead_wsL_isAhead_r2 : GoodIn wsL_law wsL_isAhead_r2 := goodIn_r _ [262, 263, 264, 265, 266, 267, 268, 158, 159, 160, 161, 284, 285, 286, 287, 288, 289, 290, 291, 292, 293, 294, 295, 272] (by decide +kernel) (by decide +kernel)
set_option maxRecDepth 20000 in
theorem hh_isAhead_wsL_isAhead_r3 : GoodIn wsL_law wsL_isAhead_r3 := goodIn_r _ [273, 274, 275, 276, 277, 278, 279, 280, 281, 282, 283, 520, 521, 522, 523, 26, 172, 173, 174, 175, 176, 177, 178, 179] (by decide +kernel) (by decide +kernel)
set_option maxRecDepth 20000 in
theorem hh_isAhead_wsL_isAhead_r4 : GoodIn wsL_law wsL_isAhead_r4 := goodIn_r _ [96, 97, 98, 99, 100, 180, 115, 116, 117, 32, 35, 85, 86, 87, 88, 89, 303, 304, 305, 306, 307, 308, 309, 310] (by decide +kernel) (by decide +kernel)
set_option maxRecDepth 20000 in
theorem hh_isAhead_wsL_isAhead_r5 : GoodIn wsL_law wsL_isAhead_r5 := goodIn_r _ [182, 183, 34, 184, 122, 311, 312, 313, 314, 315, 316, 317, 318, 319, 320, 321, 322, 323, 324, 325, 326, 327, 328, 192] (by decide +kernel) (by decide +kernel)
set_option maxRecDepth 20000 in
theorem hh_isAhead_wsL_isAhead_r6 : GoodIn wsL_law wsL_isAhead_r6 := goodIn_r _ [193, 194, 195, 47, 196, 197, 198, 199, 329, 330, 331, 332, 333, 334, 335, 336, 200, 201, 202, 203, 337, 338, 339, 25] (by decide +kernel) (by decide +kernel)
set_option maxRecDepth 20000 in
theorem hh_isAhead_wsL_isAhead_r7 : GoodIn wsL_law wsL_isAhead_r7 := goodIn_r _ [340, 341, 342, 343, 344, 345, 346, 347, 348, 349, 350, 351, 352, 353, 354, 355, 356, 357, 358, 359, 360, 361, 128, 362] (by decide +kernel) (by decide +kernel)
set_option maxRecDepth 20000 in
theorem hh_isAhead_wsL_isAhead_r8 : GoodIn wsL_law wsL_isAhead_r8 := goodIn_r _ [363, 364, 365, 366, 367, 368, 369, 370, 371, 372, 373, 374, 66, 375, 376, 377, 378, 257, 258, 379, 380, 381, 382, 67] (by decide +kernel) (by decide +kernel)
set_option maxRecDepth 20000 in
theorem hh_isAhead_wsL_isAhead_r9 : GoodIn wsL_law wsL_isAhead_r9 := goodIn_r _ [68, 524, 392, 393, 394, 395, 396, 397, 269, 270, 271, 525, 526, 527, 528, 529, 530, 531, 532, 533] (by decide +kernel) (by decide +kernel)
set_option maxRecDepth 20000 in
theorem hh_isAhead_wsX50 : GoodIn wsL_law wsX50 := goodIn_r _ [534, 535, 536, 537, 538] (by decide +kernel) (by decide +kernel)
set_option maxRecDepth 20000 in
theorem hh_isAhead_wsX10 : GoodIn wsL_law wsX10 := goodIn_r _ [539, 540, 541, 542, 543, 544] (by decide +kernel) (by decide +kernel)
set_option maxRecDepth 20000 in
theorem hh_isAhead_wsX30 : GoodIn wsL_law wsX30 := goodIn_r _ [559, 560, 561] (by decide +kernel) (by decide +kernel)
set_option maxRecDepth 20000 in
theorem hh_isAhead_wsX20 : GoodIn wsL_law wsX20 := goodIn_r _ [556, 557, 558] (by decide +kernel) (by decide +kernel)
set_option maxRecDepth 20000 in
theorem ggL_law_L_isAhead : GoodIn wsL_law wsL_isAhead := (goodIn_ca (goodIn_ca (goodIn_app hh_isAhead (goodIn_app (goodIn_app (goodIn_app (goodIn_app (goodIn_app hh_isAhead_wsL_isAhead_r1 (goodIn_app hh_isAhead_wsL_isAhead_r2 (goodIn_app hh_isAhead_wsL_isAhead_r3 (goodIn_app hh_isAhead_wsL_isAhead_r4 (goodIn_app hh_isAhead_wsL_isAhead_r5 (goodIn_app hh_isAhead_wsL_isAhead_r6 (goodIn_app hh_isAhead_wsL_isAhead_r7 (goodIn_app hh_isAhead_wsL_isAhead_r8 hh_isAhead_wsL_isAhead_r9)))))))) hh_isAhead_wsX50) hh_isAhead_wsX10) hh_isAhead_wsX30) hh_isAhead_wsX20)) (goodIn_sub (fun _ h => List.mem_append_right _ h) (by decide +kernel))) (goodIn_sub (fun _ h => List.mem_append_left _ (List.mem_append_left _ (List.mem_append_right _ h))) (by decide +kernel)))
set_option maxRecDepth 20000 in
theorem gL_law_L_isAhead : GoodIn wsL_law (va_wsS RL 152 yL_isAhead wsL_isAhead) := goodIn_app (goodIn_of _ (by decide +kernel)) ggL_law_L_isAhead
