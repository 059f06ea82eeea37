set_option maxRecDepth 20000 in
theorem hh_isSo : GoodIn wsL_law [.code yL_isSo cL_isSo 18 (some .boolean)] := goodIn_r _ [419] (by decide +kernel) (by decide +kernel)
set_option maxRecDepth 20000 in
theorem hh_isSo_wsL_isSo_r1 : GoodIn wsL_law wsL_isSo_r1 := goodIn_r _ [265, 229, 230, 231, 2, 232, 13, 233, 234, 235, 170, 171, 236, 237, 238, 239, 12, 240, 42, 241, 242, 259, 260, 71] (by decide +kernel) (by decide +kernel)
set_option maxRecDepth 20000 in
theorem hh_isSo_wsL_isSo_r2 : GoodIn wsL_law wsL_isSo_r2 := goodIn_r _ [261, 262, 263, 264, 266, 267, 268, 293, 294, 295, 272, 273, 274, 420, 421, 422, 275, 276, 277, 278, 279, 280, 281, 282] (by decide +kernel) (by decide +kernel)
set_option maxRecDepth 20000 in
theorem hh_isSo_wsL_isSo_r3 : GoodIn wsL_law wsL_isSo_r3 := goodIn_r _ [283, 423, 424, 425, 426, 427, 428, 429, 430, 88, 89, 172, 173, 174, 175, 176, 177, 178, 179, 96, 97, 98, 99, 100] (by decide +kernel) (by decide +kernel)
set_option maxRecDepth 20000 in
theorem hh_isSo_wsL_isSo_r4 : GoodIn wsL_law wsL_isSo_r4 := goodIn_r _ [180, 115, 116, 117, 32, 35, 211, 212, 213, 181, 182, 183, 34, 184, 122, 214, 193, 194, 195, 47, 215, 197, 198, 199] (by decide +kernel) (by decide +kernel)
set_option maxRecDepth 20000 in
theorem hh_isSo_wsL_isSo_r5 : GoodIn wsL_law wsL_isSo_r5 := goodIn_r _ [431, 201, 202, 203, 432, 414, 415, 416, 123, 350, 351, 433, 313, 314, 315, 316, 317, 318, 319, 320, 321, 322, 323, 324] (by decide +kernel) (by decide +kernel)
set_option maxRecDepth 20000 in
theorem hh_isSo_wsL_isSo_r6 : GoodIn wsL_law wsL_isSo_r6 := goodIn_r _ [325, 326, 327, 328, 192, 196, 329, 330, 331, 332, 333, 334, 335, 336, 200, 434, 435, 436, 437, 413, 438, 439, 440, 441] (by decide +kernel) (by decide +kernel)
set_option maxRecDepth 20000 in
theorem hh_isSo_wsL_isSo_r7 : GoodIn wsL_law wsL_isSo_r7 := goodIn_r _ [442, 443, 444, 445, 446, 447, 448, 449, 450, 365, 366, 367, 360, 361, 128, 362, 356, 357, 358, 359, 451, 452, 453, 454] (by decide +kernel) (by decide +kernel)
set_option maxRecDepth 20000 in
theorem hh_isSo_wsL_isSo_r8 : GoodIn wsL_law wsL_isSo_r8 := goodIn_r _ [455, 456, 457, 458, 459, 387, 388, 389, 390, 391, 392, 393, 394, 395, 396, 397, 460, 461, 462, 463, 310, 311, 312, 464] (by decide +kernel) (by decide +kernel)
set_option maxRecDepth 20000 in
theorem hh_isSo_wsL_isSo_r9 : GoodIn wsL_law wsL_isSo_r9 := goodIn_r _ [465, 466, 467, 468, 469, 470, 471, 472, 473, 474, 475, 476, 477, 127, 129, 478, 479, 480, 481, 482, 483, 484, 485, 486] (by decide +kernel) (by decide +kernel)
set_option maxRecDepth 20000 in
theorem hh_isSo_wsL_isSo_r10 : GoodIn wsL_law wsL_isSo_r10 := goodIn_r _ [487, 488, 489, 490, 491, 492, 287, 288, 289, 493, 494, 495, 496, 497, 498, 499, 500, 501, 502, 503, 504, 505, 506, 507] (by decide +kernel) (by decide +kernel)
set_option maxRecDepth 20000 in
theorem hh_isSo_wsL_isSo_r11 : GoodIn wsL_law wsL_isSo_r11 := goodIn_r _ [508, 509, 510, 511, 512, 513, 514, 515, 516] (by decide +kernel) (by decide +kernel)
set_option maxRecDepth 20000 in
theorem hh_isSo_wsX50 : GoodIn wsL_law wsX50 := goodIn_r _ [534, 535, 536, 537, 538] (by decide +kernel) (by decide +kernel)
set_option maxRecDepth 20000 in
theorem hh_isSo_wsX10 : GoodIn wsL_law wsX10 := goodIn_r _ [539, 540, 541, 542, 543, 544] (by decide +kernel) (by decide +kernel)
set_option maxRecDepth 20000 in
theorem hh_isSo_wsX30 : GoodIn wsL_law wsX30 := goodIn_r _ [559, 560, 561] (by decide +kernel) (by decide +kernel)
set_option maxRecDepth 20000 in
theorem ggL_law_L_isSo : GoodIn wsL_law wsL_isSo := (goodIn_ca (goodIn_ca (goodIn_app hh_isSo (goodIn_app (goodIn_app (goodIn_app (goodIn_app hh_isSo_wsL_isSo_r1 (goodIn_app hh_isSo_wsL_isSo_r2 (goodIn_app hh_isSo_wsL_isSo_r3 (goodIn_app hh_isSo_wsL_isSo_r4 (goodIn_app hh_isSo_wsL_isSo_r5 (goodIn_app hh_isSo_wsL_isSo_r6 (goodIn_app hh_isSo_wsL_isSo_r7 (goodIn_app hh_isSo_wsL_isSo_r8 (goodIn_app hh_isSo_wsL_isSo_r9 (goodIn_app hh_isSo_wsL_isSo_r10 hh_isSo_wsL_isSo_r11)))))))))) hh_isSo_wsX50) hh_isSo_wsX10) hh_isSo_wsX30)) (goodIn_sub (fun _ h => List.mem_append_right _ h) (by decide +kernel))) (goodIn_sub (fun _ h => List.mem_append_left _ (List.mem_append_left _ (List.mem_append_right _ h))) (by decide +kernel)))
set_option maxRecDepth 20000 in
theorem gL_law_L_isSo : GoodIn wsL_law (va_wsS RL 148 yL_isSo wsL_isSo) := goodIn_app (goodIn_of _ (by decide +kernel)) ggL_law_L_isSo
