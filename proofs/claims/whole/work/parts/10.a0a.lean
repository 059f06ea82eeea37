set_option maxRecDepth 20000 in
theorem wsL_law_g1 : GoodIn lw_tbl wsL_law0_r1 := goodIn_p wsL_law0_r1 [76, 79] (by decide +kernel) (by decide +kernel)
set_option maxRecDepth 20000 in
theorem wsL_law_g2 : GoodIn lw_tbl wsL_law0_r2 := goodIn_p wsL_law0_r2 [84] (by decide +kernel) (by decide +kernel)
set_option maxRecDepth 20000 in
theorem wsL_law_g3 : GoodIn lw_tbl wsL_law0_r3 := goodIn_p wsL_law0_r3 [91, 136, 154, 187] (by decide +kernel) (by decide +kernel)
set_option maxRecDepth 20000 in
theorem wsL_law_g4 : GoodIn lw_tbl wsL_law0_r4 := goodIn_p wsL_law0_r4 [906, 309] (by decide +kernel) (by decide +kernel)
set_option maxRecDepth 20000 in
theorem wsL_law_g5 : GoodIn lw_tbl wsL_law0_r5 := goodIn_p wsL_law0_r5 [312, 315, 387, 391, 411] (by decide +kernel) (by decide +kernel)
set_option maxRecDepth 20000 in
theorem wsL_law_g6 : GoodIn lw_tbl wsL_law0_r6 := goodIn_p wsL_law0_r6 [416, 285, 420, 423, 426] (by decide +kernel) (by decide +kernel)
set_option maxRecDepth 20000 in
theorem wsL_law_g7 : GoodIn lw_tbl wsL_law0_r7 := goodIn_p wsL_law0_r7 [434, 238, 265, 269, 273] (by decide +kernel) (by decide +kernel)
set_option maxRecDepth 20000 in
theorem wsL_law_g8 : GoodIn lw_tbl wsL_law0_r8 := goodIn_p wsL_law0_r8 [984, 987, 972, 980, 991, 995] (by decide +kernel) (by decide +kernel)
set_option maxRecDepth 20000 in
theorem wsL_law_g9 : GoodIn lw_tbl wsL_law0_r9 := goodIn_p wsL_law0_r9 [999, 1003, 1007, 961, 443] (by decide +kernel) (by decide +kernel)
set_option maxRecDepth 20000 in
theorem wsL_law_g10 : GoodIn lw_tbl wsL_law0_r10 := goodIn_p wsL_law0_r10 [447, 234, 242, 245, 249] (by decide +kernel) (by decide +kernel)
set_option maxRecDepth 20000 in
theorem wsL_law_g11 : GoodIn lw_tbl wsL_law0_r11 := goodIn_p wsL_law0_r11 [253, 257, 261, 453, 226] (by decide +kernel) (by decide +kernel)
set_option maxRecDepth 20000 in
theorem wsL_law_g12 : GoodIn lw_tbl wsL_law0_r12 := goodIn_p wsL_law0_r12 [1011, 1015, 1019, 1023, 1027] (by decide +kernel) (by decide +kernel)
