set_option maxRecDepth 20000 in
theorem wsL_law_g1 : GoodIn lw_tbl wsL_law0_r1 := goodIn_p wsL_law0_r1 [32, 35] (by decide +kernel) (by decide +kernel)
set_option maxRecDepth 20000 in
theorem wsL_law_g2 : GoodIn lw_tbl wsL_law0_r2 := goodIn_p wsL_law0_r2 [40, 47] (by decide +kernel) (by decide +kernel)
set_option maxRecDepth 20000 in
theorem wsL_law_g3 : GoodIn lw_tbl wsL_law0_r3 := goodIn_p wsL_law0_r3 [92, 110, 137] (by decide +kernel) (by decide +kernel)
set_option maxRecDepth 20000 in
theorem wsL_law_g4 : GoodIn lw_tbl wsL_law0_r4 := goodIn_p wsL_law0_r4 [730, 553, 290, 293, 557] (by decide +kernel) (by decide +kernel)
set_option maxRecDepth 20000 in
theorem wsL_law_g5 : GoodIn lw_tbl wsL_law0_r5 := goodIn_p wsL_law0_r5 [277, 332, 337, 282] (by decide +kernel) (by decide +kernel)
set_option maxRecDepth 20000 in
theorem wsL_law_g6 : GoodIn lw_tbl wsL_law0_r6 := goodIn_p wsL_law0_r6 [342, 345, 348, 562, 566] (by decide +kernel) (by decide +kernel)
set_option maxRecDepth 20000 in
theorem wsL_law_g7 : GoodIn lw_tbl wsL_law0_r7 := goodIn_p wsL_law0_r7 [570, 372, 376, 250, 254] (by decide +kernel) (by decide +kernel)
set_option maxRecDepth 20000 in
theorem wsL_law_g8 : GoodIn lw_tbl wsL_law0_r8 := goodIn_p wsL_law0_r8 [265, 269, 273, 286, 312, 356] (by decide +kernel) (by decide +kernel)
set_option maxRecDepth 20000 in
theorem wsL_law_g9 : GoodIn lw_tbl wsL_law0_r9 := goodIn_p wsL_law0_r9 [360, 364, 368, 383, 386] (by decide +kernel) (by decide +kernel)
set_option maxRecDepth 20000 in
theorem wsL_law_g10 : GoodIn lw_tbl wsL_law0_r10 := goodIn_p wsL_law0_r10 [398, 403, 168, 171] (by decide +kernel) (by decide +kernel)
set_option maxRecDepth 20000 in
theorem wsL_law_g11 : GoodIn lw_tbl wsL_law0_r11 := goodIn_p wsL_law0_r11 [244, 247, 536, 545, 490, 573] (by decide +kernel) (by decide +kernel)
set_option maxRecDepth 20000 in
theorem wsL_law_g12_0 : GoodIn lw_tbl [Cond.code yL_isSharp cL_isSharp 9 (some .boolean), Cond.constantLong RL 53 (10000), Cond.methodLink RL 42 yL_product, Cond.static yL_product, Cond.code yL_product cL_product 5 (some .long), Cond.methodLink RL 115 yL_split, Cond.static yL_split] := goodIn_p _ [576, 579] (by decide +kernel) (by decide +kernel)
set_option maxRecDepth 20000 in
theorem wsL_law_g12_1 : GoodIn lw_tbl [Cond.code yL_split cL_split 11 (some .int), Cond.methodLink RL 72 yL_next, Cond.static yL_next, Cond.code yL_next cL_next 3 (some .int), Cond.methodLink RL 55 yL_above, Cond.static yL_above] := goodIn_p _ [607, 595] (by decide +kernel) (by decide +kernel)
set_option maxRecDepth 20000 in
theorem wsL_law_g12_2 : GoodIn lw_tbl [Cond.code yL_above cL_above 8 (some .long), Cond.methodLink RL 48 yL_area, Cond.static yL_area, Cond.code yL_area cL_area 4 (some .long), Cond.methodLink RL 58 yL_below, Cond.static yL_below, Cond.code yL_below cL_below 6 (some .long), Cond.methodLink RL 109 yL_fewest, Cond.static yL_fewest, Cond.code yL_fewest cL_fewest 6 (some .int), Cond.methodLink RL 75 yL_ones] := goodIn_p _ [598, 601, 604, 586] (by decide +kernel) (by decide +kernel)
set_option maxRecDepth 20000 in
theorem wsL_law_g12 : GoodIn lw_tbl wsL_law0_r12 := ((goodIn_app wsL_law_g12_0 (goodIn_app wsL_law_g12_1 wsL_law_g12_2)) :)
