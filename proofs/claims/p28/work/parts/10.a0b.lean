set_option maxRecDepth 20000 in
theorem wsL_law_g13 : GoodIn lw_tbl wsL_law0_r13 := goodIn_p wsL_law0_r13 [583, 589, 592, 410, 413, 417] (by decide +kernel) (by decide +kernel)
set_option maxRecDepth 20000 in
theorem wsL_law_g14 : GoodIn lw_tbl wsL_law0_r14 := goodIn_p wsL_law0_r14 [423, 427, 431, 435, 439] (by decide +kernel) (by decide +kernel)
set_option maxRecDepth 20000 in
theorem wsL_law_g15 : GoodIn lw_tbl wsL_law0_r15 := goodIn_p wsL_law0_r15 [444, 448, 452, 457, 460, 464, 468] (by decide +kernel) (by decide +kernel)
set_option maxRecDepth 20000 in
theorem wsL_law_g16 : GoodIn lw_tbl wsL_law0_r16 := goodIn_p wsL_law0_r16 [471, 476, 479, 483, 487, 494] (by decide +kernel) (by decide +kernel)
set_option maxRecDepth 20000 in
theorem wsL_law_g17 : GoodIn lw_tbl wsL_law0_r17 := goodIn_p wsL_law0_r17 [499, 503, 506, 513] (by decide +kernel) (by decide +kernel)
set_option maxRecDepth 20000 in
theorem wsL_law_g18 : GoodIn lw_tbl wsL_law0_r18 := goodIn_p wsL_law0_r18 [520, 524, 528, 610, 613, 616, 621] (by decide +kernel) (by decide +kernel)
set_option maxRecDepth 20000 in
theorem wsL_law_g19 : GoodIn lw_tbl wsL_law0_r19 := goodIn_p wsL_law0_r19 [628, 632, 636, 640, 644, 648] (by decide +kernel) (by decide +kernel)
set_option maxRecDepth 20000 in
theorem wsL_law_g20 : GoodIn lw_tbl wsL_law0_r20 := goodIn_p wsL_law0_r20 [652, 656, 660, 664, 669] (by decide +kernel) (by decide +kernel)
set_option maxRecDepth 20000 in
theorem wsL_law_g21 : GoodIn lw_tbl wsL_law0_r21 := goodIn_p wsL_law0_r21 [673, 677, 681, 685, 690, 694] (by decide +kernel) (by decide +kernel)
set_option maxRecDepth 20000 in
theorem wsL_law_g22 : GoodIn lw_tbl wsL_law0_r22 := goodIn_p wsL_law0_r22 [698, 702, 706, 710, 713, 717] (by decide +kernel) (by decide +kernel)
set_option maxRecDepth 20000 in
theorem wsL_law_g23 : GoodIn lw_tbl wsL_law0_r23 := goodIn_p wsL_law0_r23 [722, 726] (by decide +kernel) (by decide +kernel)
set_option maxRecDepth 20000 in
theorem g_wsX50 : GoodIn lw_tbl wsX50 := goodIn_p wsX50 [] (by decide +kernel) (by decide +kernel)
