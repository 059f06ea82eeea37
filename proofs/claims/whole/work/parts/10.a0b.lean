set_option maxRecDepth 20000 in
theorem wsL_law_g13 : GoodIn lw_tbl wsL_law0_r13 := goodIn_p wsL_law0_r13 [1031, 462, 466, 470] (by decide +kernel) (by decide +kernel)
set_option maxRecDepth 20000 in
theorem wsL_law_g14 : GoodIn lw_tbl wsL_law0_r14 := goodIn_p wsL_law0_r14 [492, 497, 501, 505, 509, 1035] (by decide +kernel) (by decide +kernel)
set_option maxRecDepth 20000 in
theorem wsL_law_g15 : GoodIn lw_tbl wsL_law0_r15 := goodIn_p wsL_law0_r15 [1039, 1042, 1046, 516, 519] (by decide +kernel) (by decide +kernel)
set_option maxRecDepth 20000 in
theorem wsL_law_g16 : GoodIn lw_tbl wsL_law0_r16 := goodIn_p wsL_law0_r16 [1050, 1054, 531, 536, 1058] (by decide +kernel) (by decide +kernel)
set_option maxRecDepth 20000 in
theorem wsL_law_g17 : GoodIn lw_tbl wsL_law0_r17 := goodIn_p wsL_law0_r17 [1062, 543, 547, 1066, 554] (by decide +kernel) (by decide +kernel)
set_option maxRecDepth 20000 in
theorem wsL_law_g18 : GoodIn lw_tbl wsL_law0_r18 := goodIn_p wsL_law0_r18 [557, 561, 565, 570, 574, 578] (by decide +kernel) (by decide +kernel)
set_option maxRecDepth 20000 in
theorem wsL_law_g19 : GoodIn lw_tbl wsL_law0_r19 := goodIn_p wsL_law0_r19 [582, 586, 591, 596, 600] (by decide +kernel) (by decide +kernel)
set_option maxRecDepth 20000 in
theorem wsL_law_g20 : GoodIn lw_tbl wsL_law0_r20 := goodIn_p wsL_law0_r20 [605, 608, 612, 616, 619, 624, 627] (by decide +kernel) (by decide +kernel)
set_option maxRecDepth 20000 in
theorem wsL_law_g21 : GoodIn lw_tbl wsL_law0_r21 := goodIn_p wsL_law0_r21 [631, 635, 638, 642, 647, 294] (by decide +kernel) (by decide +kernel)
set_option maxRecDepth 20000 in
theorem wsL_law_g22 : GoodIn lw_tbl wsL_law0_r22 := goodIn_p wsL_law0_r22 [297, 652, 1070, 1074, 1078, 1082] (by decide +kernel) (by decide +kernel)
set_option maxRecDepth 20000 in
theorem wsL_law_g23 : GoodIn lw_tbl wsL_law0_r23 := goodIn_p wsL_law0_r23 [1086, 1090, 1094, 1097, 1101] (by decide +kernel) (by decide +kernel)
set_option maxRecDepth 20000 in
theorem wsL_law_g24 : GoodIn lw_tbl wsL_law0_r24 := goodIn_p wsL_law0_r24 [1105, 1109, 1113, 1117, 1121, 1124] (by decide +kernel) (by decide +kernel)
