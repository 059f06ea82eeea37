set_option maxRecDepth 20000 in
theorem wsL_law_g25 : GoodIn lw_tbl wsL_law0_r25 := goodIn_p wsL_law0_r25 [659, 663, 667, 1129, 1133] (by decide +kernel) (by decide +kernel)
set_option maxRecDepth 20000 in
theorem wsL_law_g26 : GoodIn lw_tbl wsL_law0_r26 := goodIn_p wsL_law0_r26 [675, 678, 689, 1137, 1140] (by decide +kernel) (by decide +kernel)
set_option maxRecDepth 20000 in
theorem wsL_law_g27 : GoodIn lw_tbl wsL_law0_r27 := goodIn_p wsL_law0_r27 [697, 222, 702, 1144, 218, 1148] (by decide +kernel) (by decide +kernel)
set_option maxRecDepth 20000 in
theorem wsL_law_g28 : GoodIn lw_tbl wsL_law0_r28 := goodIn_p wsL_law0_r28 [230, 1152, 710, 714, 719] (by decide +kernel) (by decide +kernel)
set_option maxRecDepth 20000 in
theorem wsL_law_g29 : GoodIn lw_tbl wsL_law0_r29 := goodIn_p wsL_law0_r29 [966, 726, 970, 735] (by decide +kernel) (by decide +kernel)
set_option maxRecDepth 20000 in
theorem wsL_law_g30 : GoodIn lw_tbl wsL_law0_r30 := goodIn_p wsL_law0_r30 [977, 743, 750, 754, 758] (by decide +kernel) (by decide +kernel)
set_option maxRecDepth 20000 in
theorem wsL_law_g31 : GoodIn lw_tbl wsL_law0_r31 := goodIn_p wsL_law0_r31 [762, 766, 1156, 1160, 1163, 1167] (by decide +kernel) (by decide +kernel)
set_option maxRecDepth 20000 in
theorem wsL_law_g32 : GoodIn lw_tbl wsL_law0_r32 := goodIn_p wsL_law0_r32 [1170, 774, 778, 782, 786] (by decide +kernel) (by decide +kernel)
set_option maxRecDepth 20000 in
theorem wsL_law_g33 : GoodIn lw_tbl wsL_law0_r33 := goodIn_p wsL_law0_r33 [791, 795, 799, 803, 807, 1175] (by decide +kernel) (by decide +kernel)
set_option maxRecDepth 20000 in
theorem wsL_law_g34 : GoodIn lw_tbl wsL_law0_r34 := goodIn_p wsL_law0_r34 [1179, 1183, 1187, 1191, 1195, 1199] (by decide +kernel) (by decide +kernel)
set_option maxRecDepth 20000 in
theorem wsL_law_g35 : GoodIn lw_tbl wsL_law0_r35 := goodIn_p wsL_law0_r35 [815, 1203, 823, 827] (by decide +kernel) (by decide +kernel)
set_option maxRecDepth 20000 in
theorem wsL_law_g36 : GoodIn lw_tbl wsL_law0_r36 := goodIn_p wsL_law0_r36 [831, 835, 839, 843, 1207, 1211] (by decide +kernel) (by decide +kernel)
