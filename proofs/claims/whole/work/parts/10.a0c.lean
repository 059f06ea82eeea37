set_option maxRecDepth 20000 in
theorem wsL_law_g25 : GoodIn lw_tbl wsL_law0_r25 := goodIn_p wsL_law0_r25 [659, 663, 667, 1128, 1132] (by decide +kernel) (by decide +kernel)
set_option maxRecDepth 20000 in
theorem wsL_law_g26 : GoodIn lw_tbl wsL_law0_r26 := goodIn_p wsL_law0_r26 [675, 678, 689, 1136, 1139] (by decide +kernel) (by decide +kernel)
set_option maxRecDepth 20000 in
theorem wsL_law_g27 : GoodIn lw_tbl wsL_law0_r27 := goodIn_p wsL_law0_r27 [697, 222, 702, 1143, 218, 1147] (by decide +kernel) (by decide +kernel)
set_option maxRecDepth 20000 in
theorem wsL_law_g28 : GoodIn lw_tbl wsL_law0_r28 := goodIn_p wsL_law0_r28 [230, 1151, 710, 714, 719] (by decide +kernel) (by decide +kernel)
set_option maxRecDepth 20000 in
theorem wsL_law_g29 : GoodIn lw_tbl wsL_law0_r29 := goodIn_p wsL_law0_r29 [965, 726, 969, 735] (by decide +kernel) (by decide +kernel)
set_option maxRecDepth 20000 in
theorem wsL_law_g30 : GoodIn lw_tbl wsL_law0_r30 := goodIn_p wsL_law0_r30 [976, 743, 750, 754, 758] (by decide +kernel) (by decide +kernel)
set_option maxRecDepth 20000 in
theorem wsL_law_g31 : GoodIn lw_tbl wsL_law0_r31 := goodIn_p wsL_law0_r31 [762, 766, 1155, 1159, 1162, 1166] (by decide +kernel) (by decide +kernel)
set_option maxRecDepth 20000 in
theorem wsL_law_g32 : GoodIn lw_tbl wsL_law0_r32 := goodIn_p wsL_law0_r32 [1169, 774, 778, 782, 786] (by decide +kernel) (by decide +kernel)
set_option maxRecDepth 20000 in
theorem wsL_law_g33 : GoodIn lw_tbl wsL_law0_r33 := goodIn_p wsL_law0_r33 [791, 795, 799, 803, 807, 1174] (by decide +kernel) (by decide +kernel)
set_option maxRecDepth 20000 in
theorem wsL_law_g34 : GoodIn lw_tbl wsL_law0_r34 := goodIn_p wsL_law0_r34 [1178, 1182, 1186, 1190, 1194, 1198] (by decide +kernel) (by decide +kernel)
set_option maxRecDepth 20000 in
theorem wsL_law_g35 : GoodIn lw_tbl wsL_law0_r35 := goodIn_p wsL_law0_r35 [815, 1202, 823, 827] (by decide +kernel) (by decide +kernel)
set_option maxRecDepth 20000 in
theorem wsL_law_g36 : GoodIn lw_tbl wsL_law0_r36 := goodIn_p wsL_law0_r36 [831, 835, 839, 843, 1206, 1210] (by decide +kernel) (by decide +kernel)
