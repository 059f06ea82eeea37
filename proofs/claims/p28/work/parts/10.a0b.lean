set_option maxRecDepth 20000 in
theorem wsL_law_g13 : GoodIn lw_tbl wsL_law0_r13 := goodIn_p wsL_law0_r13 [583, 589, 592, 410, 413, 417] (by decide +kernel) (by decide +kernel)
set_option maxRecDepth 20000 in
theorem wsL_law_g14 : GoodIn lw_tbl wsL_law0_r14 := goodIn_p wsL_law0_r14 [423, 427, 431, 435, 439] (by decide +kernel) (by decide +kernel)
set_option maxRecDepth 20000 in
theorem wsL_law_g15_0 : GoodIn lw_tbl [Cond.code yX3_isThin cX3_isThin 4 (some .boolean), Cond.methodLink RX5 150 yX2_keptPoints, Cond.instanceMethod yX2_keptPoints, Cond.selects RX2 yX2_keptPoints yX2_keptPoints, Cond.code yX2_keptPoints cX2_keptPoints 5 (some .int), Cond.methodLink RX2 21 yX2_split, Cond.instanceMethod yX2_split, Cond.selects RX2 yX2_split yX2_split, Cond.code yX2_split cX2_split 10 (some .int), Cond.methodLink RX2 29 yX3_size, Cond.methodLink RX2 45 yX2_nextOf, Cond.instanceMethod yX2_nextOf, Cond.selects RX2 yX2_nextOf yX2_nextOf, Cond.code yX2_nextOf cX2_nextOf 5 (some .int), Cond.static yX5_hasBit, Cond.code yX5_hasBit cX5_hasBit 2 (some .boolean), Cond.methodLink RX2 49 yX3_farthestBetween, Cond.instanceMethod yX3_farthestBetween, Cond.selects RX3 yX3_farthestBetween yX3_farthestBetween, Cond.code yX3_farthestBetween cX3_farthestBetween 9 (some .int), Cond.methodLink RX3 71 yX3_spread, Cond.instanceMethod yX3_spread, Cond.selects RX3 yX3_spread yX3_spread] := goodIn_p _ [444, 448, 452, 457, 460, 464] (by decide +kernel) (by decide +kernel)
set_option maxRecDepth 20000 in
theorem wsL_law_g15_1 : GoodIn lw_tbl [Cond.code yX3_spread cX3_spread 16 (some .long)] := goodIn_p _ [468] (by decide +kernel) (by decide +kernel)
set_option maxRecDepth 20000 in
theorem wsL_law_g15 : GoodIn lw_tbl wsL_law0_r15 := ((goodIn_app wsL_law_g15_0 wsL_law_g15_1) :)
set_option maxRecDepth 20000 in
theorem wsL_law_g16_0 : GoodIn lw_tbl [Cond.methodLink RX3 56 Lib.MathLoose.max_long.x, Cond.static Lib.MathLoose.max_long.x, Cond.code Lib.MathLoose.max_long.x Lib.MathLoose.max_long.code 4 (some .long), Cond.methodLink RX2 52 yX3_spread, Cond.methodLink RX2 56 yX3_scale, Cond.instanceMethod yX3_scale, Cond.selects RX3 yX3_scale yX3_scale, Cond.code yX3_scale cX3_scale 3 (some .long), Cond.methodLink RX2 60 yX2_isWithin, Cond.static yX2_isWithin, Cond.code yX2_isWithin cX2_isWithin 5 (some .boolean), Cond.methodLink RX2 25 yX2_measure, Cond.instanceMethod yX2_measure, Cond.selects RX2 yX2_measure yX2_measure, Cond.code yX2_measure cX2_measure 7 none, Cond.methodLink RX2 68 yX2_leastWithin, Cond.instanceMethod yX2_leastWithin, Cond.selects RX2 yX2_leastWithin yX2_leastWithin, Cond.code yX2_leastWithin cX2_leastWithin 9 (some .int), Cond.methodLink RX2 35 yX2_fewest, Cond.instanceMethod yX2_fewest, Cond.selects RX2 yX2_fewest yX2_fewest] := goodIn_p _ [471, 476, 479, 483, 487] (by decide +kernel) (by decide +kernel)
set_option maxRecDepth 20000 in
theorem wsL_law_g16_1 : GoodIn lw_tbl [Cond.code yX2_fewest cX2_fewest 7 (some .int), Cond.methodLink RX5 154 yX3_keepOnly] := goodIn_p _ [494] (by decide +kernel) (by decide +kernel)
set_option maxRecDepth 20000 in
theorem wsL_law_g16 : GoodIn lw_tbl wsL_law0_r16 := ((goodIn_app wsL_law_g16_0 wsL_law_g16_1) :)
set_option maxRecDepth 20000 in
theorem wsL_law_g17 : GoodIn lw_tbl wsL_law0_r17 := goodIn_p wsL_law0_r17 [499, 503, 506, 513] (by decide +kernel) (by decide +kernel)
set_option maxRecDepth 20000 in
theorem wsL_law_g18_0 : GoodIn lw_tbl [Cond.code yX5_bake cX5_bake 4 (some .int), Cond.methodLink RX5 163 yX3_removeUnkept, Cond.instanceMethod yX3_removeUnkept, Cond.selects RX3 yX3_removeUnkept yX3_removeUnkept, Cond.code yX3_removeUnkept cX3_removeUnkept 3 none, Cond.methodLink RX3 52 yX3_isKept, Cond.instanceMethod yX3_isKept, Cond.selects RX3 yX3_isKept yX3_isKept, Cond.code yX3_isKept cX3_isKept 2 (some .boolean), Cond.methodLink RL 148 yL_isSo, Cond.static yL_isSo] := goodIn_p _ [520, 524, 528] (by decide +kernel) (by decide +kernel)
set_option maxRecDepth 20000 in
theorem wsL_law_g18_1 : GoodIn lw_tbl [Cond.code yL_isSo cL_isSo 18 (some .boolean), Cond.methodLink RL 89 yL_hundredths, Cond.static yL_hundredths] := goodIn_p _ [610] (by decide +kernel) (by decide +kernel)
set_option maxRecDepth 20000 in
theorem wsL_law_g18_2 : GoodIn lw_tbl [Cond.code yL_hundredths cL_hundredths 4 (some .int), Cond.methodLink RL 61 yL_root, Cond.static yL_root, Cond.code yL_root cL_root 5 (some .int), Cond.constant RL 52 (1048576), Cond.methodLink RL 93 yX5_point, Cond.instanceMethod yX5_point, Cond.selects RX5 yX5_point yX5_point, Cond.code yX5_point cX5_point 5 (some .int), Cond.methodLink RX5 209 yX3_width] := goodIn_p _ [613, 616, 621] (by decide +kernel) (by decide +kernel)
set_option maxRecDepth 20000 in
theorem wsL_law_g18 : GoodIn lw_tbl wsL_law0_r18 := ((goodIn_app wsL_law_g18_0 (goodIn_app wsL_law_g18_1 wsL_law_g18_2)) :)
set_option maxRecDepth 20000 in
theorem wsL_law_g19 : GoodIn lw_tbl wsL_law0_r19 := goodIn_p wsL_law0_r19 [628, 632, 636, 640, 644, 648] (by decide +kernel) (by decide +kernel)
set_option maxRecDepth 20000 in
theorem wsL_law_g20 : GoodIn lw_tbl wsL_law0_r20 := goodIn_p wsL_law0_r20 [652, 656, 660, 664, 669] (by decide +kernel) (by decide +kernel)
set_option maxRecDepth 20000 in
theorem wsL_law_g21 : GoodIn lw_tbl wsL_law0_r21 := goodIn_p wsL_law0_r21 [673, 677, 681, 685, 690, 694] (by decide +kernel) (by decide +kernel)
set_option maxRecDepth 20000 in
theorem wsL_law_g22_0 : GoodIn lw_tbl [Cond.code yX3_crossingsBehind cX3_crossingsBehind 5 (some .int), Cond.methodLink RX3 108 yX3_cross, Cond.instanceMethod yX3_cross, Cond.selects RX3 yX3_cross yX3_cross, Cond.code yX3_cross cX3_cross 5 (some .boolean), Cond.methodLink RX3 111 yX3_areApart, Cond.instanceMethod yX3_areApart, Cond.selects RX3 yX3_areApart yX3_areApart, Cond.code yX3_areApart cX3_areApart 9 (some .boolean), Cond.methodLink RX3 114 yX3_sideOf, Cond.instanceMethod yX3_sideOf, Cond.selects RX3 yX3_sideOf yX3_sideOf, Cond.code yX3_sideOf cX3_sideOf 4 (some .long), Cond.methodLink RL 152 yL_isAhead, Cond.static yL_isAhead] := goodIn_p _ [698, 702, 706, 710] (by decide +kernel) (by decide +kernel)
set_option maxRecDepth 20000 in
theorem wsL_law_g22_1 : GoodIn lw_tbl [Cond.code yL_isAhead cL_isAhead 10 (some .boolean), Cond.methodLink RL 112 yX5_ifSimplified, Cond.instanceMethod yX5_ifSimplified, Cond.selects RX5 yX5_ifSimplified yX5_ifSimplified] := goodIn_p _ [713] (by decide +kernel) (by decide +kernel)
set_option maxRecDepth 20000 in
theorem wsL_law_g22_2 : GoodIn lw_tbl [Cond.code yX5_ifSimplified cX5_ifSimplified 5 (some .int), Cond.methodLink RX5 273 yJ6_bitCount_0f7a4, Cond.methodLink RL 118 yX5_leastBound, Cond.instanceMethod yX5_leastBound, Cond.selects RX5 yX5_leastBound yX5_leastBound] := goodIn_p _ [717] (by decide +kernel) (by decide +kernel)
set_option maxRecDepth 20000 in
theorem wsL_law_g22 : GoodIn lw_tbl wsL_law0_r22 := ((goodIn_app wsL_law_g22_0 (goodIn_app wsL_law_g22_1 wsL_law_g22_2)) :)
set_option maxRecDepth 20000 in
theorem wsL_law_g23 : GoodIn lw_tbl wsL_law0_r23 := goodIn_p wsL_law0_r23 [722, 726] (by decide +kernel) (by decide +kernel)
set_option maxRecDepth 20000 in
theorem g_wsX50 : GoodIn lw_tbl wsX50 := goodIn_p wsX50 [] (by decide +kernel) (by decide +kernel)
