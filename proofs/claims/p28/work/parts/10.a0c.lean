set_option maxRecDepth 20000 in
theorem g_wsX10 : GoodIn lw_tbl wsX10 := goodIn_p wsX10 [] (by decide +kernel) (by decide +kernel)
set_option maxRecDepth 20000 in
theorem g_wsX00 : GoodIn lw_tbl wsX00 := goodIn_p wsX00 [] (by decide +kernel) (by decide +kernel)
set_option maxRecDepth 20000 in
theorem g_wsX40 : GoodIn lw_tbl wsX40 := goodIn_p wsX40 [] (by decide +kernel) (by decide +kernel)
set_option maxRecDepth 20000 in
theorem g_wsX20 : GoodIn lw_tbl wsX20 := goodIn_p wsX20 [] (by decide +kernel) (by decide +kernel)
set_option maxRecDepth 20000 in
theorem g_wsX30 : GoodIn lw_tbl wsX30 := goodIn_p wsX30 [] (by decide +kernel) (by decide +kernel)
theorem wsL_law_in0 : ∀ w ∈ wsL_law0, w ∈ lw_tbl := fun w h => (show GoodIn lw_tbl wsL_law0 from (goodIn_app (goodIn_app (goodIn_app (goodIn_app (goodIn_app (goodIn_app (goodIn_app (goodIn_app wsL_law_g1 (goodIn_app wsL_law_g2 (goodIn_app wsL_law_g3 (goodIn_app wsL_law_g4 (goodIn_app wsL_law_g5 (goodIn_app wsL_law_g6 (goodIn_app wsL_law_g7 (goodIn_app wsL_law_g8 (goodIn_app wsL_law_g9 (goodIn_app wsL_law_g10 (goodIn_app wsL_law_g11 (goodIn_app wsL_law_g12 (goodIn_app wsL_law_g13 (goodIn_app wsL_law_g14 (goodIn_app wsL_law_g15 (goodIn_app wsL_law_g16 (goodIn_app wsL_law_g17 (goodIn_app wsL_law_g18 (goodIn_app wsL_law_g19 (goodIn_app wsL_law_g20 (goodIn_app wsL_law_g21 (goodIn_app wsL_law_g22 wsL_law_g23)))))))))))))))))))))) g_wsX50) g_wsX10) g_wsX00) g_wsX40) g_wsX20) g_wsX30) (fun _ h => nomatch h))) w h |>.1
