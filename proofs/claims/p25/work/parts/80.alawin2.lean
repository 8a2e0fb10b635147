set_option maxRecDepth 20000 in
theorem wsL_gwsL_law_r8 : GoodIn lw_tbl wsL_law_r8 := goodIn_p wsL_law_r8 [281, 286, 290, 294, 299] (by decide +kernel) (by decide +kernel)
set_option maxRecDepth 20000 in
theorem wsL_gwsL_law_r9 : GoodIn lw_tbl wsL_law_r9 := goodIn_p wsL_law_r9 [304, 307, 314, 318, 322] (by decide +kernel) (by decide +kernel)
set_option maxRecDepth 20000 in
theorem wsL_gwsL_law_r10 : GoodIn lw_tbl wsL_law_r10 := goodIn_p wsL_law_r10 [326, 330, 335, 339, 343, 347] (by decide +kernel) (by decide +kernel)
set_option maxRecDepth 20000 in
theorem wsL_gwsL_law_r11 : GoodIn lw_tbl wsL_law_r11 := goodIn_p wsL_law_r11 [351, 656, 410, 413, 659, 662, 665, 668] (by decide +kernel) (by decide +kernel)
set_option maxRecDepth 20000 in
theorem wsL_gwsL_law_r12 : GoodIn lw_tbl wsL_law_r12 := goodIn_p wsL_law_r12 [672, 676, 680, 684, 688, 693] (by decide +kernel) (by decide +kernel)
