theorem wsL_gwsL_law_r15 : GoodIn lw_tbl wsL_law_r15 := ((goodIn_app wsL_gwsL_law_r15_0 (goodIn_app wsL_gwsL_law_r15_1 wsL_gwsL_law_r15_2)) : GoodIn lw_tbl (([Cond.static yL_cell, Cond.code yL_cell cL_cell 2 (some .int), Cond.constant RL 7 (40503), Cond.methodLink RL 114 yL_acts, Cond.static yL_acts] : List Cond) ++ (([Cond.code yL_acts cL_acts 19 (some .boolean)] : List Cond) ++ ([Cond.constant RL 43 (10000000), Cond.methodLink RL 39 yL_low, Cond.static yL_low, Cond.code yL_low cL_low 2 (some .int), Cond.methodLink RL 44 yX8_clearText, Cond.instanceMethod yX8_clearText, Cond.selects RX8 yX8_clearText yX8_clearText, Cond.code yX8_clearText cX8_clearText 2 (some .int), Cond.methodLink RX8 66 yX6_empty, Cond.instanceMethod yX6_empty, Cond.selects RX6 yX6_empty yX6_empty, Cond.code yX6_empty cX6_empty 1 none, Cond.methodLink RL 48 yL_letters, Cond.static yL_letters, Cond.code yL_letters cL_letters 6 (some .long), Cond.methodLink RL 33 yX8_type, Cond.instanceMethod yX8_type, Cond.selects RX8 yX8_type yX8_type] : List Cond))))
set_option maxRecDepth 20000 in
theorem wsL_gwsL_law_r16 : GoodIn lw_tbl wsL_law_r16 := goodIn_p wsL_law_r16 [420, 424, 428, 431, 436, 440, 444] (by decide +kernel) (by decide +kernel)
set_option maxRecDepth 20000 in
theorem wsL_gwsL_law_r17 : GoodIn lw_tbl wsL_law_r17 := goodIn_p wsL_law_r17 [449, 452, 456, 460, 464, 468] (by decide +kernel) (by decide +kernel)
set_option maxRecDepth 20000 in
theorem wsL_gwsL_law_r18 : GoodIn lw_tbl wsL_law_r18 := goodIn_p wsL_law_r18 [472, 476, 483, 480, 492] (by decide +kernel) (by decide +kernel)
set_option maxRecDepth 20000 in
theorem wsL_gwsL_law_r19 : GoodIn lw_tbl wsL_law_r19 := goodIn_p wsL_law_r19 [496, 501, 506, 511, 516] (by decide +kernel) (by decide +kernel)
