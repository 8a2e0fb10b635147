set_option maxRecDepth 20000 in
theorem wsL_gwsL_law_r13 : GoodIn lw_tbl wsL_law_r13 := goodIn_p wsL_law_r13 [375, 355, 359, 363, 371] (by decide +kernel) (by decide +kernel)
set_option maxRecDepth 20000 in
theorem wsL_gwsL_law_r14 : GoodIn lw_tbl wsL_law_r14 := goodIn_p wsL_law_r14 [379, 386, 696, 700, 577] (by decide +kernel) (by decide +kernel)
set_option maxRecDepth 20000 in
theorem wsL_gwsL_law_r15_0 : GoodIn lw_tbl ([Cond.static yL_cell, Cond.code yL_cell cL_cell 2 (some .int), Cond.constant RL 7 (40503), Cond.methodLink RL 114 yL_acts, Cond.static yL_acts] : List Cond) := goodIn_p _ [390] (by decide +kernel) (by decide +kernel)
set_option maxRecDepth 20000 in
theorem wsL_gwsL_law_r15_1 : GoodIn lw_tbl ([Cond.code yL_acts cL_acts 19 (some .boolean)] : List Cond) := goodIn_sub (fun x hx => by rw [List.mem_singleton.mp hx]; exact List.mem_of_getElem? (i := 398) rfl) (by decide +kernel)
set_option maxRecDepth 20000 in
theorem wsL_gwsL_law_r15_2 : GoodIn lw_tbl ([Cond.constant RL 43 (10000000), Cond.methodLink RL 39 yL_low, Cond.static yL_low, Cond.code yL_low cL_low 2 (some .int), Cond.methodLink RL 44 yX8_clearText, Cond.instanceMethod yX8_clearText, Cond.selects RX8 yX8_clearText yX8_clearText, Cond.code yX8_clearText cX8_clearText 2 (some .int), Cond.methodLink RX8 66 yX6_empty, Cond.instanceMethod yX6_empty, Cond.selects RX6 yX6_empty yX6_empty, Cond.code yX6_empty cX6_empty 1 none, Cond.methodLink RL 48 yL_letters, Cond.static yL_letters, Cond.code yL_letters cL_letters 6 (some .long), Cond.methodLink RL 33 yX8_type, Cond.instanceMethod yX8_type, Cond.selects RX8 yX8_type yX8_type] : List Cond) := goodIn_p _ [394, 403, 407, 416] (by decide +kernel) (by decide +kernel)
