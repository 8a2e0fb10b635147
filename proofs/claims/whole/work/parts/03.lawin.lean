set_option maxRecDepth 20000 in
theorem wsL_g1 : GoodIn lw_tbl wsL_law_r1 := goodIn_p wsL_law_r1 [64, 67] (by decide +kernel) (by decide +kernel)
set_option maxRecDepth 20000 in
theorem wsL_g2 : GoodIn lw_tbl wsL_law_r2 := goodIn_p wsL_law_r2 [72] (by decide +kernel) (by decide +kernel)
set_option maxRecDepth 20000 in
theorem wsL_g3 : GoodIn lw_tbl wsL_law_r3 := goodIn_p wsL_law_r3 [78, 82, 99, 105] (by decide +kernel) (by decide +kernel)
set_option maxRecDepth 20000 in
theorem wsL_g4 : GoodIn lw_tbl wsL_law_r4 := goodIn_p wsL_law_r4 [130, 170] (by decide +kernel) (by decide +kernel)
set_option maxRecDepth 20000 in
theorem wsL_g5 : GoodIn lw_tbl wsL_law_r5 := goodIn_p wsL_law_r5 [186, 210, 225] (by decide +kernel) (by decide +kernel)
set_option maxRecDepth 20000 in
theorem wsL_g6 : GoodIn lw_tbl wsL_law_r6 := goodIn_p wsL_law_r6 [755] (by decide +kernel) (by decide +kernel)
set_option maxRecDepth 20000 in
theorem wsL_g7 : GoodIn lw_tbl wsL_law_r7 := goodIn_p wsL_law_r7 [282, 286, 290, 294, 806] (by decide +kernel) (by decide +kernel)
set_option maxRecDepth 20000 in
theorem wsL_g8 : GoodIn lw_tbl wsL_law_r8 := goodIn_p wsL_law_r8 [809, 298, 302, 813, 306, 310] (by decide +kernel) (by decide +kernel)
set_option maxRecDepth 20000 in
theorem wsL_g9 : GoodIn lw_tbl wsL_law_r9 := goodIn_p wsL_law_r9 [314, 318, 322, 325, 329, 817] (by decide +kernel) (by decide +kernel)
set_option maxRecDepth 20000 in
theorem wsL_g10 : GoodIn lw_tbl wsL_law_r10 := goodIn_p wsL_law_r10 [821, 825, 828, 334, 338, 342, 346] (by decide +kernel) (by decide +kernel)
set_option maxRecDepth 20000 in
theorem wsL_g11 : GoodIn lw_tbl wsL_law_r11 := goodIn_p wsL_law_r11 [350, 354, 361, 358] (by decide +kernel) (by decide +kernel)
set_option maxRecDepth 20000 in
theorem wsL_g12 : GoodIn lw_tbl wsL_law_r12 := goodIn_p wsL_law_r12 [370, 374, 379, 384, 389, 393] (by decide +kernel) (by decide +kernel)
set_option maxRecDepth 20000 in
theorem wsL_g13 : GoodIn lw_tbl wsL_law_r13 := goodIn_p wsL_law_r13 [398, 402, 406, 410, 414, 418] (by decide +kernel) (by decide +kernel)
set_option maxRecDepth 20000 in
theorem wsL_g14 : GoodIn lw_tbl wsL_law_r14 := goodIn_p wsL_law_r14 [422, 427, 433, 437, 441] (by decide +kernel) (by decide +kernel)
set_option maxRecDepth 20000 in
theorem wsL_g15 : GoodIn lw_tbl wsL_law_r15 := goodIn_p wsL_law_r15 [445, 448, 452, 456, 460, 465] (by decide +kernel) (by decide +kernel)
set_option maxRecDepth 20000 in
theorem wsL_g16 : GoodIn lw_tbl wsL_law_r16 := goodIn_p wsL_law_r16 [473, 478, 484, 489] (by decide +kernel) (by decide +kernel)
set_option maxRecDepth 20000 in
theorem wsL_g17 : GoodIn lw_tbl wsL_law_r17 := goodIn_p wsL_law_r17 [493, 497, 501, 506, 832] (by decide +kernel) (by decide +kernel)
set_option maxRecDepth 20000 in
theorem wsL_g18 : GoodIn lw_tbl wsL_law_r18 := goodIn_p wsL_law_r18 [836, 511, 515, 519, 523, 527] (by decide +kernel) (by decide +kernel)
set_option maxRecDepth 20000 in
theorem wsL_g19 : GoodIn lw_tbl wsL_law_r19 := goodIn_p wsL_law_r19 [531, 536, 840, 844, 848, 852] (by decide +kernel) (by decide +kernel)
set_option maxRecDepth 20000 in
theorem wsL_g20 : GoodIn lw_tbl wsL_law_r20 := goodIn_p wsL_law_r20 [540, 856, 544, 548, 552, 556] (by decide +kernel) (by decide +kernel)
set_option maxRecDepth 20000 in
theorem wsL_g21 : GoodIn lw_tbl wsL_law_r21 := goodIn_p wsL_law_r21 [860, 864, 561, 868, 565] (by decide +kernel) (by decide +kernel)
set_option maxRecDepth 20000 in
theorem wsL_g22 : GoodIn lw_tbl wsL_law_r22 := goodIn_p wsL_law_r22 [872, 571, 876, 879, 579, 583] (by decide +kernel) (by decide +kernel)
set_option maxRecDepth 20000 in
theorem wsL_g23 : GoodIn lw_tbl wsL_law_r23 := goodIn_p wsL_law_r23 [587, 592, 596, 600, 604] (by decide +kernel) (by decide +kernel)
set_option maxRecDepth 20000 in
theorem wsL_g24 : GoodIn lw_tbl wsL_law_r24 := goodIn_p wsL_law_r24 [611, 615, 620, 624, 628] (by decide +kernel) (by decide +kernel)
set_option maxRecDepth 20000 in
theorem wsL_g25 : GoodIn lw_tbl wsL_law_r25 := goodIn_p wsL_law_r25 [632, 883, 887, 891, 895, 899] (by decide +kernel) (by decide +kernel)
set_option maxRecDepth 20000 in
theorem wsL_g26 : GoodIn lw_tbl wsL_law_r26 := goodIn_p wsL_law_r26 [903, 907, 911, 915, 919, 923] (by decide +kernel) (by decide +kernel)
set_option maxRecDepth 20000 in
theorem wsL_g27 : GoodIn lw_tbl wsL_law_r27 := goodIn_p wsL_law_r27 [927, 931, 935, 938, 636] (by decide +kernel) (by decide +kernel)
set_option maxRecDepth 20000 in
theorem wsL_g28 : GoodIn lw_tbl wsL_law_r28 := goodIn_p wsL_law_r28 [644, 648, 652, 942, 946] (by decide +kernel) (by decide +kernel)
set_option maxRecDepth 20000 in
theorem wsL_g29 : GoodIn lw_tbl wsL_law_r29 := goodIn_p wsL_law_r29 [950, 661, 954, 666, 670] (by decide +kernel) (by decide +kernel)
set_option maxRecDepth 20000 in
theorem wsL_g30 : GoodIn lw_tbl wsL_law_r30 := goodIn_p wsL_law_r30 [674, 678, 682, 958, 962, 687] (by decide +kernel) (by decide +kernel)
set_option maxRecDepth 20000 in
theorem wsL_g31 : GoodIn lw_tbl wsL_law_r31 := goodIn_p wsL_law_r31 [966, 691, 695, 699, 705, 970] (by decide +kernel) (by decide +kernel)
set_option maxRecDepth 20000 in
theorem wsL_g32 : GoodIn lw_tbl wsL_law_r32 := goodIn_p wsL_law_r32 [974, 709, 978, 713, 717, 722] (by decide +kernel) (by decide +kernel)
set_option maxRecDepth 20000 in
theorem wsL_g33 : GoodIn lw_tbl wsL_law_r33 := goodIn_p wsL_law_r33 [982, 986, 990, 726, 730, 994] (by decide +kernel) (by decide +kernel)
set_option maxRecDepth 20000 in
theorem wsL_g34 : GoodIn lw_tbl wsL_law_r34 := goodIn_p wsL_law_r34 [734, 738, 998, 1002, 742, 1006] (by decide +kernel) (by decide +kernel)
set_option maxRecDepth 20000 in
theorem wsL_g35 : GoodIn lw_tbl wsL_law_r35 := goodIn_p wsL_law_r35 [746, 750, 1010] (by decide +kernel) (by decide +kernel)
theorem wsL_gwsX80 : GoodIn lw_tbl wsX80 := goodIn_p wsX80 [] (by decide +kernel) (by decide +kernel)
theorem wsL_gwsX90 : GoodIn lw_tbl wsX90 := goodIn_p wsX90 [] (by decide +kernel) (by decide +kernel)
theorem wsL_gwsX60 : GoodIn lw_tbl wsX60 := goodIn_p wsX60 [] (by decide +kernel) (by decide +kernel)
theorem wsL_gwsX50 : GoodIn lw_tbl wsX50 := goodIn_p wsX50 [] (by decide +kernel) (by decide +kernel)
theorem wsL_gwsX20 : GoodIn lw_tbl wsX20 := goodIn_p wsX20 [] (by decide +kernel) (by decide +kernel)
theorem wsL_gwsX10 : GoodIn lw_tbl wsX10 := goodIn_p wsX10 [] (by decide +kernel) (by decide +kernel)
theorem wsL_gwsX00 : GoodIn lw_tbl wsX00 := goodIn_p wsX00 [] (by decide +kernel) (by decide +kernel)
theorem wsL_gwsX40 : GoodIn lw_tbl wsX40 := goodIn_p wsX40 [] (by decide +kernel) (by decide +kernel)
theorem wsL_gwsX30 : GoodIn lw_tbl wsX30 := goodIn_p wsX30 [] (by decide +kernel) (by decide +kernel)
theorem wsL_gwsX70 : GoodIn lw_tbl wsX70 := goodIn_p wsX70 [] (by decide +kernel) (by decide +kernel)
theorem wsL_good : GoodIn lw_tbl wsL_law := goodIn_app (goodIn_app (goodIn_app (goodIn_app (goodIn_app (goodIn_app (goodIn_app (goodIn_app (goodIn_app (goodIn_app (goodIn_app ((goodIn_app wsL_g1 (goodIn_app wsL_g2 (goodIn_app wsL_g3 (goodIn_app wsL_g4 (goodIn_app wsL_g5 (goodIn_app wsL_g6 (goodIn_app wsL_g7 (goodIn_app wsL_g8 (goodIn_app wsL_g9 (goodIn_app wsL_g10 (goodIn_app wsL_g11 (goodIn_app wsL_g12 (goodIn_app wsL_g13 (goodIn_app wsL_g14 (goodIn_app wsL_g15 (goodIn_app wsL_g16 (goodIn_app wsL_g17 (goodIn_app wsL_g18 (goodIn_app wsL_g19 (goodIn_app wsL_g20 (goodIn_app wsL_g21 (goodIn_app wsL_g22 (goodIn_app wsL_g23 (goodIn_app wsL_g24 (goodIn_app wsL_g25 (goodIn_app wsL_g26 (goodIn_app wsL_g27 (goodIn_app wsL_g28 (goodIn_app wsL_g29 (goodIn_app wsL_g30 (goodIn_app wsL_g31 (goodIn_app wsL_g32 (goodIn_app wsL_g33 (goodIn_app wsL_g34 (wsL_g35)))))))))))))))))))))))))))))))))))) wsL_gwsX80) wsL_gwsX90) wsL_gwsX60) wsL_gwsX50) wsL_gwsX20) wsL_gwsX10) wsL_gwsX00) wsL_gwsX40) wsL_gwsX30) wsL_gwsX70) (fun _ h => absurd h List.not_mem_nil)
theorem wsL_law_in : ∀ w ∈ wsL_law, w ∈ lw_tbl := fun w h => (wsL_good w h).1
theorem inlX0 : ∀ w ∈ wsX00, w ∈ wsL_law := fun _ h => List.mem_append_left _ (List.mem_append_left _ (List.mem_append_left _ (List.mem_append_left _ (List.mem_append_right _ h))))
theorem inX0 : ∀ w ∈ wsX00, w ∈ lw_tbl := fun w h => wsL_law_in w (inlX0 w h)
theorem inlX1 : ∀ w ∈ wsX10, w ∈ wsL_law := fun _ h => List.mem_append_left _ (List.mem_append_left _ (List.mem_append_left _ (List.mem_append_left _ (List.mem_append_left _ (List.mem_append_right _ h)))))
theorem inX1 : ∀ w ∈ wsX10, w ∈ lw_tbl := fun w h => wsL_law_in w (inlX1 w h)
theorem inlX2 : ∀ w ∈ wsX20, w ∈ wsL_law := fun _ h => List.mem_append_left _ (List.mem_append_left _ (List.mem_append_left _ (List.mem_append_left _ (List.mem_append_left _ (List.mem_append_left _ (List.mem_append_right _ h))))))
theorem inX2 : ∀ w ∈ wsX20, w ∈ lw_tbl := fun w h => wsL_law_in w (inlX2 w h)
theorem inlX3 : ∀ w ∈ wsX30, w ∈ wsL_law := fun _ h => List.mem_append_left _ (List.mem_append_left _ (List.mem_append_right _ h))
theorem inX3 : ∀ w ∈ wsX30, w ∈ lw_tbl := fun w h => wsL_law_in w (inlX3 w h)
theorem inlX4 : ∀ w ∈ wsX40, w ∈ wsL_law := fun _ h => List.mem_append_left _ (List.mem_append_left _ (List.mem_append_left _ (List.mem_append_right _ h)))
theorem inX4 : ∀ w ∈ wsX40, w ∈ lw_tbl := fun w h => wsL_law_in w (inlX4 w h)
theorem inlX5 : ∀ w ∈ wsX50, w ∈ wsL_law := fun _ h => List.mem_append_left _ (List.mem_append_left _ (List.mem_append_left _ (List.mem_append_left _ (List.mem_append_left _ (List.mem_append_left _ (List.mem_append_left _ (List.mem_append_right _ h)))))))
theorem inX5 : ∀ w ∈ wsX50, w ∈ lw_tbl := fun w h => wsL_law_in w (inlX5 w h)
theorem inlX6 : ∀ w ∈ wsX60, w ∈ wsL_law := fun _ h => List.mem_append_left _ (List.mem_append_left _ (List.mem_append_left _ (List.mem_append_left _ (List.mem_append_left _ (List.mem_append_left _ (List.mem_append_left _ (List.mem_append_left _ (List.mem_append_right _ h))))))))
theorem inX6 : ∀ w ∈ wsX60, w ∈ lw_tbl := fun w h => wsL_law_in w (inlX6 w h)
theorem inlX7 : ∀ w ∈ wsX70, w ∈ wsL_law := fun _ h => List.mem_append_left _ (List.mem_append_right _ h)
theorem inX7 : ∀ w ∈ wsX70, w ∈ lw_tbl := fun w h => wsL_law_in w (inlX7 w h)
theorem inlX8 : ∀ w ∈ wsX80, w ∈ wsL_law := fun _ h => List.mem_append_left _ (List.mem_append_left _ (List.mem_append_left _ (List.mem_append_left _ (List.mem_append_left _ (List.mem_append_left _ (List.mem_append_left _ (List.mem_append_left _ (List.mem_append_left _ (List.mem_append_left _ (List.mem_append_right _ h))))))))))
theorem inX8 : ∀ w ∈ wsX80, w ∈ lw_tbl := fun w h => wsL_law_in w (inlX8 w h)
theorem inlX9 : ∀ w ∈ wsX90, w ∈ wsL_law := fun _ h => List.mem_append_left _ (List.mem_append_left _ (List.mem_append_left _ (List.mem_append_left _ (List.mem_append_left _ (List.mem_append_left _ (List.mem_append_left _ (List.mem_append_left _ (List.mem_append_left _ (List.mem_append_right _ h)))))))))
theorem inX9 : ∀ w ∈ wsX90, w ∈ lw_tbl := fun w h => wsL_law_in w (inlX9 w h)
theorem inJx8e188 : ∀ w ∈ wsJx8e1880, w ∈ lw_tbl := by decide +kernel
theorem inJ6 : ∀ w ∈ wsJ60, w ∈ lw_tbl := by decide +kernel
theorem inJ9 : ∀ w ∈ wsJ90, w ∈ lw_tbl := by decide +kernel
theorem inJ10 : ∀ w ∈ wsJ100, w ∈ lw_tbl := by decide +kernel
