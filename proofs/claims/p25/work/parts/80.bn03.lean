theorem dX4_sumOfGaps_6 : decode cX4_sumOfGaps 6 = .ok (.getfield 9, 3) := by decide +kernel
theorem dX4_sumOfGaps_9 : decode cX4_sumOfGaps 9 = .ok (.getfield 47, 3) := by decide +kernel
theorem dX4_sumOfGaps_12 : decode cX4_sumOfGaps 12 = .ok (.invokevirtual 53, 3) := by decide +kernel
theorem dX4_sumOfGaps_15 : decode cX4_sumOfGaps 15 = .ok (.if_icmp .ge 42, 3) := by decide +kernel
theorem dX4_sumOfGaps_18 : decode cX4_sumOfGaps 18 = .ok (.aload_n 0, 1) := by decide +kernel
theorem dX4_sumOfGaps_19 : decode cX4_sumOfGaps 19 = .ok (.iload_n 3, 1) := by decide +kernel
theorem dX4_sumOfGaps_20 : decode cX4_sumOfGaps 20 = .ok (.invokevirtual 94, 3) := by decide +kernel
theorem dX4_sumOfGaps_23 : decode cX4_sumOfGaps 23 = .ok (.ifCond .eq 28, 3) := by decide +kernel
theorem dX4_sumOfGaps_26 : decode cX4_sumOfGaps 26 = .ok (.iload_n 2, 1) := by decide +kernel
theorem dX4_sumOfGaps_27 : decode cX4_sumOfGaps 27 = .ok (.aload_n 1, 1) := by decide +kernel
theorem dX4_sumOfGaps_28 : decode cX4_sumOfGaps 28 = .ok (.aload_n 0, 1) := by decide +kernel
theorem dX4_sumOfGaps_29 : decode cX4_sumOfGaps 29 = .ok (.iload_n 3, 1) := by decide +kernel
theorem dX4_sumOfGaps_30 : decode cX4_sumOfGaps 30 = .ok (.invokevirtual 98, 3) := by decide +kernel
theorem dX4_sumOfGaps_33 : decode cX4_sumOfGaps 33 = .ok (.invokevirtual 101, 3) := by decide +kernel
theorem dX4_sumOfGaps_36 : decode cX4_sumOfGaps 36 = .ok (.aload_n 0, 1) := by decide +kernel
theorem dX4_sumOfGaps_37 : decode cX4_sumOfGaps 37 = .ok (.getfield 15, 3) := by decide +kernel
theorem dX4_sumOfGaps_40 : decode cX4_sumOfGaps 40 = .ok (.aload_n 0, 1) := by decide +kernel
theorem dX4_sumOfGaps_41 : decode cX4_sumOfGaps 41 = .ok (.iload_n 3, 1) := by decide +kernel
theorem dX4_sumOfGaps_42 : decode cX4_sumOfGaps 42 = .ok (.invokevirtual 98, 3) := by decide +kernel
theorem dX4_sumOfGaps_45 : decode cX4_sumOfGaps 45 = .ok (.invokevirtual 111, 3) := by decide +kernel
theorem dX4_sumOfGaps_48 : decode cX4_sumOfGaps 48 = .ok (.isub, 1) := by decide +kernel
theorem dX4_sumOfGaps_49 : decode cX4_sumOfGaps 49 = .ok (.iadd, 1) := by decide +kernel
theorem dX4_sumOfGaps_50 : decode cX4_sumOfGaps 50 = .ok (.istore_n 2, 1) := by decide +kernel
theorem dX4_sumOfGaps_51 : decode cX4_sumOfGaps 51 = .ok (.iinc 3 1, 3) := by decide +kernel
theorem dX4_sumOfGaps_54 : decode cX4_sumOfGaps 54 = .ok (.goto (-50), 3) := by decide +kernel
theorem dX4_sumOfGaps_57 : decode cX4_sumOfGaps 57 = .ok (.iload_n 2, 1) := by decide +kernel
theorem dX4_sumOfGaps_58 : decode cX4_sumOfGaps 58 = .ok (.ireturn, 1) := by decide +kernel
set_option maxRecDepth 20000 in
theorem ggX4_differentBarWidths_X7_size : GoodIn wsX4_differentBarWidths wsX7_size := goodIn_r _ [6, 7, 43, 44, 45, 46, 47] (by decide +kernel) (by decide +kernel)
set_option maxRecDepth 20000 in
theorem gX4_differentBarWidths_X7_size : GoodIn wsX4_differentBarWidths (wsV RX4 53 RX7 yX7_size wsX7_size) := goodIn_app (goodIn_of _ (by decide +kernel)) ggX4_differentBarWidths_X7_size
set_option maxRecDepth 20000 in
theorem ggX4_differentBarWidths_X4_isHidden : GoodIn wsX4_differentBarWidths wsX4_isHidden := goodIn_r _ [12, 13, 14, 15, 16, 17, 18, 19, 29, 30, 31, 32, 33, 34, 35, 36, 37, 48] (by decide +kernel) (by decide +kernel)
set_option maxRecDepth 20000 in
theorem gX4_differentBarWidths_X4_isHidden : GoodIn wsX4_differentBarWidths (wsV RX4 94 RX4 yX4_isHidden wsX4_isHidden) := goodIn_app (goodIn_of _ (by decide +kernel)) ggX4_differentBarWidths_X4_isHidden
set_option maxRecDepth 20000 in
theorem ggX4_differentBarWidths_X4_hasBarAhead : GoodIn wsX4_differentBarWidths wsX4_hasBarAhead := goodIn_r _ [23, 8, 9, 10, 11, 12, 13, 14, 15, 16, 17, 18, 19, 24, 25, 26, 27, 28, 29, 30, 31, 32, 33, 34, 35, 36, 37, 48] (by decide +kernel) (by decide +kernel)
set_option maxRecDepth 20000 in
theorem gX4_differentBarWidths_X4_hasBarAhead : GoodIn wsX4_differentBarWidths (wsV RX4 112 RX4 yX4_hasBarAhead wsX4_hasBarAhead) := goodIn_app (goodIn_of _ (by decide +kernel)) ggX4_differentBarWidths_X4_hasBarAhead
theorem dX4_differentBarWidths_0 : decode cX4_differentBarWidths 0 = .ok (.iconst 0, 1) := by decide +kernel
theorem dX4_differentBarWidths_1 : decode cX4_differentBarWidths 1 = .ok (.istore_n 1, 1) := by decide +kernel
theorem dX4_differentBarWidths_2 : decode cX4_differentBarWidths 2 = .ok (.iconst 0, 1) := by decide +kernel
theorem dX4_differentBarWidths_3 : decode cX4_differentBarWidths 3 = .ok (.istore_n 2, 1) := by decide +kernel
theorem dX4_differentBarWidths_4 : decode cX4_differentBarWidths 4 = .ok (.iload_n 2, 1) := by decide +kernel
theorem dX4_differentBarWidths_5 : decode cX4_differentBarWidths 5 = .ok (.aload_n 0, 1) := by decide +kernel
theorem dX4_differentBarWidths_6 : decode cX4_differentBarWidths 6 = .ok (.getfield 9, 3) := by decide +kernel
theorem dX4_differentBarWidths_9 : decode cX4_differentBarWidths 9 = .ok (.getfield 47, 3) := by decide +kernel
theorem dX4_differentBarWidths_12 : decode cX4_differentBarWidths 12 = .ok (.invokevirtual 53, 3) := by decide +kernel
theorem dX4_differentBarWidths_15 : decode cX4_differentBarWidths 15 = .ok (.if_icmp .ge 28, 3) := by decide +kernel
theorem dX4_differentBarWidths_18 : decode cX4_differentBarWidths 18 = .ok (.aload_n 0, 1) := by decide +kernel
theorem dX4_differentBarWidths_19 : decode cX4_differentBarWidths 19 = .ok (.iload_n 2, 1) := by decide +kernel
theorem dX4_differentBarWidths_20 : decode cX4_differentBarWidths 20 = .ok (.invokevirtual 94, 3) := by decide +kernel
theorem dX4_differentBarWidths_23 : decode cX4_differentBarWidths 23 = .ok (.ifCond .eq 14, 3) := by decide +kernel
theorem dX4_differentBarWidths_26 : decode cX4_differentBarWidths 26 = .ok (.aload_n 0, 1) := by decide +kernel
theorem dX4_differentBarWidths_27 : decode cX4_differentBarWidths 27 = .ok (.iload_n 2, 1) := by decide +kernel
theorem dX4_differentBarWidths_28 : decode cX4_differentBarWidths 28 = .ok (.invokevirtual 112, 3) := by decide +kernel
theorem dX4_differentBarWidths_31 : decode cX4_differentBarWidths 31 = .ok (.ifCond .ne 6, 3) := by decide +kernel
theorem dX4_differentBarWidths_34 : decode cX4_differentBarWidths 34 = .ok (.iinc 1 1, 3) := by decide +kernel
theorem dX4_differentBarWidths_37 : decode cX4_differentBarWidths 37 = .ok (.iinc 2 1, 3) := by decide +kernel
theorem dX4_differentBarWidths_40 : decode cX4_differentBarWidths 40 = .ok (.goto (-36), 3) := by decide +kernel
theorem dX4_differentBarWidths_43 : decode cX4_differentBarWidths 43 = .ok (.iload_n 1, 1) := by decide +kernel
theorem dX4_differentBarWidths_44 : decode cX4_differentBarWidths 44 = .ok (.ireturn, 1) := by decide +kernel
set_option maxRecDepth 20000 in
theorem ggX4_hasBarAhead_X4_isHidden : GoodIn wsX4_hasBarAhead wsX4_isHidden := goodIn_r _ [5, 6, 7, 8, 9, 10, 11, 12, 18, 19, 20, 21, 22, 23, 24, 25, 26, 27] (by decide +kernel) (by decide +kernel)
set_option maxRecDepth 20000 in
theorem gX4_hasBarAhead_X4_isHidden : GoodIn wsX4_hasBarAhead (wsV RX4 94 RX4 yX4_isHidden wsX4_isHidden) := goodIn_app (goodIn_of _ (by decide +kernel)) ggX4_hasBarAhead_X4_isHidden
set_option maxRecDepth 20000 in
theorem ggX4_hasBarAhead_X4_shownWidthOf : GoodIn wsX4_hasBarAhead wsX4_shownWidthOf := goodIn_r _ [16, 17, 7, 8, 9, 10, 11, 12, 18, 19, 20, 21, 22, 23, 24, 25, 26, 27] (by decide +kernel) (by decide +kernel)
set_option maxRecDepth 20000 in
theorem gX4_hasBarAhead_X4_shownWidthOf : GoodIn wsX4_hasBarAhead (wsV RX4 108 RX4 yX4_shownWidthOf wsX4_shownWidthOf) := goodIn_app (goodIn_of _ (by decide +kernel)) ggX4_hasBarAhead_X4_shownWidthOf
theorem dX4_hasBarAhead_0 : decode cX4_hasBarAhead 0 = .ok (.iconst 0, 1) := by decide +kernel
theorem dX4_hasBarAhead_1 : decode cX4_hasBarAhead 1 = .ok (.istore_n 2, 1) := by decide +kernel
theorem dX4_hasBarAhead_2 : decode cX4_hasBarAhead 2 = .ok (.iload_n 2, 1) := by decide +kernel
theorem dX4_hasBarAhead_3 : decode cX4_hasBarAhead 3 = .ok (.iload_n 1, 1) := by decide +kernel
theorem dX4_hasBarAhead_4 : decode cX4_hasBarAhead 4 = .ok (.if_icmp .ge 32, 3) := by decide +kernel
theorem dX4_hasBarAhead_7 : decode cX4_hasBarAhead 7 = .ok (.aload_n 0, 1) := by decide +kernel
theorem dX4_hasBarAhead_8 : decode cX4_hasBarAhead 8 = .ok (.iload_n 2, 1) := by decide +kernel
theorem dX4_hasBarAhead_9 : decode cX4_hasBarAhead 9 = .ok (.invokevirtual 94, 3) := by decide +kernel
theorem dX4_hasBarAhead_12 : decode cX4_hasBarAhead 12 = .ok (.ifCond .eq 18, 3) := by decide +kernel
theorem dX4_hasBarAhead_15 : decode cX4_hasBarAhead 15 = .ok (.aload_n 0, 1) := by decide +kernel
theorem dX4_hasBarAhead_16 : decode cX4_hasBarAhead 16 = .ok (.iload_n 2, 1) := by decide +kernel
theorem dX4_hasBarAhead_17 : decode cX4_hasBarAhead 17 = .ok (.invokevirtual 108, 3) := by decide +kernel
theorem dX4_hasBarAhead_20 : decode cX4_hasBarAhead 20 = .ok (.aload_n 0, 1) := by decide +kernel
theorem dX4_hasBarAhead_21 : decode cX4_hasBarAhead 21 = .ok (.iload_n 1, 1) := by decide +kernel
theorem dX4_hasBarAhead_22 : decode cX4_hasBarAhead 22 = .ok (.invokevirtual 108, 3) := by decide +kernel
theorem dX4_hasBarAhead_25 : decode cX4_hasBarAhead 25 = .ok (.if_icmp .ne 5, 3) := by decide +kernel
theorem dX4_hasBarAhead_28 : decode cX4_hasBarAhead 28 = .ok (.iconst 1, 1) := by decide +kernel
theorem dX4_hasBarAhead_29 : decode cX4_hasBarAhead 29 = .ok (.ireturn, 1) := by decide +kernel
theorem dX4_hasBarAhead_30 : decode cX4_hasBarAhead 30 = .ok (.iinc 2 1, 3) := by decide +kernel
theorem dX4_hasBarAhead_33 : decode cX4_hasBarAhead 33 = .ok (.goto (-31), 3) := by decide +kernel
theorem dX4_hasBarAhead_36 : decode cX4_hasBarAhead 36 = .ok (.iconst 0, 1) := by decide +kernel
theorem dX4_hasBarAhead_37 : decode cX4_hasBarAhead 37 = .ok (.ireturn, 1) := by decide +kernel
set_option maxRecDepth 20000 in
theorem ggX4_betrayedBars_X7_size : GoodIn wsX4_betrayedBars wsX7_size := goodIn_r _ [6, 7, 72, 73, 74, 75, 76] (by decide +kernel) (by decide +kernel)
set_option maxRecDepth 20000 in
theorem gX4_betrayedBars_X7_size : GoodIn wsX4_betrayedBars (wsV RX4 53 RX7 yX7_size wsX7_size) := goodIn_app (goodIn_of _ (by decide +kernel)) ggX4_betrayedBars_X7_size
set_option maxRecDepth 20000 in
theorem ggX4_betrayedBars_X4_isHidden : GoodIn wsX4_betrayedBars wsX4_isHidden := goodIn_r _ [12, 13, 14, 15, 16, 17, 18, 19, 58, 59, 60, 61, 62, 63, 64, 65, 66, 77] (by decide +kernel) (by decide +kernel)
set_option maxRecDepth 20000 in
theorem gX4_betrayedBars_X4_isHidden : GoodIn wsX4_betrayedBars (wsV RX4 94 RX4 yX4_isHidden wsX4_isHidden) := goodIn_app (goodIn_of _ (by decide +kernel)) ggX4_betrayedBars_X4_isHidden
set_option maxRecDepth 20000 in
theorem ggX4_betrayedBars_X4_namesUnder : GoodIn wsX4_betrayedBars wsX4_namesUnder := goodIn_r _ [23, 24, 25, 26, 11, 27, 13, 14, 15, 16, 17, 18, 19, 28, 29, 30, 31, 32, 33, 34, 35, 36, 37, 38, 39, 40, 41, 42, 43, 44, 45, 46, 47, 48, 49, 50, 51, 52, 53, 54, 55, 56, 57, 58, 59, 60, 61, 62, 63, 64, 65, 66, 77, 78, 79, 80, 81, 82, 83, 84] (by decide +kernel) (by decide +kernel)
set_option maxRecDepth 20000 in
theorem gX4_betrayedBars_X4_namesUnder : GoodIn wsX4_betrayedBars (wsV RX4 115 RX4 yX4_namesUnder wsX4_namesUnder) := goodIn_app (goodIn_of _ (by decide +kernel)) ggX4_betrayedBars_X4_namesUnder
theorem dX4_betrayedBars_0 : decode cX4_betrayedBars 0 = .ok (.iconst 0, 1) := by decide +kernel
theorem dX4_betrayedBars_1 : decode cX4_betrayedBars 1 = .ok (.istore_n 2, 1) := by decide +kernel
theorem dX4_betrayedBars_2 : decode cX4_betrayedBars 2 = .ok (.iconst 0, 1) := by decide +kernel
theorem dX4_betrayedBars_3 : decode cX4_betrayedBars 3 = .ok (.istore_n 3, 1) := by decide +kernel
theorem dX4_betrayedBars_4 : decode cX4_betrayedBars 4 = .ok (.iload_n 3, 1) := by decide +kernel
theorem dX4_betrayedBars_5 : decode cX4_betrayedBars 5 = .ok (.aload_n 0, 1) := by decide +kernel
theorem dX4_betrayedBars_6 : decode cX4_betrayedBars 6 = .ok (.getfield 9, 3) := by decide +kernel
theorem dX4_betrayedBars_9 : decode cX4_betrayedBars 9 = .ok (.getfield 47, 3) := by decide +kernel
theorem dX4_betrayedBars_12 : decode cX4_betrayedBars 12 = .ok (.invokevirtual 53, 3) := by decide +kernel
theorem dX4_betrayedBars_15 : decode cX4_betrayedBars 15 = .ok (.if_icmp .ge 30, 3) := by decide +kernel
theorem dX4_betrayedBars_18 : decode cX4_betrayedBars 18 = .ok (.aload_n 0, 1) := by decide +kernel
theorem dX4_betrayedBars_19 : decode cX4_betrayedBars 19 = .ok (.iload_n 3, 1) := by decide +kernel
theorem dX4_betrayedBars_20 : decode cX4_betrayedBars 20 = .ok (.invokevirtual 94, 3) := by decide +kernel
theorem dX4_betrayedBars_23 : decode cX4_betrayedBars 23 = .ok (.ifCond .eq 16, 3) := by decide +kernel
theorem dX4_betrayedBars_26 : decode cX4_betrayedBars 26 = .ok (.aload_n 0, 1) := by decide +kernel
theorem dX4_betrayedBars_27 : decode cX4_betrayedBars 27 = .ok (.aload_n 1, 1) := by decide +kernel
theorem dX4_betrayedBars_28 : decode cX4_betrayedBars 28 = .ok (.iload_n 3, 1) := by decide +kernel
theorem dX4_betrayedBars_29 : decode cX4_betrayedBars 29 = .ok (.invokevirtual 115, 3) := by decide +kernel
theorem dX4_betrayedBars_32 : decode cX4_betrayedBars 32 = .ok (.iconst 1, 1) := by decide +kernel
theorem dX4_betrayedBars_33 : decode cX4_betrayedBars 33 = .ok (.if_icmp .ne 6, 3) := by decide +kernel
theorem dX4_betrayedBars_36 : decode cX4_betrayedBars 36 = .ok (.iinc 2 1, 3) := by decide +kernel
theorem dX4_betrayedBars_39 : decode cX4_betrayedBars 39 = .ok (.iinc 3 1, 3) := by decide +kernel
theorem dX4_betrayedBars_42 : decode cX4_betrayedBars 42 = .ok (.goto (-38), 3) := by decide +kernel
theorem dX4_betrayedBars_45 : decode cX4_betrayedBars 45 = .ok (.iload_n 2, 1) := by decide +kernel
theorem dX4_betrayedBars_46 : decode cX4_betrayedBars 46 = .ok (.ireturn, 1) := by decide +kernel
set_option maxRecDepth 20000 in
theorem ggX4_namesUnder_X4_formOf : GoodIn wsX4_namesUnder wsX4_formOf := goodIn_r _ [5, 6, 7, 8, 9, 10, 11, 12, 43, 44, 45, 46, 47, 48, 49, 50, 51, 52] (by decide +kernel) (by decide +kernel)
set_option maxRecDepth 20000 in
theorem gX4_namesUnder_X4_formOf : GoodIn wsX4_namesUnder (wsV RX4 98 RX4 yX4_formOf wsX4_formOf) := goodIn_app (goodIn_of _ (by decide +kernel)) ggX4_namesUnder_X4_formOf
set_option maxRecDepth 20000 in
theorem ggX4_namesUnder_X0_widthOf : GoodIn wsX4_namesUnder wsX0_widthOf := goodIn_r _ [17, 18, 19, 8, 9, 10, 11, 12, 53, 54, 52] (by decide +kernel) (by decide +kernel)
set_option maxRecDepth 20000 in
theorem gX4_namesUnder_X0_widthOf : GoodIn wsX4_namesUnder (wsV RX4 101 RX0 yX0_widthOf wsX0_widthOf) := goodIn_app (goodIn_of _ (by decide +kernel)) ggX4_namesUnder_X0_widthOf
set_option maxRecDepth 20000 in
theorem ggX4_namesUnder_X0_namesUnder : GoodIn wsX4_namesUnder wsX0_namesUnder := goodIn_r _ [23, 24, 18, 25, 26, 27, 28, 29, 30, 19, 8, 9, 10, 11, 12, 31, 32, 33, 34, 35, 53, 54, 55, 56, 57, 58, 59, 52] (by decide +kernel) (by decide +kernel)
set_option maxRecDepth 20000 in
theorem gX4_namesUnder_X0_namesUnder : GoodIn wsX4_namesUnder (wsV RX4 118 RX0 yX0_namesUnder wsX0_namesUnder) := goodIn_app (goodIn_of _ (by decide +kernel)) ggX4_namesUnder_X0_namesUnder
set_option maxRecDepth 20000 in
theorem ggX4_namesUnder_J6_bitCount_0f7a4 : GoodIn wsX4_namesUnder wsJ6_bitCount_0f7a4 := goodIn_r _ [39, 40, 41, 42] (by decide +kernel) (by decide +kernel)
set_option maxRecDepth 20000 in
theorem gX4_namesUnder_J6_bitCount_0f7a4 : GoodIn wsX4_namesUnder (va_wsS RX4 120 yJ6_bitCount_0f7a4 wsJ6_bitCount_0f7a4) := goodIn_app (goodIn_of _ (by decide +kernel)) ggX4_namesUnder_J6_bitCount_0f7a4
theorem dX4_namesUnder_0 : decode cX4_namesUnder 0 = .ok (.aload_n 1, 1) := by decide +kernel
theorem dX4_namesUnder_1 : decode cX4_namesUnder 1 = .ok (.aload_n 1, 1) := by decide +kernel
theorem dX4_namesUnder_2 : decode cX4_namesUnder 2 = .ok (.aload_n 0, 1) := by decide +kernel
theorem dX4_namesUnder_3 : decode cX4_namesUnder 3 = .ok (.iload_n 2, 1) := by decide +kernel
theorem dX4_namesUnder_4 : decode cX4_namesUnder 4 = .ok (.invokevirtual 98, 3) := by decide +kernel
theorem dX4_namesUnder_7 : decode cX4_namesUnder 7 = .ok (.invokevirtual 101, 3) := by decide +kernel
theorem dX4_namesUnder_10 : decode cX4_namesUnder 10 = .ok (.invokevirtual 118, 3) := by decide +kernel
theorem dX4_namesUnder_13 : decode cX4_namesUnder 13 = .ok (.invokestatic 120, 3) := by decide +kernel
theorem dX4_namesUnder_16 : decode cX4_namesUnder 16 = .ok (.ireturn, 1) := by decide +kernel
set_option maxRecDepth 20000 in
theorem ggX5_init_X7_init : GoodIn wsX5_init wsX7_init := goodIn_r _ [17, 18, 2, 3, 19, 20, 21, 11, 12, 22, 23, 24, 25, 26, 27, 28, 29, 30, 31, 32, 33, 34, 44, 45, 46, 47, 48, 54] (by decide +kernel) (by decide +kernel)
set_option maxRecDepth 20000 in
theorem gX5_init_X7_init : GoodIn wsX5_init (wsX7_init) := ggX5_init_X7_init
set_option maxRecDepth 20000 in
theorem ggX5_init_X3_init_ : GoodIn wsX5_init wsX3_init_ := goodIn_r _ [37, 28, 2, 3, 38, 39, 40, 41, 42, 43, 34, 54] (by decide +kernel) (by decide +kernel)
set_option maxRecDepth 20000 in
theorem gX5_init_X3_init_ : GoodIn wsX5_init (wsX3_init_) := ggX5_init_X3_init_
theorem dX5_init_0 : decode cX5_init 0 = .ok (.aload_n 0, 1) := by decide +kernel
theorem dX5_init_1 : decode cX5_init 1 = .ok (.invokespecial 3, 3) := by decide +kernel
theorem dX5_init_4 : decode cX5_init 4 = .ok (.aload_n 0, 1) := by decide +kernel
theorem dX5_init_5 : decode cX5_init 5 = .ok (.new 9, 3) := by decide +kernel
theorem dX5_init_8 : decode cX5_init 8 = .ok (.dup, 1) := by decide +kernel
theorem dX5_init_9 : decode cX5_init 9 = .ok (.bipush 40, 2) := by decide +kernel
theorem dX5_init_11 : decode cX5_init 11 = .ok (.bipush 12, 2) := by decide +kernel
theorem dX5_init_13 : decode cX5_init 13 = .ok (.invokespecial 11, 3) := by decide +kernel
theorem dX5_init_16 : decode cX5_init 16 = .ok (.putfield 14, 3) := by decide +kernel
theorem dX5_init_19 : decode cX5_init 19 = .ok (.aload_n 0, 1) := by decide +kernel
theorem dX5_init_20 : decode cX5_init 20 = .ok (.new 9, 3) := by decide +kernel
theorem dX5_init_23 : decode cX5_init 23 = .ok (.dup, 1) := by decide +kernel
theorem dX5_init_24 : decode cX5_init 24 = .ok (.bipush 8, 2) := by decide +kernel
theorem dX5_init_26 : decode cX5_init 26 = .ok (.bipush 8, 2) := by decide +kernel
theorem dX5_init_28 : decode cX5_init 28 = .ok (.invokespecial 11, 3) := by decide +kernel
theorem dX5_init_31 : decode cX5_init 31 = .ok (.putfield 20, 3) := by decide +kernel
theorem dX5_init_34 : decode cX5_init 34 = .ok (.aload_n 0, 1) := by decide +kernel
theorem dX5_init_35 : decode cX5_init 35 = .ok (.new 9, 3) := by decide +kernel
theorem dX5_init_38 : decode cX5_init 38 = .ok (.dup, 1) := by decide +kernel
theorem dX5_init_39 : decode cX5_init 39 = .ok (.iconst 4, 1) := by decide +kernel
theorem dX5_init_40 : decode cX5_init 40 = .ok (.iconst 3, 1) := by decide +kernel
theorem dX5_init_41 : decode cX5_init 41 = .ok (.invokespecial 11, 3) := by decide +kernel
theorem dX5_init_44 : decode cX5_init 44 = .ok (.putfield 23, 3) := by decide +kernel
theorem dX5_init_47 : decode cX5_init 47 = .ok (.aload_n 0, 1) := by decide +kernel
theorem dX5_init_48 : decode cX5_init 48 = .ok (.new 26, 3) := by decide +kernel
theorem dX5_init_51 : decode cX5_init 51 = .ok (.dup, 1) := by decide +kernel
theorem dX5_init_52 : decode cX5_init 52 = .ok (.getstatic 28, 3) := by decide +kernel
theorem dX5_init_55 : decode cX5_init 55 = .ok (.invokespecial 32, 3) := by decide +kernel
theorem dX5_init_58 : decode cX5_init 58 = .ok (.putfield 35, 3) := by decide +kernel
theorem dX5_init_61 : decode cX5_init 61 = .ok (.aload_n 0, 1) := by decide +kernel
theorem dX5_init_62 : decode cX5_init 62 = .ok (.new 26, 3) := by decide +kernel
theorem dX5_init_65 : decode cX5_init 65 = .ok (.dup, 1) := by decide +kernel
theorem dX5_init_66 : decode cX5_init 66 = .ok (.getstatic 39, 3) := by decide +kernel
theorem dX5_init_69 : decode cX5_init 69 = .ok (.invokespecial 32, 3) := by decide +kernel
theorem dX5_init_72 : decode cX5_init 72 = .ok (.putfield 42, 3) := by decide +kernel
theorem dX5_init_75 : decode cX5_init 75 = .ok (.return_, 1) := by decide +kernel
set_option maxRecDepth 20000 in
theorem ggX5_widthOfForm_X7_widthOf : GoodIn wsX5_widthOfForm wsX7_widthOf := goodIn_r _ [8, 9, 10, 11, 12, 13, 14, 15, 16, 17, 23, 24, 25, 26, 27, 28] (by decide +kernel) (by decide +kernel)
set_option maxRecDepth 20000 in
theorem gX5_widthOfForm_X7_widthOf : GoodIn wsX5_widthOfForm (wsV RX5 49 RX7 yX7_widthOf wsX7_widthOf) := goodIn_app (goodIn_of _ (by decide +kernel)) ggX5_widthOfForm_X7_widthOf
theorem dX5_widthOfForm_0 : decode cX5_widthOfForm 0 = .ok (.aload_n 0, 1) := by decide +kernel
theorem dX5_widthOfForm_1 : decode cX5_widthOfForm 1 = .ok (.getfield 20, 3) := by decide +kernel
theorem dX5_widthOfForm_4 : decode cX5_widthOfForm 4 = .ok (.iload_n 1, 1) := by decide +kernel
theorem dX5_widthOfForm_5 : decode cX5_widthOfForm 5 = .ok (.aload_n 0, 1) := by decide +kernel
theorem dX5_widthOfForm_6 : decode cX5_widthOfForm 6 = .ok (.getfield 35, 3) := by decide +kernel
theorem dX5_widthOfForm_9 : decode cX5_widthOfForm 9 = .ok (.invokevirtual 49, 3) := by decide +kernel
theorem dX5_widthOfForm_12 : decode cX5_widthOfForm 12 = .ok (.aload_n 0, 1) := by decide +kernel
theorem dX5_widthOfForm_13 : decode cX5_widthOfForm 13 = .ok (.getfield 23, 3) := by decide +kernel
theorem dX5_widthOfForm_16 : decode cX5_widthOfForm 16 = .ok (.iload_n 2, 1) := by decide +kernel
theorem dX5_widthOfForm_17 : decode cX5_widthOfForm 17 = .ok (.aload_n 0, 1) := by decide +kernel
theorem dX5_widthOfForm_18 : decode cX5_widthOfForm 18 = .ok (.getfield 35, 3) := by decide +kernel
theorem dX5_widthOfForm_21 : decode cX5_widthOfForm 21 = .ok (.invokevirtual 49, 3) := by decide +kernel
theorem dX5_widthOfForm_24 : decode cX5_widthOfForm 24 = .ok (.iadd, 1) := by decide +kernel
theorem dX5_widthOfForm_25 : decode cX5_widthOfForm 25 = .ok (.ireturn, 1) := by decide +kernel
set_option maxRecDepth 20000 in
theorem ggX5_isForm_X7_lengthOf : GoodIn wsX5_isForm wsX7_lengthOf := goodIn_r _ [8, 9, 10, 11, 12, 13, 14, 15, 27, 28, 29, 30, 31, 32] (by decide +kernel) (by decide +kernel)
set_option maxRecDepth 20000 in
theorem gX5_isForm_X7_lengthOf : GoodIn wsX5_isForm (wsV RX5 45 RX7 yX7_lengthOf wsX7_lengthOf) := goodIn_app (goodIn_of _ (by decide +kernel)) ggX5_isForm_X7_lengthOf
set_option maxRecDepth 20000 in
theorem ggX5_isForm_X7_letterOf : GoodIn wsX5_isForm wsX7_letterOf := goodIn_r _ [19, 20, 21, 10, 11, 12, 13, 14, 15, 27, 28, 29, 30, 31, 32] (by decide +kernel) (by decide +kernel)
set_option maxRecDepth 20000 in
theorem gX5_isForm_X7_letterOf : GoodIn wsX5_isForm (wsV RX5 53 RX7 yX7_letterOf wsX7_letterOf) := goodIn_app (goodIn_of _ (by decide +kernel)) ggX5_isForm_X7_letterOf
theorem dX5_isForm_0 : decode cX5_isForm 0 = .ok (.aload_n 0, 1) := by decide +kernel
theorem dX5_isForm_1 : decode cX5_isForm 1 = .ok (.getfield 14, 3) := by decide +kernel
theorem dX5_isForm_4 : decode cX5_isForm 4 = .ok (.iload_n 1, 1) := by decide +kernel
theorem dX5_isForm_5 : decode cX5_isForm 5 = .ok (.invokevirtual 45, 3) := by decide +kernel
theorem dX5_isForm_8 : decode cX5_isForm 8 = .ok (.istore 4, 2) := by decide +kernel
theorem dX5_isForm_10 : decode cX5_isForm 10 = .ok (.aload_n 0, 1) := by decide +kernel
theorem dX5_isForm_11 : decode cX5_isForm 11 = .ok (.getfield 20, 3) := by decide +kernel
theorem dX5_isForm_14 : decode cX5_isForm 14 = .ok (.iload_n 2, 1) := by decide +kernel
theorem dX5_isForm_15 : decode cX5_isForm 15 = .ok (.invokevirtual 45, 3) := by decide +kernel
theorem dX5_isForm_18 : decode cX5_isForm 18 = .ok (.istore 5, 2) := by decide +kernel
theorem dX5_isForm_20 : decode cX5_isForm 20 = .ok (.iload 4, 2) := by decide +kernel
theorem dX5_isForm_22 : decode cX5_isForm 22 = .ok (.iload 5, 2) := by decide +kernel
theorem dX5_isForm_24 : decode cX5_isForm 24 = .ok (.aload_n 0, 1) := by decide +kernel
theorem dX5_isForm_25 : decode cX5_isForm 25 = .ok (.getfield 23, 3) := by decide +kernel
theorem dX5_isForm_28 : decode cX5_isForm 28 = .ok (.iload_n 3, 1) := by decide +kernel
theorem dX5_isForm_29 : decode cX5_isForm 29 = .ok (.invokevirtual 45, 3) := by decide +kernel
theorem dX5_isForm_32 : decode cX5_isForm 32 = .ok (.iadd, 1) := by decide +kernel
theorem dX5_isForm_33 : decode cX5_isForm 33 = .ok (.if_icmp .eq 5, 3) := by decide +kernel
theorem dX5_isForm_36 : decode cX5_isForm 36 = .ok (.iconst 0, 1) := by decide +kernel
theorem dX5_isForm_37 : decode cX5_isForm 37 = .ok (.ireturn, 1) := by decide +kernel
theorem dX5_isForm_38 : decode cX5_isForm 38 = .ok (.iconst 0, 1) := by decide +kernel
theorem dX5_isForm_39 : decode cX5_isForm 39 = .ok (.istore 6, 2) := by decide +kernel
theorem dX5_isForm_41 : decode cX5_isForm 41 = .ok (.iload 6, 2) := by decide +kernel
theorem dX5_isForm_43 : decode cX5_isForm 43 = .ok (.iload 4, 2) := by decide +kernel
theorem dX5_isForm_45 : decode cX5_isForm 45 = .ok (.if_icmp .ge 61, 3) := by decide +kernel
theorem dX5_isForm_48 : decode cX5_isForm 48 = .ok (.iload 6, 2) := by decide +kernel
theorem dX5_isForm_50 : decode cX5_isForm 50 = .ok (.iload 5, 2) := by decide +kernel
theorem dX5_isForm_52 : decode cX5_isForm 52 = .ok (.if_icmp .ge 16, 3) := by decide +kernel
theorem dX5_isForm_55 : decode cX5_isForm 55 = .ok (.aload_n 0, 1) := by decide +kernel
theorem dX5_isForm_56 : decode cX5_isForm 56 = .ok (.getfield 20, 3) := by decide +kernel
theorem dX5_isForm_59 : decode cX5_isForm 59 = .ok (.iload_n 2, 1) := by decide +kernel
theorem dX5_isForm_60 : decode cX5_isForm 60 = .ok (.iload 6, 2) := by decide +kernel
theorem dX5_isForm_62 : decode cX5_isForm 62 = .ok (.invokevirtual 53, 3) := by decide +kernel
theorem dX5_isForm_65 : decode cX5_isForm 65 = .ok (.goto 16, 3) := by decide +kernel
theorem dX5_isForm_68 : decode cX5_isForm 68 = .ok (.aload_n 0, 1) := by decide +kernel
theorem dX5_isForm_69 : decode cX5_isForm 69 = .ok (.getfield 23, 3) := by decide +kernel
theorem dX5_isForm_72 : decode cX5_isForm 72 = .ok (.iload_n 3, 1) := by decide +kernel
theorem dX5_isForm_73 : decode cX5_isForm 73 = .ok (.iload 6, 2) := by decide +kernel
theorem dX5_isForm_75 : decode cX5_isForm 75 = .ok (.iload 5, 2) := by decide +kernel
theorem dX5_isForm_77 : decode cX5_isForm 77 = .ok (.isub, 1) := by decide +kernel
theorem dX5_isForm_78 : decode cX5_isForm 78 = .ok (.invokevirtual 53, 3) := by decide +kernel
theorem dX5_isForm_81 : decode cX5_isForm 81 = .ok (.istore 7, 2) := by decide +kernel
theorem dX5_isForm_83 : decode cX5_isForm 83 = .ok (.aload_n 0, 1) := by decide +kernel
theorem dX5_isForm_84 : decode cX5_isForm 84 = .ok (.getfield 14, 3) := by decide +kernel
theorem dX5_isForm_87 : decode cX5_isForm 87 = .ok (.iload_n 1, 1) := by decide +kernel
theorem dX5_isForm_88 : decode cX5_isForm 88 = .ok (.iload 6, 2) := by decide +kernel
theorem dX5_isForm_90 : decode cX5_isForm 90 = .ok (.invokevirtual 53, 3) := by decide +kernel
theorem dX5_isForm_93 : decode cX5_isForm 93 = .ok (.iload 7, 2) := by decide +kernel
theorem dX5_isForm_95 : decode cX5_isForm 95 = .ok (.if_icmp .eq 5, 3) := by decide +kernel
theorem dX5_isForm_98 : decode cX5_isForm 98 = .ok (.iconst 0, 1) := by decide +kernel
theorem dX5_isForm_99 : decode cX5_isForm 99 = .ok (.ireturn, 1) := by decide +kernel
theorem dX5_isForm_100 : decode cX5_isForm 100 = .ok (.iinc 6 1, 3) := by decide +kernel
theorem dX5_isForm_103 : decode cX5_isForm 103 = .ok (.goto (-62), 3) := by decide +kernel
theorem dX5_isForm_106 : decode cX5_isForm 106 = .ok (.iconst 1, 1) := by decide +kernel
theorem dX5_isForm_107 : decode cX5_isForm 107 = .ok (.ireturn, 1) := by decide +kernel
set_option maxRecDepth 20000 in
theorem ggX5_copyFrom_X7_copyFrom : GoodIn wsX5_copyFrom wsX7_copyFrom := goodIn_r _ [10, 11, 12, 13, 14, 15, 16, 17, 18, 19, 20, 21, 22, 23, 24, 25, 26, 27, 28, 29, 36, 37, 38, 39, 40, 41] (by decide +kernel) (by decide +kernel)
set_option maxRecDepth 20000 in
theorem gX5_copyFrom_X7_copyFrom : GoodIn wsX5_copyFrom (wsV RX5 57 RX7 yX7_copyFrom wsX7_copyFrom) := goodIn_app (goodIn_of _ (by decide +kernel)) ggX5_copyFrom_X7_copyFrom
set_option maxRecDepth 20000 in
theorem ggX5_copyFrom_X3_copyFrom : GoodIn wsX5_copyFrom wsX3_copyFrom := goodIn_r _ [23, 24, 25, 16, 17, 18, 26, 27, 28, 29, 41] (by decide +kernel) (by decide +kernel)
set_option maxRecDepth 20000 in
theorem gX5_copyFrom_X3_copyFrom : GoodIn wsX5_copyFrom (wsV RX5 61 RX3 yX3_copyFrom wsX3_copyFrom) := goodIn_app (goodIn_of _ (by decide +kernel)) ggX5_copyFrom_X3_copyFrom
theorem dX5_copyFrom_0 : decode cX5_copyFrom 0 = .ok (.aload_n 0, 1) := by decide +kernel
theorem dX5_copyFrom_1 : decode cX5_copyFrom 1 = .ok (.getfield 14, 3) := by decide +kernel
theorem dX5_copyFrom_4 : decode cX5_copyFrom 4 = .ok (.aload_n 1, 1) := by decide +kernel
theorem dX5_copyFrom_5 : decode cX5_copyFrom 5 = .ok (.getfield 14, 3) := by decide +kernel
theorem dX5_copyFrom_8 : decode cX5_copyFrom 8 = .ok (.invokevirtual 57, 3) := by decide +kernel
theorem dX5_copyFrom_11 : decode cX5_copyFrom 11 = .ok (.aload_n 0, 1) := by decide +kernel
theorem dX5_copyFrom_12 : decode cX5_copyFrom 12 = .ok (.getfield 20, 3) := by decide +kernel
theorem dX5_copyFrom_15 : decode cX5_copyFrom 15 = .ok (.aload_n 1, 1) := by decide +kernel
theorem dX5_copyFrom_16 : decode cX5_copyFrom 16 = .ok (.getfield 20, 3) := by decide +kernel
theorem dX5_copyFrom_19 : decode cX5_copyFrom 19 = .ok (.invokevirtual 57, 3) := by decide +kernel
theorem dX5_copyFrom_22 : decode cX5_copyFrom 22 = .ok (.aload_n 0, 1) := by decide +kernel
theorem dX5_copyFrom_23 : decode cX5_copyFrom 23 = .ok (.getfield 23, 3) := by decide +kernel
theorem dX5_copyFrom_26 : decode cX5_copyFrom 26 = .ok (.aload_n 1, 1) := by decide +kernel
theorem dX5_copyFrom_27 : decode cX5_copyFrom 27 = .ok (.getfield 23, 3) := by decide +kernel
theorem dX5_copyFrom_30 : decode cX5_copyFrom 30 = .ok (.invokevirtual 57, 3) := by decide +kernel
theorem dX5_copyFrom_33 : decode cX5_copyFrom 33 = .ok (.aload_n 0, 1) := by decide +kernel
theorem dX5_copyFrom_34 : decode cX5_copyFrom 34 = .ok (.getfield 35, 3) := by decide +kernel
theorem dX5_copyFrom_37 : decode cX5_copyFrom 37 = .ok (.aload_n 1, 1) := by decide +kernel
theorem dX5_copyFrom_38 : decode cX5_copyFrom 38 = .ok (.getfield 35, 3) := by decide +kernel
theorem dX5_copyFrom_41 : decode cX5_copyFrom 41 = .ok (.invokevirtual 61, 3) := by decide +kernel
theorem dX5_copyFrom_44 : decode cX5_copyFrom 44 = .ok (.aload_n 0, 1) := by decide +kernel
theorem dX5_copyFrom_45 : decode cX5_copyFrom 45 = .ok (.getfield 42, 3) := by decide +kernel
theorem dX5_copyFrom_48 : decode cX5_copyFrom 48 = .ok (.aload_n 1, 1) := by decide +kernel
theorem dX5_copyFrom_49 : decode cX5_copyFrom 49 = .ok (.getfield 42, 3) := by decide +kernel
theorem dX5_copyFrom_52 : decode cX5_copyFrom 52 = .ok (.invokevirtual 61, 3) := by decide +kernel
theorem dX5_copyFrom_55 : decode cX5_copyFrom 55 = .ok (.return_, 1) := by decide +kernel
set_option maxRecDepth 20000 in
theorem ggX6_init_X3_init : GoodIn wsX6_init wsX3_init := goodIn_r _ [11, 12, 2, 3, 13, 14, 15, 16, 17, 18, 19] (by decide +kernel) (by decide +kernel)
set_option maxRecDepth 20000 in
theorem gX6_init_X3_init : GoodIn wsX6_init (wsX3_init) := ggX6_init_X3_init
theorem dX6_init_0 : decode cX6_init 0 = .ok (.aload_n 0, 1) := by decide +kernel
theorem dX6_init_1 : decode cX6_init 1 = .ok (.invokespecial 3, 3) := by decide +kernel
theorem dX6_init_4 : decode cX6_init 4 = .ok (.aload_n 0, 1) := by decide +kernel
theorem dX6_init_5 : decode cX6_init 5 = .ok (.new 9, 3) := by decide +kernel
theorem dX6_init_8 : decode cX6_init 8 = .ok (.dup, 1) := by decide +kernel
theorem dX6_init_9 : decode cX6_init 9 = .ok (.sipush 200, 3) := by decide +kernel
theorem dX6_init_12 : decode cX6_init 12 = .ok (.invokespecial 11, 3) := by decide +kernel
theorem dX6_init_15 : decode cX6_init 15 = .ok (.putfield 14, 3) := by decide +kernel
theorem dX6_init_18 : decode cX6_init 18 = .ok (.aload_n 0, 1) := by decide +kernel
theorem dX6_init_19 : decode cX6_init 19 = .ok (.iconst 0, 1) := by decide +kernel
theorem dX6_init_20 : decode cX6_init 20 = .ok (.putfield 20, 3) := by decide +kernel
theorem dX6_init_23 : decode cX6_init 23 = .ok (.return_, 1) := by decide +kernel
theorem dX6_size_0 : decode cX6_size 0 = .ok (.aload_n 0, 1) := by decide +kernel
theorem dX6_size_1 : decode cX6_size 1 = .ok (.getfield 20, 3) := by decide +kernel
theorem dX6_size_4 : decode cX6_size 4 = .ok (.ireturn, 1) := by decide +kernel
set_option maxRecDepth 20000 in
theorem ggX6_at_X3_at : GoodIn wsX6_at wsX3_at := goodIn_r _ [6, 7, 10] (by decide +kernel) (by decide +kernel)
set_option maxRecDepth 20000 in
theorem gX6_at_X3_at : GoodIn wsX6_at (wsV RX6 24 RX3 yX3_at wsX3_at) := goodIn_app (goodIn_of _ (by decide +kernel)) ggX6_at_X3_at
theorem dX6_at_0 : decode cX6_at 0 = .ok (.aload_n 0, 1) := by decide +kernel
theorem dX6_at_1 : decode cX6_at 1 = .ok (.getfield 14, 3) := by decide +kernel
theorem dX6_at_4 : decode cX6_at 4 = .ok (.iload_n 1, 1) := by decide +kernel
theorem dX6_at_5 : decode cX6_at 5 = .ok (.invokevirtual 24, 3) := by decide +kernel
theorem dX6_at_8 : decode cX6_at 8 = .ok (.ireturn, 1) := by decide +kernel
set_option maxRecDepth 20000 in
theorem ggX6_append_X3_put : GoodIn wsX6_append wsX3_put := goodIn_r _ [7, 8, 11] (by decide +kernel) (by decide +kernel)
set_option maxRecDepth 20000 in
theorem gX6_append_X3_put : GoodIn wsX6_append (wsV RX6 28 RX3 yX3_put wsX3_put) := goodIn_app (goodIn_of _ (by decide +kernel)) ggX6_append_X3_put
theorem dX6_append_0 : decode cX6_append 0 = .ok (.aload_n 0, 1) := by decide +kernel
theorem dX6_append_1 : decode cX6_append 1 = .ok (.getfield 20, 3) := by decide +kernel
theorem dX6_append_4 : decode cX6_append 4 = .ok (.sipush 200, 3) := by decide +kernel
theorem dX6_append_7 : decode cX6_append 7 = .ok (.if_icmp .ge 25, 3) := by decide +kernel
