set_option maxRecDepth 20000 in
theorem ggX0_init_X3_init : GoodIn wsX0_init wsX3_init := goodIn_r _ [11, 12, 2, 3, 13, 14, 15, 16, 17, 18, 21] (by decide +kernel) (by decide +kernel)
set_option maxRecDepth 20000 in
theorem gX0_init_X3_init : GoodIn wsX0_init (wsX3_init) := ggX0_init_X3_init
theorem dX0_init_0 : decode cX0_init 0 = .ok (.aload_n 0, 1) := by decide +kernel
theorem dX0_init_1 : decode cX0_init 1 = .ok (.invokespecial 3, 3) := by decide +kernel
theorem dX0_init_4 : decode cX0_init 4 = .ok (.aload_n 0, 1) := by decide +kernel
theorem dX0_init_5 : decode cX0_init 5 = .ok (.aload_n 1, 1) := by decide +kernel
theorem dX0_init_6 : decode cX0_init 6 = .ok (.putfield 9, 3) := by decide +kernel
theorem dX0_init_9 : decode cX0_init 9 = .ok (.aload_n 0, 1) := by decide +kernel
theorem dX0_init_10 : decode cX0_init 10 = .ok (.new 15, 3) := by decide +kernel
theorem dX0_init_13 : decode cX0_init 13 = .ok (.dup, 1) := by decide +kernel
theorem dX0_init_14 : decode cX0_init 14 = .ok (.bipush 40, 2) := by decide +kernel
theorem dX0_init_16 : decode cX0_init 16 = .ok (.invokespecial 17, 3) := by decide +kernel
theorem dX0_init_19 : decode cX0_init 19 = .ok (.putfield 20, 3) := by decide +kernel
theorem dX0_init_22 : decode cX0_init 22 = .ok (.return_, 1) := by decide +kernel
set_option maxRecDepth 20000 in
theorem ggX0_draw_X1_size : GoodIn wsX0_draw wsX1_size := goodIn_r _ [7, 8, 48, 49, 50, 51, 52] (by decide +kernel) (by decide +kernel)
set_option maxRecDepth 20000 in
theorem gX0_draw_X1_size : GoodIn wsX0_draw (wsV RX0 24 RX1 yX1_size wsX1_size) := goodIn_app (goodIn_of _ (by decide +kernel)) ggX0_draw_X1_size
set_option maxRecDepth 20000 in
theorem ggX0_draw_X0_barWidth : GoodIn wsX0_draw wsX0_barWidth := goodIn_r _ [13, 1, 14, 15, 16, 6, 17, 18, 19, 20, 21, 22, 23, 24, 25, 26, 12, 27, 28, 29, 30, 31, 32, 33, 34, 35, 36, 3, 4, 5, 7, 8, 37, 38, 39, 40, 41, 46, 47, 48, 49, 50, 51, 52, 53] (by decide +kernel) (by decide +kernel)
set_option maxRecDepth 20000 in
theorem gX0_draw_X0_barWidth : GoodIn wsX0_draw (wsV RX0 30 RX0 yX0_barWidth wsX0_barWidth) := goodIn_app (goodIn_of _ (by decide +kernel)) ggX0_draw_X0_barWidth
set_option maxRecDepth 20000 in
theorem ggX0_draw_X3_put : GoodIn wsX0_draw wsX3_put := goodIn_r _ [45, 24, 53] (by decide +kernel) (by decide +kernel)
set_option maxRecDepth 20000 in
theorem gX0_draw_X3_put : GoodIn wsX0_draw (wsV RX0 34 RX3 yX3_put wsX3_put) := goodIn_app (goodIn_of _ (by decide +kernel)) ggX0_draw_X3_put
theorem dX0_draw_0 : decode cX0_draw 0 = .ok (.iconst 0, 1) := by decide +kernel
theorem dX0_draw_1 : decode cX0_draw 1 = .ok (.istore 4, 2) := by decide +kernel
theorem dX0_draw_3 : decode cX0_draw 3 = .ok (.iload 4, 2) := by decide +kernel
theorem dX0_draw_5 : decode cX0_draw 5 = .ok (.aload_n 0, 1) := by decide +kernel
theorem dX0_draw_6 : decode cX0_draw 6 = .ok (.getfield 9, 3) := by decide +kernel
theorem dX0_draw_9 : decode cX0_draw 9 = .ok (.invokevirtual 24, 3) := by decide +kernel
theorem dX0_draw_12 : decode cX0_draw 12 = .ok (.if_icmp .ge 27, 3) := by decide +kernel
theorem dX0_draw_15 : decode cX0_draw 15 = .ok (.aload_n 0, 1) := by decide +kernel
theorem dX0_draw_16 : decode cX0_draw 16 = .ok (.getfield 20, 3) := by decide +kernel
theorem dX0_draw_19 : decode cX0_draw 19 = .ok (.iload 4, 2) := by decide +kernel
theorem dX0_draw_21 : decode cX0_draw 21 = .ok (.aload_n 0, 1) := by decide +kernel
theorem dX0_draw_22 : decode cX0_draw 22 = .ok (.iload 4, 2) := by decide +kernel
theorem dX0_draw_24 : decode cX0_draw 24 = .ok (.iload_n 1, 1) := by decide +kernel
theorem dX0_draw_25 : decode cX0_draw 25 = .ok (.iload_n 2, 1) := by decide +kernel
theorem dX0_draw_26 : decode cX0_draw 26 = .ok (.iload_n 3, 1) := by decide +kernel
theorem dX0_draw_27 : decode cX0_draw 27 = .ok (.invokevirtual 30, 3) := by decide +kernel
theorem dX0_draw_30 : decode cX0_draw 30 = .ok (.invokevirtual 34, 3) := by decide +kernel
theorem dX0_draw_33 : decode cX0_draw 33 = .ok (.iinc 4 1, 3) := by decide +kernel
theorem dX0_draw_36 : decode cX0_draw 36 = .ok (.goto (-33), 3) := by decide +kernel
theorem dX0_draw_39 : decode cX0_draw 39 = .ok (.return_, 1) := by decide +kernel
set_option maxRecDepth 20000 in
theorem ggX0_barWidth_X1_widthOf : GoodIn wsX0_barWidth wsX1_widthOf := goodIn_r _ [6, 7, 8, 9, 10, 11, 12, 13, 39, 40, 41, 42, 43, 44] (by decide +kernel) (by decide +kernel)
set_option maxRecDepth 20000 in
theorem gX0_barWidth_X1_widthOf : GoodIn wsX0_barWidth (wsV RX0 38 RX1 yX1_widthOf wsX1_widthOf) := goodIn_app (goodIn_of _ (by decide +kernel)) ggX0_barWidth_X1_widthOf
set_option maxRecDepth 20000 in
theorem ggX0_barWidth_X0_upToMultiple : GoodIn wsX0_barWidth wsX0_upToMultiple := goodIn_r _ [17] (by decide +kernel) (by decide +kernel)
set_option maxRecDepth 20000 in
theorem gX0_barWidth_X0_upToMultiple : GoodIn wsX0_barWidth (va_wsS RX0 42 yX0_upToMultiple wsX0_upToMultiple) := goodIn_app (goodIn_of _ (by decide +kernel)) ggX0_barWidth_X0_upToMultiple
set_option maxRecDepth 20000 in
theorem ggX0_barWidth_X1_rankOf : GoodIn wsX0_barWidth wsX1_rankOf := goodIn_r _ [21, 22, 8, 9, 10, 11, 12, 13, 39, 40, 41, 42, 43, 44] (by decide +kernel) (by decide +kernel)
set_option maxRecDepth 20000 in
theorem gX0_barWidth_X1_rankOf : GoodIn wsX0_barWidth (wsV RX0 46 RX1 yX1_rankOf wsX1_rankOf) := goodIn_app (goodIn_of _ (by decide +kernel)) ggX0_barWidth_X1_rankOf
set_option maxRecDepth 20000 in
theorem ggX0_barWidth_X0_lastRankOfGroup : GoodIn wsX0_barWidth wsX0_lastRankOfGroup := goodIn_r _ [26, 1, 27, 28, 29, 5, 30, 31, 37, 38, 39, 40, 41, 42, 43] (by decide +kernel) (by decide +kernel)
set_option maxRecDepth 20000 in
theorem gX0_barWidth_X0_lastRankOfGroup : GoodIn wsX0_barWidth (wsV RX0 49 RX0 yX0_lastRankOfGroup wsX0_lastRankOfGroup) := goodIn_app (goodIn_of _ (by decide +kernel)) ggX0_barWidth_X0_lastRankOfGroup
set_option maxRecDepth 20000 in
theorem ggX0_barWidth_X1_widthAtRank : GoodIn wsX0_barWidth wsX1_widthAtRank := goodIn_r _ [35, 36, 8, 9, 10, 11, 12, 13, 39, 40, 41, 42, 43, 44] (by decide +kernel) (by decide +kernel)
set_option maxRecDepth 20000 in
theorem gX0_barWidth_X1_widthAtRank : GoodIn wsX0_barWidth (wsV RX0 52 RX1 yX1_widthAtRank wsX1_widthAtRank) := goodIn_app (goodIn_of _ (by decide +kernel)) ggX0_barWidth_X1_widthAtRank
set_option maxRecDepth 20000 in
theorem ggX0_barWidth_X1_size : GoodIn wsX0_barWidth wsX1_size := goodIn_r _ [30, 31, 39, 40, 41, 42, 43] (by decide +kernel) (by decide +kernel)
set_option maxRecDepth 20000 in
theorem gX0_barWidth_X1_size : GoodIn wsX0_barWidth (wsV RX0 24 RX1 yX1_size wsX1_size) := goodIn_app (goodIn_of _ (by decide +kernel)) ggX0_barWidth_X1_size
theorem dX0_barWidth_0 : decode cX0_barWidth 0 = .ok (.iload_n 2, 1) := by decide +kernel
theorem dX0_barWidth_1 : decode cX0_barWidth 1 = .ok (.tableswitch 79 1 3 #[27, 40, 62], 27) := by decide +kernel
theorem dX0_barWidth_28 : decode cX0_barWidth 28 = .ok (.aload_n 0, 1) := by decide +kernel
theorem dX0_barWidth_29 : decode cX0_barWidth 29 = .ok (.getfield 9, 3) := by decide +kernel
theorem dX0_barWidth_32 : decode cX0_barWidth 32 = .ok (.iload_n 1, 1) := by decide +kernel
theorem dX0_barWidth_33 : decode cX0_barWidth 33 = .ok (.invokevirtual 38, 3) := by decide +kernel
theorem dX0_barWidth_36 : decode cX0_barWidth 36 = .ok (.iload_n 3, 1) := by decide +kernel
theorem dX0_barWidth_37 : decode cX0_barWidth 37 = .ok (.invokestatic 42, 3) := by decide +kernel
theorem dX0_barWidth_40 : decode cX0_barWidth 40 = .ok (.ireturn, 1) := by decide +kernel
theorem dX0_barWidth_41 : decode cX0_barWidth 41 = .ok (.aload_n 0, 1) := by decide +kernel
theorem dX0_barWidth_42 : decode cX0_barWidth 42 = .ok (.getfield 9, 3) := by decide +kernel
theorem dX0_barWidth_45 : decode cX0_barWidth 45 = .ok (.aload_n 0, 1) := by decide +kernel
theorem dX0_barWidth_46 : decode cX0_barWidth 46 = .ok (.aload_n 0, 1) := by decide +kernel
theorem dX0_barWidth_47 : decode cX0_barWidth 47 = .ok (.getfield 9, 3) := by decide +kernel
theorem dX0_barWidth_50 : decode cX0_barWidth 50 = .ok (.iload_n 1, 1) := by decide +kernel
theorem dX0_barWidth_51 : decode cX0_barWidth 51 = .ok (.invokevirtual 46, 3) := by decide +kernel
theorem dX0_barWidth_54 : decode cX0_barWidth 54 = .ok (.iload 4, 2) := by decide +kernel
theorem dX0_barWidth_56 : decode cX0_barWidth 56 = .ok (.invokevirtual 49, 3) := by decide +kernel
theorem dX0_barWidth_59 : decode cX0_barWidth 59 = .ok (.invokevirtual 52, 3) := by decide +kernel
theorem dX0_barWidth_62 : decode cX0_barWidth 62 = .ok (.ireturn, 1) := by decide +kernel
theorem dX0_barWidth_63 : decode cX0_barWidth 63 = .ok (.aload_n 0, 1) := by decide +kernel
theorem dX0_barWidth_64 : decode cX0_barWidth 64 = .ok (.getfield 9, 3) := by decide +kernel
theorem dX0_barWidth_67 : decode cX0_barWidth 67 = .ok (.aload_n 0, 1) := by decide +kernel
theorem dX0_barWidth_68 : decode cX0_barWidth 68 = .ok (.getfield 9, 3) := by decide +kernel
theorem dX0_barWidth_71 : decode cX0_barWidth 71 = .ok (.invokevirtual 24, 3) := by decide +kernel
theorem dX0_barWidth_74 : decode cX0_barWidth 74 = .ok (.iconst 1, 1) := by decide +kernel
theorem dX0_barWidth_75 : decode cX0_barWidth 75 = .ok (.isub, 1) := by decide +kernel
theorem dX0_barWidth_76 : decode cX0_barWidth 76 = .ok (.invokevirtual 52, 3) := by decide +kernel
theorem dX0_barWidth_79 : decode cX0_barWidth 79 = .ok (.ireturn, 1) := by decide +kernel
theorem dX0_barWidth_80 : decode cX0_barWidth 80 = .ok (.aload_n 0, 1) := by decide +kernel
theorem dX0_barWidth_81 : decode cX0_barWidth 81 = .ok (.getfield 9, 3) := by decide +kernel
theorem dX0_barWidth_84 : decode cX0_barWidth 84 = .ok (.iload_n 1, 1) := by decide +kernel
theorem dX0_barWidth_85 : decode cX0_barWidth 85 = .ok (.invokevirtual 38, 3) := by decide +kernel
theorem dX0_barWidth_88 : decode cX0_barWidth 88 = .ok (.ireturn, 1) := by decide +kernel
theorem dX0_upToMultiple_0 : decode cX0_upToMultiple 0 = .ok (.iload_n 1, 1) := by decide +kernel
theorem dX0_upToMultiple_1 : decode cX0_upToMultiple 1 = .ok (.iconst 1, 1) := by decide +kernel
theorem dX0_upToMultiple_2 : decode cX0_upToMultiple 2 = .ok (.if_icmp .ge 7, 3) := by decide +kernel
theorem dX0_upToMultiple_5 : decode cX0_upToMultiple 5 = .ok (.iload_n 0, 1) := by decide +kernel
theorem dX0_upToMultiple_6 : decode cX0_upToMultiple 6 = .ok (.goto 12, 3) := by decide +kernel
theorem dX0_upToMultiple_9 : decode cX0_upToMultiple 9 = .ok (.iload_n 0, 1) := by decide +kernel
theorem dX0_upToMultiple_10 : decode cX0_upToMultiple 10 = .ok (.iload_n 1, 1) := by decide +kernel
theorem dX0_upToMultiple_11 : decode cX0_upToMultiple 11 = .ok (.iadd, 1) := by decide +kernel
theorem dX0_upToMultiple_12 : decode cX0_upToMultiple 12 = .ok (.iconst 1, 1) := by decide +kernel
theorem dX0_upToMultiple_13 : decode cX0_upToMultiple 13 = .ok (.isub, 1) := by decide +kernel
theorem dX0_upToMultiple_14 : decode cX0_upToMultiple 14 = .ok (.iload_n 1, 1) := by decide +kernel
theorem dX0_upToMultiple_15 : decode cX0_upToMultiple 15 = .ok (.idiv, 1) := by decide +kernel
theorem dX0_upToMultiple_16 : decode cX0_upToMultiple 16 = .ok (.iload_n 1, 1) := by decide +kernel
theorem dX0_upToMultiple_17 : decode cX0_upToMultiple 17 = .ok (.imul, 1) := by decide +kernel
theorem dX0_upToMultiple_18 : decode cX0_upToMultiple 18 = .ok (.ireturn, 1) := by decide +kernel
set_option maxRecDepth 20000 in
theorem ggX0_lastRankOfGroup_X1_size : GoodIn wsX0_lastRankOfGroup wsX1_size := goodIn_r _ [6, 7, 10, 11, 12, 13, 14] (by decide +kernel) (by decide +kernel)
set_option maxRecDepth 20000 in
theorem gX0_lastRankOfGroup_X1_size : GoodIn wsX0_lastRankOfGroup (wsV RX0 24 RX1 yX1_size wsX1_size) := goodIn_app (goodIn_of _ (by decide +kernel)) ggX0_lastRankOfGroup_X1_size
theorem dX0_lastRankOfGroup_0 : decode cX0_lastRankOfGroup 0 = .ok (.iload_n 2, 1) := by decide +kernel
theorem dX0_lastRankOfGroup_1 : decode cX0_lastRankOfGroup 1 = .ok (.iconst 1, 1) := by decide +kernel
theorem dX0_lastRankOfGroup_2 : decode cX0_lastRankOfGroup 2 = .ok (.if_icmp .ge 5, 3) := by decide +kernel
theorem dX0_lastRankOfGroup_5 : decode cX0_lastRankOfGroup 5 = .ok (.iload_n 1, 1) := by decide +kernel
theorem dX0_lastRankOfGroup_6 : decode cX0_lastRankOfGroup 6 = .ok (.ireturn, 1) := by decide +kernel
theorem dX0_lastRankOfGroup_7 : decode cX0_lastRankOfGroup 7 = .ok (.iload_n 1, 1) := by decide +kernel
theorem dX0_lastRankOfGroup_8 : decode cX0_lastRankOfGroup 8 = .ok (.iload_n 2, 1) := by decide +kernel
theorem dX0_lastRankOfGroup_9 : decode cX0_lastRankOfGroup 9 = .ok (.idiv, 1) := by decide +kernel
theorem dX0_lastRankOfGroup_10 : decode cX0_lastRankOfGroup 10 = .ok (.iload_n 2, 1) := by decide +kernel
theorem dX0_lastRankOfGroup_11 : decode cX0_lastRankOfGroup 11 = .ok (.imul, 1) := by decide +kernel
theorem dX0_lastRankOfGroup_12 : decode cX0_lastRankOfGroup 12 = .ok (.iload_n 2, 1) := by decide +kernel
theorem dX0_lastRankOfGroup_13 : decode cX0_lastRankOfGroup 13 = .ok (.iadd, 1) := by decide +kernel
theorem dX0_lastRankOfGroup_14 : decode cX0_lastRankOfGroup 14 = .ok (.iconst 1, 1) := by decide +kernel
theorem dX0_lastRankOfGroup_15 : decode cX0_lastRankOfGroup 15 = .ok (.isub, 1) := by decide +kernel
theorem dX0_lastRankOfGroup_16 : decode cX0_lastRankOfGroup 16 = .ok (.istore_n 3, 1) := by decide +kernel
theorem dX0_lastRankOfGroup_17 : decode cX0_lastRankOfGroup 17 = .ok (.iload_n 3, 1) := by decide +kernel
theorem dX0_lastRankOfGroup_18 : decode cX0_lastRankOfGroup 18 = .ok (.iload_n 2, 1) := by decide +kernel
theorem dX0_lastRankOfGroup_19 : decode cX0_lastRankOfGroup 19 = .ok (.iadd, 1) := by decide +kernel
theorem dX0_lastRankOfGroup_20 : decode cX0_lastRankOfGroup 20 = .ok (.aload_n 0, 1) := by decide +kernel
theorem dX0_lastRankOfGroup_21 : decode cX0_lastRankOfGroup 21 = .ok (.getfield 9, 3) := by decide +kernel
theorem dX0_lastRankOfGroup_24 : decode cX0_lastRankOfGroup 24 = .ok (.invokevirtual 24, 3) := by decide +kernel
theorem dX0_lastRankOfGroup_27 : decode cX0_lastRankOfGroup 27 = .ok (.if_icmp .ge 7, 3) := by decide +kernel
theorem dX0_lastRankOfGroup_30 : decode cX0_lastRankOfGroup 30 = .ok (.iconst 1, 1) := by decide +kernel
theorem dX0_lastRankOfGroup_31 : decode cX0_lastRankOfGroup 31 = .ok (.goto 4, 3) := by decide +kernel
theorem dX0_lastRankOfGroup_34 : decode cX0_lastRankOfGroup 34 = .ok (.iconst 0, 1) := by decide +kernel
theorem dX0_lastRankOfGroup_35 : decode cX0_lastRankOfGroup 35 = .ok (.istore 4, 2) := by decide +kernel
theorem dX0_lastRankOfGroup_37 : decode cX0_lastRankOfGroup 37 = .ok (.iload 4, 2) := by decide +kernel
theorem dX0_lastRankOfGroup_39 : decode cX0_lastRankOfGroup 39 = .ok (.ifCond .eq 7, 3) := by decide +kernel
theorem dX0_lastRankOfGroup_42 : decode cX0_lastRankOfGroup 42 = .ok (.iload_n 3, 1) := by decide +kernel
theorem dX0_lastRankOfGroup_43 : decode cX0_lastRankOfGroup 43 = .ok (.goto 12, 3) := by decide +kernel
theorem dX0_lastRankOfGroup_46 : decode cX0_lastRankOfGroup 46 = .ok (.aload_n 0, 1) := by decide +kernel
theorem dX0_lastRankOfGroup_47 : decode cX0_lastRankOfGroup 47 = .ok (.getfield 9, 3) := by decide +kernel
theorem dX0_lastRankOfGroup_50 : decode cX0_lastRankOfGroup 50 = .ok (.invokevirtual 24, 3) := by decide +kernel
theorem dX0_lastRankOfGroup_53 : decode cX0_lastRankOfGroup 53 = .ok (.iconst 1, 1) := by decide +kernel
theorem dX0_lastRankOfGroup_54 : decode cX0_lastRankOfGroup 54 = .ok (.isub, 1) := by decide +kernel
theorem dX0_lastRankOfGroup_55 : decode cX0_lastRankOfGroup 55 = .ok (.ireturn, 1) := by decide +kernel
set_option maxRecDepth 20000 in
theorem ggX0_widthOf_X3_at : GoodIn wsX0_widthOf wsX3_at := goodIn_r _ [6, 7, 10] (by decide +kernel) (by decide +kernel)
set_option maxRecDepth 20000 in
theorem gX0_widthOf_X3_at : GoodIn wsX0_widthOf (wsV RX0 55 RX3 yX3_at wsX3_at) := goodIn_app (goodIn_of _ (by decide +kernel)) ggX0_widthOf_X3_at
theorem dX0_widthOf_0 : decode cX0_widthOf 0 = .ok (.aload_n 0, 1) := by decide +kernel
theorem dX0_widthOf_1 : decode cX0_widthOf 1 = .ok (.getfield 20, 3) := by decide +kernel
theorem dX0_widthOf_4 : decode cX0_widthOf 4 = .ok (.iload_n 1, 1) := by decide +kernel
theorem dX0_widthOf_5 : decode cX0_widthOf 5 = .ok (.invokevirtual 55, 3) := by decide +kernel
theorem dX0_widthOf_8 : decode cX0_widthOf 8 = .ok (.ireturn, 1) := by decide +kernel
set_option maxRecDepth 20000 in
theorem ggX0_namesUnder_X1_size : GoodIn wsX0_namesUnder wsX1_size := goodIn_r _ [7, 8, 22, 23, 24, 25, 26] (by decide +kernel) (by decide +kernel)
set_option maxRecDepth 20000 in
theorem gX0_namesUnder_X1_size : GoodIn wsX0_namesUnder (wsV RX0 24 RX1 yX1_size wsX1_size) := goodIn_app (goodIn_of _ (by decide +kernel)) ggX0_namesUnder_X1_size
set_option maxRecDepth 20000 in
theorem ggX0_namesUnder_X3_at : GoodIn wsX0_namesUnder wsX3_at := goodIn_r _ [13, 14, 27] (by decide +kernel) (by decide +kernel)
set_option maxRecDepth 20000 in
theorem gX0_namesUnder_X3_at : GoodIn wsX0_namesUnder (wsV RX0 55 RX3 yX3_at wsX3_at) := goodIn_app (goodIn_of _ (by decide +kernel)) ggX0_namesUnder_X3_at
set_option maxRecDepth 20000 in
theorem ggX0_namesUnder_X1_nameOf : GoodIn wsX0_namesUnder wsX1_nameOf := goodIn_r _ [18, 19, 22, 23, 24, 25, 26] (by decide +kernel) (by decide +kernel)
set_option maxRecDepth 20000 in
theorem gX0_namesUnder_X1_nameOf : GoodIn wsX0_namesUnder (wsV RX0 58 RX1 yX1_nameOf wsX1_nameOf) := goodIn_app (goodIn_of _ (by decide +kernel)) ggX0_namesUnder_X1_nameOf
theorem dX0_namesUnder_0 : decode cX0_namesUnder 0 = .ok (.iconst 0, 1) := by decide +kernel
theorem dX0_namesUnder_1 : decode cX0_namesUnder 1 = .ok (.istore_n 2, 1) := by decide +kernel
theorem dX0_namesUnder_2 : decode cX0_namesUnder 2 = .ok (.iconst 0, 1) := by decide +kernel
theorem dX0_namesUnder_3 : decode cX0_namesUnder 3 = .ok (.istore_n 3, 1) := by decide +kernel
theorem dX0_namesUnder_4 : decode cX0_namesUnder 4 = .ok (.iload_n 3, 1) := by decide +kernel
theorem dX0_namesUnder_5 : decode cX0_namesUnder 5 = .ok (.aload_n 0, 1) := by decide +kernel
theorem dX0_namesUnder_6 : decode cX0_namesUnder 6 = .ok (.getfield 9, 3) := by decide +kernel
theorem dX0_namesUnder_9 : decode cX0_namesUnder 9 = .ok (.invokevirtual 24, 3) := by decide +kernel
theorem dX0_namesUnder_12 : decode cX0_namesUnder 12 = .ok (.if_icmp .ge 34, 3) := by decide +kernel
theorem dX0_namesUnder_15 : decode cX0_namesUnder 15 = .ok (.aload_n 0, 1) := by decide +kernel
theorem dX0_namesUnder_16 : decode cX0_namesUnder 16 = .ok (.getfield 20, 3) := by decide +kernel
theorem dX0_namesUnder_19 : decode cX0_namesUnder 19 = .ok (.iload_n 3, 1) := by decide +kernel
theorem dX0_namesUnder_20 : decode cX0_namesUnder 20 = .ok (.invokevirtual 55, 3) := by decide +kernel
theorem dX0_namesUnder_23 : decode cX0_namesUnder 23 = .ok (.iload_n 1, 1) := by decide +kernel
theorem dX0_namesUnder_24 : decode cX0_namesUnder 24 = .ok (.if_icmp .ne 16, 3) := by decide +kernel
theorem dX0_namesUnder_27 : decode cX0_namesUnder 27 = .ok (.iload_n 2, 1) := by decide +kernel
theorem dX0_namesUnder_28 : decode cX0_namesUnder 28 = .ok (.iconst 1, 1) := by decide +kernel
theorem dX0_namesUnder_29 : decode cX0_namesUnder 29 = .ok (.aload_n 0, 1) := by decide +kernel
theorem dX0_namesUnder_30 : decode cX0_namesUnder 30 = .ok (.getfield 9, 3) := by decide +kernel
theorem dX0_namesUnder_33 : decode cX0_namesUnder 33 = .ok (.iload_n 3, 1) := by decide +kernel
theorem dX0_namesUnder_34 : decode cX0_namesUnder 34 = .ok (.invokevirtual 58, 3) := by decide +kernel
theorem dX0_namesUnder_37 : decode cX0_namesUnder 37 = .ok (.ishl, 1) := by decide +kernel
theorem dX0_namesUnder_38 : decode cX0_namesUnder 38 = .ok (.ior, 1) := by decide +kernel
theorem dX0_namesUnder_39 : decode cX0_namesUnder 39 = .ok (.istore_n 2, 1) := by decide +kernel
theorem dX0_namesUnder_40 : decode cX0_namesUnder 40 = .ok (.iinc 3 1, 3) := by decide +kernel
theorem dX0_namesUnder_43 : decode cX0_namesUnder 43 = .ok (.goto (-39), 3) := by decide +kernel
theorem dX0_namesUnder_46 : decode cX0_namesUnder 46 = .ok (.iload_n 2, 1) := by decide +kernel
theorem dX0_namesUnder_47 : decode cX0_namesUnder 47 = .ok (.ireturn, 1) := by decide +kernel
set_option maxRecDepth 20000 in
theorem ggX1_init_X3_init : GoodIn wsX1_init wsX3_init := goodIn_r _ [14, 15, 2, 3, 16, 17, 18, 19, 20, 21, 22] (by decide +kernel) (by decide +kernel)
set_option maxRecDepth 20000 in
theorem gX1_init_X3_init : GoodIn wsX1_init (wsX3_init) := ggX1_init_X3_init
theorem dX1_init_0 : decode cX1_init 0 = .ok (.aload_n 0, 1) := by decide +kernel
theorem dX1_init_1 : decode cX1_init 1 = .ok (.invokespecial 3, 3) := by decide +kernel
theorem dX1_init_4 : decode cX1_init 4 = .ok (.aload_n 0, 1) := by decide +kernel
theorem dX1_init_5 : decode cX1_init 5 = .ok (.new 9, 3) := by decide +kernel
theorem dX1_init_8 : decode cX1_init 8 = .ok (.dup, 1) := by decide +kernel
theorem dX1_init_9 : decode cX1_init 9 = .ok (.bipush 40, 2) := by decide +kernel
theorem dX1_init_11 : decode cX1_init 11 = .ok (.invokespecial 11, 3) := by decide +kernel
theorem dX1_init_14 : decode cX1_init 14 = .ok (.putfield 14, 3) := by decide +kernel
theorem dX1_init_17 : decode cX1_init 17 = .ok (.aload_n 0, 1) := by decide +kernel
theorem dX1_init_18 : decode cX1_init 18 = .ok (.new 9, 3) := by decide +kernel
theorem dX1_init_21 : decode cX1_init 21 = .ok (.dup, 1) := by decide +kernel
theorem dX1_init_22 : decode cX1_init 22 = .ok (.bipush 40, 2) := by decide +kernel
theorem dX1_init_24 : decode cX1_init 24 = .ok (.invokespecial 11, 3) := by decide +kernel
theorem dX1_init_27 : decode cX1_init 27 = .ok (.putfield 20, 3) := by decide +kernel
theorem dX1_init_30 : decode cX1_init 30 = .ok (.aload_n 0, 1) := by decide +kernel
theorem dX1_init_31 : decode cX1_init 31 = .ok (.new 9, 3) := by decide +kernel
theorem dX1_init_34 : decode cX1_init 34 = .ok (.dup, 1) := by decide +kernel
theorem dX1_init_35 : decode cX1_init 35 = .ok (.bipush 40, 2) := by decide +kernel
theorem dX1_init_37 : decode cX1_init 37 = .ok (.invokespecial 11, 3) := by decide +kernel
theorem dX1_init_40 : decode cX1_init 40 = .ok (.putfield 23, 3) := by decide +kernel
theorem dX1_init_43 : decode cX1_init 43 = .ok (.aload_n 0, 1) := by decide +kernel
theorem dX1_init_44 : decode cX1_init 44 = .ok (.iconst 1, 1) := by decide +kernel
theorem dX1_init_45 : decode cX1_init 45 = .ok (.putfield 26, 3) := by decide +kernel
theorem dX1_init_48 : decode cX1_init 48 = .ok (.aload_n 0, 1) := by decide +kernel
theorem dX1_init_49 : decode cX1_init 49 = .ok (.iconst 0, 1) := by decide +kernel
theorem dX1_init_50 : decode cX1_init 50 = .ok (.putfield 30, 3) := by decide +kernel
theorem dX1_init_53 : decode cX1_init 53 = .ok (.return_, 1) := by decide +kernel
theorem dX1_size_0 : decode cX1_size 0 = .ok (.aload_n 0, 1) := by decide +kernel
theorem dX1_size_1 : decode cX1_size 1 = .ok (.getfield 30, 3) := by decide +kernel
theorem dX1_size_4 : decode cX1_size 4 = .ok (.ireturn, 1) := by decide +kernel
theorem dX1_nameOf_0 : decode cX1_nameOf 0 = .ok (.aload_n 0, 1) := by decide +kernel
theorem dX1_nameOf_1 : decode cX1_nameOf 1 = .ok (.getfield 26, 3) := by decide +kernel
theorem dX1_nameOf_4 : decode cX1_nameOf 4 = .ok (.iconst 1, 1) := by decide +kernel
theorem dX1_nameOf_5 : decode cX1_nameOf 5 = .ok (.if_icmp .ge 7, 3) := by decide +kernel
theorem dX1_nameOf_8 : decode cX1_nameOf 8 = .ok (.iconst 0, 1) := by decide +kernel
theorem dX1_nameOf_9 : decode cX1_nameOf 9 = .ok (.goto 9, 3) := by decide +kernel
theorem dX1_nameOf_12 : decode cX1_nameOf 12 = .ok (.iload_n 1, 1) := by decide +kernel
theorem dX1_nameOf_13 : decode cX1_nameOf 13 = .ok (.aload_n 0, 1) := by decide +kernel
theorem dX1_nameOf_14 : decode cX1_nameOf 14 = .ok (.getfield 26, 3) := by decide +kernel
theorem dX1_nameOf_17 : decode cX1_nameOf 17 = .ok (.idiv, 1) := by decide +kernel
theorem dX1_nameOf_18 : decode cX1_nameOf 18 = .ok (.ireturn, 1) := by decide +kernel
theorem dX1_endingOf_0 : decode cX1_endingOf 0 = .ok (.aload_n 0, 1) := by decide +kernel
theorem dX1_endingOf_1 : decode cX1_endingOf 1 = .ok (.getfield 26, 3) := by decide +kernel
theorem dX1_endingOf_4 : decode cX1_endingOf 4 = .ok (.iconst 1, 1) := by decide +kernel
theorem dX1_endingOf_5 : decode cX1_endingOf 5 = .ok (.if_icmp .ge 7, 3) := by decide +kernel
theorem dX1_endingOf_8 : decode cX1_endingOf 8 = .ok (.iconst (-1), 1) := by decide +kernel
theorem dX1_endingOf_9 : decode cX1_endingOf 9 = .ok (.goto 11, 3) := by decide +kernel
theorem dX1_endingOf_12 : decode cX1_endingOf 12 = .ok (.iload_n 1, 1) := by decide +kernel
theorem dX1_endingOf_13 : decode cX1_endingOf 13 = .ok (.aload_n 0, 1) := by decide +kernel
theorem dX1_endingOf_14 : decode cX1_endingOf 14 = .ok (.getfield 26, 3) := by decide +kernel
theorem dX1_endingOf_17 : decode cX1_endingOf 17 = .ok (.irem, 1) := by decide +kernel
theorem dX1_endingOf_18 : decode cX1_endingOf 18 = .ok (.iconst 1, 1) := by decide +kernel
theorem dX1_endingOf_19 : decode cX1_endingOf 19 = .ok (.isub, 1) := by decide +kernel
theorem dX1_endingOf_20 : decode cX1_endingOf 20 = .ok (.ireturn, 1) := by decide +kernel
set_option maxRecDepth 20000 in
theorem ggX1_widthOf_X3_at : GoodIn wsX1_widthOf wsX3_at := goodIn_r _ [6, 7, 13] (by decide +kernel) (by decide +kernel)
set_option maxRecDepth 20000 in
theorem gX1_widthOf_X3_at : GoodIn wsX1_widthOf (wsV RX1 33 RX3 yX3_at wsX3_at) := goodIn_app (goodIn_of _ (by decide +kernel)) ggX1_widthOf_X3_at
theorem dX1_widthOf_0 : decode cX1_widthOf 0 = .ok (.aload_n 0, 1) := by decide +kernel
theorem dX1_widthOf_1 : decode cX1_widthOf 1 = .ok (.getfield 14, 3) := by decide +kernel
theorem dX1_widthOf_4 : decode cX1_widthOf 4 = .ok (.iload_n 1, 1) := by decide +kernel
theorem dX1_widthOf_5 : decode cX1_widthOf 5 = .ok (.invokevirtual 33, 3) := by decide +kernel
theorem dX1_widthOf_8 : decode cX1_widthOf 8 = .ok (.ireturn, 1) := by decide +kernel
set_option maxRecDepth 20000 in
theorem ggX1_rankOf_X3_at : GoodIn wsX1_rankOf wsX3_at := goodIn_r _ [6, 7, 13] (by decide +kernel) (by decide +kernel)
set_option maxRecDepth 20000 in
theorem gX1_rankOf_X3_at : GoodIn wsX1_rankOf (wsV RX1 33 RX3 yX3_at wsX3_at) := goodIn_app (goodIn_of _ (by decide +kernel)) ggX1_rankOf_X3_at
theorem dX1_rankOf_0 : decode cX1_rankOf 0 = .ok (.aload_n 0, 1) := by decide +kernel
theorem dX1_rankOf_1 : decode cX1_rankOf 1 = .ok (.getfield 20, 3) := by decide +kernel
theorem dX1_rankOf_4 : decode cX1_rankOf 4 = .ok (.iload_n 1, 1) := by decide +kernel
theorem dX1_rankOf_5 : decode cX1_rankOf 5 = .ok (.invokevirtual 33, 3) := by decide +kernel
theorem dX1_rankOf_8 : decode cX1_rankOf 8 = .ok (.ireturn, 1) := by decide +kernel
set_option maxRecDepth 20000 in
theorem ggX1_widthAtRank_X3_at : GoodIn wsX1_widthAtRank wsX3_at := goodIn_r _ [6, 7, 13] (by decide +kernel) (by decide +kernel)
set_option maxRecDepth 20000 in
theorem gX1_widthAtRank_X3_at : GoodIn wsX1_widthAtRank (wsV RX1 33 RX3 yX3_at wsX3_at) := goodIn_app (goodIn_of _ (by decide +kernel)) ggX1_widthAtRank_X3_at
theorem dX1_widthAtRank_0 : decode cX1_widthAtRank 0 = .ok (.aload_n 0, 1) := by decide +kernel
theorem dX1_widthAtRank_1 : decode cX1_widthAtRank 1 = .ok (.getfield 23, 3) := by decide +kernel
theorem dX1_widthAtRank_4 : decode cX1_widthAtRank 4 = .ok (.iload_n 1, 1) := by decide +kernel
theorem dX1_widthAtRank_5 : decode cX1_widthAtRank 5 = .ok (.invokevirtual 33, 3) := by decide +kernel
theorem dX1_widthAtRank_8 : decode cX1_widthAtRank 8 = .ok (.ireturn, 1) := by decide +kernel
set_option maxRecDepth 20000 in
theorem ggX1_measure_X7_size : GoodIn wsX1_measure wsX7_size := goodIn_r _ [10, 11, 61, 62, 63, 64, 65] (by decide +kernel) (by decide +kernel)
set_option maxRecDepth 20000 in
theorem gX1_measure_X7_size : GoodIn wsX1_measure (wsV RX1 43 RX7 yX7_size wsX7_size) := goodIn_app (goodIn_of _ (by decide +kernel)) ggX1_measure_X7_size
set_option maxRecDepth 20000 in
theorem ggX1_measure_X1_nameOf : GoodIn wsX1_measure wsX1_nameOf := goodIn_r _ [16, 1, 56, 57, 58, 59, 60] (by decide +kernel) (by decide +kernel)
set_option maxRecDepth 20000 in
theorem gX1_measure_X1_nameOf : GoodIn wsX1_measure (wsV RX1 51 RX1 yX1_nameOf wsX1_nameOf) := goodIn_app (goodIn_of _ (by decide +kernel)) ggX1_measure_X1_nameOf
set_option maxRecDepth 20000 in
theorem ggX1_measure_X1_endingOf : GoodIn wsX1_measure wsX1_endingOf := goodIn_r _ [20, 1, 56, 57, 58, 59, 60] (by decide +kernel) (by decide +kernel)
set_option maxRecDepth 20000 in
theorem gX1_measure_X1_endingOf : GoodIn wsX1_measure (wsV RX1 54 RX1 yX1_endingOf wsX1_endingOf) := goodIn_app (goodIn_of _ (by decide +kernel)) ggX1_measure_X1_endingOf
set_option maxRecDepth 20000 in
theorem ggX1_measure_X5_widthOfForm : GoodIn wsX1_measure wsX5_widthOfForm := goodIn_r _ [25, 26, 27, 28, 29, 30, 31, 9, 32, 33, 34, 35, 36, 37, 38, 39, 40, 41, 51, 52, 53, 54, 55, 61, 62, 63, 64, 65, 66] (by decide +kernel) (by decide +kernel)
set_option maxRecDepth 20000 in
theorem gX1_measure_X5_widthOfForm : GoodIn wsX1_measure (wsV RX1 57 RX5 yX5_widthOfForm wsX5_widthOfForm) := goodIn_app (goodIn_of _ (by decide +kernel)) ggX1_measure_X5_widthOfForm
set_option maxRecDepth 20000 in
theorem ggX1_measure_X3_put : GoodIn wsX1_measure wsX3_put := goodIn_r _ [45, 41, 66] (by decide +kernel) (by decide +kernel)
set_option maxRecDepth 20000 in
theorem gX1_measure_X3_put : GoodIn wsX1_measure (wsV RX1 61 RX3 yX3_put wsX3_put) := goodIn_app (goodIn_of _ (by decide +kernel)) ggX1_measure_X3_put
set_option maxRecDepth 20000 in
theorem ggX1_measure_X1_formsAheadOf : GoodIn wsX1_measure wsX1_formsAheadOf := goodIn_r _ [49, 3, 2, 50, 37, 38, 39, 40, 41, 56, 57, 58, 59, 60, 66] (by decide +kernel) (by decide +kernel)
set_option maxRecDepth 20000 in
theorem gX1_measure_X1_formsAheadOf : GoodIn wsX1_measure (wsV RX1 65 RX1 yX1_formsAheadOf wsX1_formsAheadOf) := goodIn_app (goodIn_of _ (by decide +kernel)) ggX1_measure_X1_formsAheadOf
set_option maxRecDepth 20000 in
theorem ggX1_measure_X3_at : GoodIn wsX1_measure wsX3_at := goodIn_r _ [40, 41, 66] (by decide +kernel) (by decide +kernel)
set_option maxRecDepth 20000 in
theorem gX1_measure_X3_at : GoodIn wsX1_measure (wsV RX1 33 RX3 yX3_at wsX3_at) := goodIn_app (goodIn_of _ (by decide +kernel)) ggX1_measure_X3_at
theorem dX1_measure_0 : decode cX1_measure 0 = .ok (.aload_n 0, 1) := by decide +kernel
theorem dX1_measure_1 : decode cX1_measure 1 = .ok (.aload_n 1, 1) := by decide +kernel
theorem dX1_measure_2 : decode cX1_measure 2 = .ok (.getfield 37, 3) := by decide +kernel
theorem dX1_measure_5 : decode cX1_measure 5 = .ok (.invokevirtual 43, 3) := by decide +kernel
theorem dX1_measure_8 : decode cX1_measure 8 = .ok (.iconst 1, 1) := by decide +kernel
theorem dX1_measure_9 : decode cX1_measure 9 = .ok (.iadd, 1) := by decide +kernel
theorem dX1_measure_10 : decode cX1_measure 10 = .ok (.putfield 26, 3) := by decide +kernel
theorem dX1_measure_13 : decode cX1_measure 13 = .ok (.aload_n 0, 1) := by decide +kernel
theorem dX1_measure_14 : decode cX1_measure 14 = .ok (.aload_n 1, 1) := by decide +kernel
theorem dX1_measure_15 : decode cX1_measure 15 = .ok (.getfield 48, 3) := by decide +kernel
theorem dX1_measure_18 : decode cX1_measure 18 = .ok (.invokevirtual 43, 3) := by decide +kernel
theorem dX1_measure_21 : decode cX1_measure 21 = .ok (.aload_n 0, 1) := by decide +kernel
theorem dX1_measure_22 : decode cX1_measure 22 = .ok (.getfield 26, 3) := by decide +kernel
theorem dX1_measure_25 : decode cX1_measure 25 = .ok (.imul, 1) := by decide +kernel
theorem dX1_measure_26 : decode cX1_measure 26 = .ok (.putfield 30, 3) := by decide +kernel
theorem dX1_measure_29 : decode cX1_measure 29 = .ok (.iconst 0, 1) := by decide +kernel
theorem dX1_measure_30 : decode cX1_measure 30 = .ok (.istore_n 2, 1) := by decide +kernel
theorem dX1_measure_31 : decode cX1_measure 31 = .ok (.iload_n 2, 1) := by decide +kernel
theorem dX1_measure_32 : decode cX1_measure 32 = .ok (.aload_n 0, 1) := by decide +kernel
theorem dX1_measure_33 : decode cX1_measure 33 = .ok (.getfield 30, 3) := by decide +kernel
theorem dX1_measure_36 : decode cX1_measure 36 = .ok (.if_icmp .ge 31, 3) := by decide +kernel
theorem dX1_measure_39 : decode cX1_measure 39 = .ok (.aload_n 0, 1) := by decide +kernel
theorem dX1_measure_40 : decode cX1_measure 40 = .ok (.getfield 14, 3) := by decide +kernel
theorem dX1_measure_43 : decode cX1_measure 43 = .ok (.iload_n 2, 1) := by decide +kernel
theorem dX1_measure_44 : decode cX1_measure 44 = .ok (.aload_n 1, 1) := by decide +kernel
theorem dX1_measure_45 : decode cX1_measure 45 = .ok (.aload_n 0, 1) := by decide +kernel
theorem dX1_measure_46 : decode cX1_measure 46 = .ok (.iload_n 2, 1) := by decide +kernel
theorem dX1_measure_47 : decode cX1_measure 47 = .ok (.invokevirtual 51, 3) := by decide +kernel
theorem dX1_measure_50 : decode cX1_measure 50 = .ok (.aload_n 0, 1) := by decide +kernel
theorem dX1_measure_51 : decode cX1_measure 51 = .ok (.iload_n 2, 1) := by decide +kernel
theorem dX1_measure_52 : decode cX1_measure 52 = .ok (.invokevirtual 54, 3) := by decide +kernel
theorem dX1_measure_55 : decode cX1_measure 55 = .ok (.invokevirtual 57, 3) := by decide +kernel
theorem dX1_measure_58 : decode cX1_measure 58 = .ok (.invokevirtual 61, 3) := by decide +kernel
theorem dX1_measure_61 : decode cX1_measure 61 = .ok (.iinc 2 1, 3) := by decide +kernel
theorem dX1_measure_64 : decode cX1_measure 64 = .ok (.goto (-33), 3) := by decide +kernel
theorem dX1_measure_67 : decode cX1_measure 67 = .ok (.iconst 0, 1) := by decide +kernel
theorem dX1_measure_68 : decode cX1_measure 68 = .ok (.istore_n 2, 1) := by decide +kernel
theorem dX1_measure_69 : decode cX1_measure 69 = .ok (.iload_n 2, 1) := by decide +kernel
theorem dX1_measure_70 : decode cX1_measure 70 = .ok (.aload_n 0, 1) := by decide +kernel
theorem dX1_measure_71 : decode cX1_measure 71 = .ok (.getfield 30, 3) := by decide +kernel
