set_option maxRecDepth 20000 in
theorem ggX0_init_X3_init : GoodIn wsX0_init wsX3_init := goodIn_r _ [11, 12, 2, 3, 13, 14, 15, 16, 17, 18, 21] (by decide +kernel) (by decide +kernel)
set_option maxRecDepth 20000 in
theorem gX0_init_X3_init : GoodIn wsX0_init (wsX3_init) := ggX0_init_X3_init
theorem dX0_init_0 : decode cX0_init 0 = .ok (.aload_n 0, 1) := by decide +kernel
theorem dX0_init_1 : decode cX0_init 1 = .ok (.invokespecial 3, 3) := by decide +kernel
theorem dX0_init_4 : decode cX0_init 4 = .ok (.aload_n 0, 1) := by decide +kernel
theorem dX0_init_5 : decode cX0_init 5 = .ok (.aload_n 1, 1) := by decide +kernel
theorem dX0_init_6 : decode cX0_init 6 = .ok (.putfield 9, 3) := by decide +kernel
theorem dX0_init_9 : decode cX0_init 9 = .ok (.aload_n 0, 1) := by decide +kernel
theorem dX0_init_10 : decode cX0_init 10 = .ok (.new 15, 3) := by decide +kernel
theorem dX0_init_13 : decode cX0_init 13 = .ok (.dup, 1) := by decide +kernel
theorem dX0_init_14 : decode cX0_init 14 = .ok (.bipush 40, 2) := by decide +kernel
theorem dX0_init_16 : decode cX0_init 16 = .ok (.invokespecial 17, 3) := by decide +kernel
theorem dX0_init_19 : decode cX0_init 19 = .ok (.putfield 20, 3) := by decide +kernel
theorem dX0_init_22 : decode cX0_init 22 = .ok (.return_, 1) := by decide +kernel
set_option maxRecDepth 20000 in
theorem ggX0_draw_X1_size : GoodIn wsX0_draw wsX1_size := goodIn_r _ [7, 8, 48, 49, 50, 51, 52] (by decide +kernel) (by decide +kernel)
set_option maxRecDepth 20000 in
theorem gX0_draw_X1_size : GoodIn wsX0_draw (wsV RX0 24 RX1 yX1_size wsX1_size) := goodIn_app (goodIn_of _ (by decide +kernel)) ggX0_draw_X1_size
set_option maxRecDepth 20000 in
theorem ggX0_draw_X0_barWidth : GoodIn wsX0_draw wsX0_barWidth := goodIn_r _ [13, 1, 14, 15, 16, 6, 17, 18, 19, 20, 21, 22, 23, 24, 25, 26, 12, 27, 28, 29, 30, 31, 32, 33, 34, 35, 36, 3, 4, 5, 7, 8, 37, 38, 39, 40, 41, 46, 47, 48, 49, 50, 51, 52, 53] (by decide +kernel) (by decide +kernel)
set_option maxRecDepth 20000 in
theorem gX0_draw_X0_barWidth : GoodIn wsX0_draw (wsV RX0 30 RX0 yX0_barWidth wsX0_barWidth) := goodIn_app (goodIn_of _ (by decide +kernel)) ggX0_draw_X0_barWidth
set_option maxRecDepth 20000 in
theorem ggX0_draw_X3_put : GoodIn wsX0_draw wsX3_put := goodIn_r _ [45, 24, 53] (by decide +kernel) (by decide +kernel)
set_option maxRecDepth 20000 in
theorem gX0_draw_X3_put : GoodIn wsX0_draw (wsV RX0 34 RX3 yX3_put wsX3_put) := goodIn_app (goodIn_of _ (by decide +kernel)) ggX0_draw_X3_put
theorem dX0_draw_0 : decode cX0_draw 0 = .ok (.iconst 0, 1) := by decide +kernel
theorem dX0_draw_1 : decode cX0_draw 1 = .ok (.istore 4, 2) := by decide +kernel
theorem dX0_draw_3 : decode cX0_draw 3 = .ok (.iload 4, 2) := by decide +kernel
theorem dX0_draw_5 : decode cX0_draw 5 = .ok (.aload_n 0, 1) := by decide +kernel
theorem dX0_draw_6 : decode cX0_draw 6 = .ok (.getfield 9, 3) := by decide +kernel
theorem dX0_draw_9 : decode cX0_draw 9 = .ok (.invokevirtual 24, 3) := by decide +kernel
theorem dX0_draw_12 : decode cX0_draw 12 = .ok (.if_icmp .ge 27, 3) := by decide +kernel
theorem dX0_draw_15 : decode cX0_draw 15 = .ok (.aload_n 0, 1) := by decide +kernel
theorem dX0_draw_16 : decode cX0_draw 16 = .ok (.getfield 20, 3) := by decide +kernel
theorem dX0_draw_19 : decode cX0_draw 19 = .ok (.iload 4, 2) := by decide +kernel
theorem dX0_draw_21 : decode cX0_draw 21 = .ok (.aload_n 0, 1) := by decide +kernel
theorem dX0_draw_22 : decode cX0_draw 22 = .ok (.iload 4, 2) := by decide +kernel
theorem dX0_draw_24 : decode cX0_draw 24 = .ok (.iload_n 1, 1) := by decide +kernel
theorem dX0_draw_25 : decode cX0_draw 25 = .ok (.iload_n 2, 1) := by decide +kernel
theorem dX0_draw_26 : decode cX0_draw 26 = .ok (.iload_n 3, 1) := by decide +kernel
theorem dX0_draw_27 : decode cX0_draw 27 = .ok (.invokevirtual 30, 3) := by decide +kernel
theorem dX0_draw_30 : decode cX0_draw 30 = .ok (.invokevirtual 34, 3) := by decide +kernel
theorem dX0_draw_33 : decode cX0_draw 33 = .ok (.iinc 4 1, 3) := by decide +kernel
theorem dX0_draw_36 : decode cX0_draw 36 = .ok (.goto (-33), 3) := by decide +kernel
theorem dX0_draw_39 : decode cX0_draw 39 = .ok (.return_, 1) := by decide +kernel
set_option maxRecDepth 20000 in
theorem ggX0_barWidth_X1_widthOf : GoodIn wsX0_barWidth wsX1_widthOf := goodIn_r _ [6, 7, 8, 9, 10, 11, 12, 13, 39, 40, 41, 42, 43, 44] (by decide +kernel) (by decide +kernel)
set_option maxRecDepth 20000 in
theorem gX0_barWidth_X1_widthOf : GoodIn wsX0_barWidth (wsV RX0 38 RX1 yX1_widthOf wsX1_widthOf) := goodIn_app (goodIn_of _ (by decide +kernel)) ggX0_barWidth_X1_widthOf
set_option maxRecDepth 20000 in
theorem ggX0_barWidth_X0_upToMultiple : GoodIn wsX0_barWidth wsX0_upToMultiple := goodIn_r _ [17] (by decide +kernel) (by decide +kernel)
set_option maxRecDepth 20000 in
theorem gX0_barWidth_X0_upToMultiple : GoodIn wsX0_barWidth (va_wsS RX0 42 yX0_upToMultiple wsX0_upToMultiple) := goodIn_app (goodIn_of _ (by decide +kernel)) ggX0_barWidth_X0_upToMultiple
set_option maxRecDepth 20000 in
theorem ggX0_barWidth_X1_rankOf : GoodIn wsX0_barWidth wsX1_rankOf := goodIn_r _ [21, 22, 8, 9, 10, 11, 12, 13, 39, 40, 41, 42, 43, 44] (by decide +kernel) (by decide +kernel)
set_option maxRecDepth 20000 in
theorem gX0_barWidth_X1_rankOf : GoodIn wsX0_barWidth (wsV RX0 46 RX1 yX1_rankOf wsX1_rankOf) := goodIn_app (goodIn_of _ (by decide +kernel)) ggX0_barWidth_X1_rankOf
set_option maxRecDepth 20000 in
theorem ggX0_barWidth_X0_lastRankOfGroup : GoodIn wsX0_barWidth wsX0_lastRankOfGroup := goodIn_r _ [26, 1, 27, 28, 29, 5, 30, 31, 37, 38, 39, 40, 41, 42, 43] (by decide +kernel) (by decide +kernel)
set_option maxRecDepth 20000 in
theorem gX0_barWidth_X0_lastRankOfGroup : GoodIn wsX0_barWidth (wsV RX0 49 RX0 yX0_lastRankOfGroup wsX0_lastRankOfGroup) := goodIn_app (goodIn_of _ (by decide +kernel)) ggX0_barWidth_X0_lastRankOfGroup
set_option maxRecDepth 20000 in
theorem ggX0_barWidth_X1_widthAtRank : GoodIn wsX0_barWidth wsX1_widthAtRank := goodIn_r _ [35, 36, 8, 9, 10, 11, 12, 13, 39, 40, 41, 42, 43, 44] (by decide +kernel) (by decide +kernel)
set_option maxRecDepth 20000 in
theorem gX0_barWidth_X1_widthAtRank : GoodIn wsX0_barWidth (wsV RX0 52 RX1 yX1_widthAtRank wsX1_widthAtRank) := goodIn_app (goodIn_of _ (by decide +kernel)) ggX0_barWidth_X1_widthAtRank
set_option maxRecDepth 20000 in
theorem ggX0_barWidth_X1_size : GoodIn wsX0_barWidth wsX1_size := goodIn_r _ [30, 31, 39, 40, 41, 42, 43] (by decide +kernel) (by decide +kernel)
set_option maxRecDepth 20000 in
theorem gX0_barWidth_X1_size : GoodIn wsX0_barWidth (wsV RX0 24 RX1 yX1_size wsX1_size) := goodIn_app (goodIn_of _ (by decide +kernel)) ggX0_barWidth_X1_size
theorem dX0_barWidth_0 : decode cX0_barWidth 0 = .ok (.iload_n 2, 1) := by decide +kernel
theorem dX0_barWidth_1 : decode cX0_barWidth 1 = .ok (.tableswitch 79 1 3 #[27, 40, 62], 27) := by decide +kernel
theorem dX0_barWidth_28 : decode cX0_barWidth 28 = .ok (.aload_n 0, 1) := by decide +kernel
theorem dX0_barWidth_29 : decode cX0_barWidth 29 = .ok (.getfield 9, 3) := by decide +kernel
theorem dX0_barWidth_32 : decode cX0_barWidth 32 = .ok (.iload_n 1, 1) := by decide +kernel
theorem dX0_barWidth_33 : decode cX0_barWidth 33 = .ok (.invokevirtual 38, 3) := by decide +kernel
theorem dX0_barWidth_36 : decode cX0_barWidth 36 = .ok (.iload_n 3, 1) := by decide +kernel
theorem dX0_barWidth_37 : decode cX0_barWidth 37 = .ok (.invokestatic 42, 3) := by decide +kernel
theorem dX0_barWidth_40 : decode cX0_barWidth 40 = .ok (.ireturn, 1) := by decide +kernel
theorem dX0_barWidth_41 : decode cX0_barWidth 41 = .ok (.aload_n 0, 1) := by decide +kernel
theorem dX0_barWidth_42 : decode cX0_barWidth 42 = .ok (.getfield 9, 3) := by decide +kernel
theorem dX0_barWidth_45 : decode cX0_barWidth 45 = .ok (.aload_n 0, 1) := by decide +kernel
theorem dX0_barWidth_46 : decode cX0_barWidth 46 = .ok (.aload_n 0, 1) := by decide +kernel
theorem dX0_barWidth_47 : decode cX0_barWidth 47 = .ok (.getfield 9, 3) := by decide +kernel
theorem dX0_barWidth_50 : decode cX0_barWidth 50 = .ok (.iload_n 1, 1) := by decide +kernel
theorem dX0_barWidth_51 : decode cX0_barWidth 51 = .ok (.invokevirtual 46, 3) := by decide +kernel
theorem dX0_barWidth_54 : decode cX0_barWidth 54 = .ok (.iload 4, 2) := by decide +kernel
theorem dX0_barWidth_56 : decode cX0_barWidth 56 = .ok (.invokevirtual 49, 3) := by decide +kernel
theorem dX0_barWidth_59 : decode cX0_barWidth 59 = .ok (.invokevirtual 52, 3) := by decide +kernel
theorem dX0_barWidth_62 : decode cX0_barWidth 62 = .ok (.ireturn, 1) := by decide +kernel
theorem dX0_barWidth_63 : decode cX0_barWidth 63 = .ok (.aload_n 0, 1) := by decide +kernel
theorem dX0_barWidth_64 : decode cX0_barWidth 64 = .ok (.getfield 9, 3) := by decide +kernel
theorem dX0_barWidth_67 : decode cX0_barWidth 67 = .ok (.aload_n 0, 1) := by decide +kernel
theorem dX0_barWidth_68 : decode cX0_barWidth 68 = .ok (.getfield 9, 3) := by decide +kernel
theorem dX0_barWidth_71 : decode cX0_barWidth 71 = .ok (.invokevirtual 24, 3) := by decide +kernel
theorem dX0_barWidth_74 : decode cX0_barWidth 74 = .ok (.iconst 1, 1) := by decide +kernel
theorem dX0_barWidth_75 : decode cX0_barWidth 75 = .ok (.isub, 1) := by decide +kernel
theorem dX0_barWidth_76 : decode cX0_barWidth 76 = .ok (.invokevirtual 52, 3) := by decide +kernel
theorem dX0_barWidth_79 : decode cX0_barWidth 79 = .ok (.ireturn, 1) := by decide +kernel
theorem dX0_barWidth_80 : decode cX0_barWidth 80 = .ok (.aload_n 0, 1) := by decide +kernel
theorem dX0_barWidth_81 : decode cX0_barWidth 81 = .ok (.getfield 9, 3) := by decide +kernel
theorem dX0_barWidth_84 : decode cX0_barWidth 84 = .ok (.iload_n 1, 1) := by decide +kernel
theorem dX0_barWidth_85 : decode cX0_barWidth 85 = .ok (.invokevirtual 38, 3) := by decide +kernel
theorem dX0_barWidth_88 : decode cX0_barWidth 88 = .ok (.ireturn, 1) := by decide +kernel
theorem dX0_upToMultiple_0 : decode cX0_upToMultiple 0 = .ok (.iload_n 1, 1) := by decide +kernel
theorem dX0_upToMultiple_1 : decode cX0_upToMultiple 1 = .ok (.iconst 1, 1) := by decide +kernel
theorem dX0_upToMultiple_2 : decode cX0_upToMultiple 2 = .ok (.if_icmp .ge 7, 3) := by decide +kernel
theorem dX0_upToMultiple_5 : decode cX0_upToMultiple 5 = .ok (.iload_n 0, 1) := by decide +kernel
theorem dX0_upToMultiple_6 : decode cX0_upToMultiple 6 = .ok (.goto 12, 3) := by decide +kernel
theorem dX0_upToMultiple_9 : decode cX0_upToMultiple 9 = .ok (.iload_n 0, 1) := by decide +kernel
theorem dX0_upToMultiple_10 : decode cX0_upToMultiple 10 = .ok (.iload_n 1, 1) := by decide +kernel
theorem dX0_upToMultiple_11 : decode cX0_upToMultiple 11 = .ok (.iadd, 1) := by decide +kernel
theorem dX0_upToMultiple_12 : decode cX0_upToMultiple 12 = .ok (.iconst 1, 1) := by decide +kernel
theorem dX0_upToMultiple_13 : decode cX0_upToMultiple 13 = .ok (.isub, 1) := by decide +kernel
theorem dX0_upToMultiple_14 : decode cX0_upToMultiple 14 = .ok (.iload_n 1, 1) := by decide +kernel
theorem dX0_upToMultiple_15 : decode cX0_upToMultiple 15 = .ok (.idiv, 1) := by decide +kernel
theorem dX0_upToMultiple_16 : decode cX0_upToMultiple 16 = .ok (.iload_n 1, 1) := by decide +kernel
theorem dX0_upToMultiple_17 : decode cX0_upToMultiple 17 = .ok (.imul, 1) := by decide +kernel
theorem dX0_upToMultiple_18 : decode cX0_upToMultiple 18 = .ok (.ireturn, 1) := by decide +kernel
set_option maxRecDepth 20000 in
theorem ggX0_lastRankOfGroup_X1_size : GoodIn wsX0_lastRankOfGroup wsX1_size := goodIn_r _ [6, 7, 10, 11, 12, 13, 14] (by decide +kernel) (by decide +kernel)
set_option maxRecDepth 20000 in
theorem gX0_lastRankOfGroup_X1_size : GoodIn wsX0_lastRankOfGroup (wsV RX0 24 RX1 yX1_size wsX1_size) := goodIn_app (goodIn_of _ (by decide +kernel)) ggX0_lastRankOfGroup_X1_size
theorem dX0_lastRankOfGroup_0 : decode cX0_lastRankOfGroup 0 = .ok (.iload_n 2, 1) := by decide +kernel
theorem dX0_lastRankOfGroup_1 : decode cX0_lastRankOfGroup 1 = .ok (.iconst 1, 1) := by decide +kernel
theorem dX0_lastRankOfGroup_2 : decode cX0_lastRankOfGroup 2 = .ok (.if_icmp .ge 5, 3) := by decide +kernel
theorem dX0_lastRankOfGroup_5 : decode cX0_lastRankOfGroup 5 = .ok (.iload_n 1, 1) := by decide +kernel
theorem dX0_lastRankOfGroup_6 : decode cX0_lastRankOfGroup 6 = .ok (.ireturn, 1) := by decide +kernel
theorem dX0_lastRankOfGroup_7 : decode cX0_lastRankOfGroup 7 = .ok (.iload_n 1, 1) := by decide +kernel
theorem dX0_lastRankOfGroup_8 : decode cX0_lastRankOfGroup 8 = .ok (.iload_n 2, 1) := by decide +kernel
theorem dX0_lastRankOfGroup_9 : decode cX0_lastRankOfGroup 9 = .ok (.idiv, 1) := by decide +kernel
theorem dX0_lastRankOfGroup_10 : decode cX0_lastRankOfGroup 10 = .ok (.iload_n 2, 1) := by decide +kernel
theorem dX0_lastRankOfGroup_11 : decode cX0_lastRankOfGroup 11 = .ok (.imul, 1) := by decide +kernel
theorem dX0_lastRankOfGroup_12 : decode cX0_lastRankOfGroup 12 = .ok (.iload_n 2, 1) := by decide +kernel
theorem dX0_lastRankOfGroup_13 : decode cX0_lastRankOfGroup 13 = .ok (.iadd, 1) := by decide +kernel
theorem dX0_lastRankOfGroup_14 : decode cX0_lastRankOfGroup 14 = .ok (.iconst 1, 1) := by decide +kernel
theorem dX0_lastRankOfGroup_15 : decode cX0_lastRankOfGroup 15 = .ok (.isub, 1) := by decide +kernel
theorem dX0_lastRankOfGroup_16 : decode cX0_lastRankOfGroup 16 = .ok (.istore_n 3, 1) := by decide +kernel
theorem dX0_lastRankOfGroup_17 : decode cX0_lastRankOfGroup 17 = .ok (.iload_n 3, 1) := by decide +kernel
theorem dX0_lastRankOfGroup_18 : decode cX0_lastRankOfGroup 18 = .ok (.iload_n 2, 1) := by decide +kernel
theorem dX0_lastRankOfGroup_19 : decode cX0_lastRankOfGroup 19 = .ok (.iadd, 1) := by decide +kernel
theorem dX0_lastRankOfGroup_20 : decode cX0_lastRankOfGroup 20 = .ok (.aload_n 0, 1) := by decide +kernel
theorem dX0_lastRankOfGroup_21 : decode cX0_lastRankOfGroup 21 = .ok (.getfield 9, 3) := by decide +kernel
theorem dX0_lastRankOfGroup_24 : decode cX0_lastRankOfGroup 24 = .ok (.invokevirtual 24, 3) := by decide +kernel
theorem dX0_lastRankOfGroup_27 : decode cX0_lastRankOfGroup 27 = .ok (.if_icmp .ge 7, 3) := by decide +kernel
theorem dX0_lastRankOfGroup_30 : decode cX0_lastRankOfGroup 30 = .ok (.iconst 1, 1) := by decide +kernel
theorem dX0_lastRankOfGroup_31 : decode cX0_lastRankOfGroup 31 = .ok (.goto 4, 3) := by decide +kernel
theorem dX0_lastRankOfGroup_34 : decode cX0_lastRankOfGroup 34 = .ok (.iconst 0, 1) := by decide +kernel
theorem dX0_lastRankOfGroup_35 : decode cX0_lastRankOfGroup 35 = .ok (.istore 4, 2) := by decide +kernel
theorem dX0_lastRankOfGroup_37 : decode cX0_lastRankOfGroup 37 = .ok (.iload 4, 2) := by decide +kernel
theorem dX0_lastRankOfGroup_39 : decode cX0_lastRankOfGroup 39 = .ok (.ifCond .eq 7, 3) := by decide +kernel
theorem dX0_lastRankOfGroup_42 : decode cX0_lastRankOfGroup 42 = .ok (.iload_n 3, 1) := by decide +kernel
theorem dX0_lastRankOfGroup_43 : decode cX0_lastRankOfGroup 43 = .ok (.goto 12, 3) := by decide +kernel
theorem dX0_lastRankOfGroup_46 : decode cX0_lastRankOfGroup 46 = .ok (.aload_n 0, 1) := by decide +kernel
theorem dX0_lastRankOfGroup_47 : decode cX0_lastRankOfGroup 47 = .ok (.getfield 9, 3) := by decide +kernel
theorem dX0_lastRankOfGroup_50 : decode cX0_lastRankOfGroup 50 = .ok (.invokevirtual 24, 3) := by decide +kernel
theorem dX0_lastRankOfGroup_53 : decode cX0_lastRankOfGroup 53 = .ok (.iconst 1, 1) := by decide +kernel
theorem dX0_lastRankOfGroup_54 : decode cX0_lastRankOfGroup 54 = .ok (.isub, 1) := by decide +kernel
theorem dX0_lastRankOfGroup_55 : decode cX0_lastRankOfGroup 55 = .ok (.ireturn, 1) := by decide +kernel
set_option maxRecDepth 20000 in
theorem ggX0_widthOf_X3_at : GoodIn wsX0_widthOf wsX3_at := goodIn_r _ [6, 7, 10] (by decide +kernel) (by decide +kernel)
set_option maxRecDepth 20000 in
theorem gX0_widthOf_X3_at : GoodIn wsX0_widthOf (wsV RX0 55 RX3 yX3_at wsX3_at) := goodIn_app (goodIn_of _ (by decide +kernel)) ggX0_widthOf_X3_at
theorem dX0_widthOf_0 : decode cX0_widthOf 0 = .ok (.aload_n 0, 1) := by decide +kernel
theorem dX0_widthOf_1 : decode cX0_widthOf 1 = .ok (.getfield 20, 3) := by decide +kernel
theorem dX0_widthOf_4 : decode cX0_widthOf 4 = .ok (.iload_n 1, 1) := by decide +kernel
theorem dX0_widthOf_5 : decode cX0_widthOf 5 = .ok (.invokevirtual 55, 3) := by decide +kernel
theorem dX0_widthOf_8 : decode cX0_widthOf 8 = .ok (.ireturn, 1) := by decide +kernel
set_option maxRecDepth 20000 in
theorem ggX0_namesUnder_X1_size : GoodIn wsX0_namesUnder wsX1_size := goodIn_r _ [7, 8, 22, 23, 24, 25, 26] (by decide +kernel) (by decide +kernel)
set_option maxRecDepth 20000 in
theorem gX0_namesUnder_X1_size : GoodIn wsX0_namesUnder (wsV RX0 24 RX1 yX1_size wsX1_size) := goodIn_app (goodIn_of _ (by decide +kernel)) ggX0_namesUnder_X1_size
set_option maxRecDepth 20000 in
theorem ggX0_namesUnder_X3_at : GoodIn wsX0_namesUnder wsX3_at := goodIn_r _ [13, 14, 27] (by decide +kernel) (by decide +kernel)
set_option maxRecDepth 20000 in
theorem gX0_namesUnder_X3_at : GoodIn wsX0_namesUnder (wsV RX0 55 RX3 yX3_at wsX3_at) := goodIn_app (goodIn_of _ (by decide +kernel)) ggX0_namesUnder_X3_at
set_option maxRecDepth 20000 in
theorem ggX0_namesUnder_X1_nameOf : GoodIn wsX0_namesUnder wsX1_nameOf := goodIn_r _ [18, 19, 22, 23, 24, 25, 26] (by decide +kernel) (by decide +kernel)
set_option maxRecDepth 20000 in
theorem gX0_namesUnder_X1_nameOf : GoodIn wsX0_namesUnder (wsV RX0 58 RX1 yX1_nameOf wsX1_nameOf) := goodIn_app (goodIn_of _ (by decide +kernel)) ggX0_namesUnder_X1_nameOf
theorem dX0_namesUnder_0 : decode cX0_namesUnder 0 = .ok (.iconst 0, 1) := by decide +kernel
theorem dX0_namesUnder_1 : decode cX0_namesUnder 1 = .ok (.istore_n 2, 1) := by decide +kernel
theorem dX0_namesUnder_2 : decode cX0_namesUnder 2 = .ok (.iconst 0, 1) := by decide +kernel
theorem dX0_namesUnder_3 : decode cX0_namesUnder 3 = .ok (.istore_n 3, 1) := by decide +kernel
theorem dX0_namesUnder_4 : decode cX0_namesUnder 4 = .ok (.iload_n 3, 1) := by decide +kernel
theorem dX0_namesUnder_5 : decode cX0_namesUnder 5 = .ok (.aload_n 0, 1) := by decide +kernel
theorem dX0_namesUnder_6 : decode cX0_namesUnder 6 = .ok (.getfield 9, 3) := by decide +kernel
theorem dX0_namesUnder_9 : decode cX0_namesUnder 9 = .ok (.invokevirtual 24, 3) := by decide +kernel
theorem dX0_namesUnder_12 : decode cX0_namesUnder 12 = .ok (.if_icmp .ge 34, 3) := by decide +kernel
theorem dX0_namesUnder_15 : decode cX0_namesUnder 15 = .ok (.aload_n 0, 1) := by decide +kernel
theorem dX0_namesUnder_16 : decode cX0_namesUnder 16 = .ok (.getfield 20, 3) := by decide +kernel
theorem dX0_namesUnder_19 : decode cX0_namesUnder 19 = .ok (.iload_n 3, 1) := by decide +kernel
theorem dX0_namesUnder_20 : decode cX0_namesUnder 20 = .ok (.invokevirtual 55, 3) := by decide +kernel
theorem dX0_namesUnder_23 : decode cX0_namesUnder 23 = .ok (.iload_n 1, 1) := by decide +kernel
theorem dX0_namesUnder_24 : decode cX0_namesUnder 24 = .ok (.if_icmp .ne 16, 3) := by decide +kernel
theorem dX0_namesUnder_27 : decode cX0_namesUnder 27 = .ok (.iload_n 2, 1) := by decide +kernel
theorem dX0_namesUnder_28 : decode cX0_namesUnder 28 = .ok (.iconst 1, 1) := by decide +kernel
theorem dX0_namesUnder_29 : decode cX0_namesUnder 29 = .ok (.aload_n 0, 1) := by decide +kernel
theorem dX0_namesUnder_30 : decode cX0_namesUnder 30 = .ok (.getfield 9, 3) := by decide +kernel
theorem dX0_namesUnder_33 : decode cX0_namesUnder 33 = .ok (.iload_n 3, 1) := by decide +kernel
theorem dX0_namesUnder_34 : decode cX0_namesUnder 34 = .ok (.invokevirtual 58, 3) := by decide +kernel
theorem dX0_namesUnder_37 : decode cX0_namesUnder 37 = .ok (.ishl, 1) := by decide +kernel
theorem dX0_namesUnder_38 : decode cX0_namesUnder 38 = .ok (.ior, 1) := by decide +kernel
theorem dX0_namesUnder_39 : decode cX0_namesUnder 39 = .ok (.istore_n 2, 1) := by decide +kernel
theorem dX0_namesUnder_40 : decode cX0_namesUnder 40 = .ok (.iinc 3 1, 3) := by decide +kernel
theorem dX0_namesUnder_43 : decode cX0_namesUnder 43 = .ok (.goto (-39), 3) := by decide +kernel
theorem dX0_namesUnder_46 : decode cX0_namesUnder 46 = .ok (.iload_n 2, 1) := by decide +kernel
theorem dX0_namesUnder_47 : decode cX0_namesUnder 47 = .ok (.ireturn, 1) := by decide +kernel
set_option maxRecDepth 20000 in
theorem ggX0_leastGap_X1_size : GoodIn wsX0_leastGap wsX1_size := goodIn_r _ [11, 12, 32, 33, 34, 35, 36] (by decide +kernel) (by decide +kernel)
set_option maxRecDepth 20000 in
theorem gX0_leastGap_X1_size : GoodIn wsX0_leastGap (wsV RX0 24 RX1 yX1_size wsX1_size) := goodIn_app (goodIn_of _ (by decide +kernel)) ggX0_leastGap_X1_size
set_option maxRecDepth 20000 in
theorem ggX0_leastGap_X1_nameOf : GoodIn wsX0_leastGap wsX1_nameOf := goodIn_r _ [16, 17, 32, 33, 34, 35, 36] (by decide +kernel) (by decide +kernel)
set_option maxRecDepth 20000 in
theorem gX0_leastGap_X1_nameOf : GoodIn wsX0_leastGap (wsV RX0 58 RX1 yX1_nameOf wsX1_nameOf) := goodIn_app (goodIn_of _ (by decide +kernel)) ggX0_leastGap_X1_nameOf
set_option maxRecDepth 20000 in
theorem ggX0_leastGap_X3_at : GoodIn wsX0_leastGap wsX3_at := goodIn_r _ [22, 23, 37] (by decide +kernel) (by decide +kernel)
set_option maxRecDepth 20000 in
theorem gX0_leastGap_X3_at : GoodIn wsX0_leastGap (wsV RX0 55 RX3 yX3_at wsX3_at) := goodIn_app (goodIn_of _ (by decide +kernel)) ggX0_leastGap_X3_at
set_option maxRecDepth 20000 in
theorem ggX0_leastGap_X1_widthOf : GoodIn wsX0_leastGap wsX1_widthOf := goodIn_r _ [27, 28, 29, 19, 20, 21, 22, 23, 32, 33, 34, 35, 36, 37] (by decide +kernel) (by decide +kernel)
set_option maxRecDepth 20000 in
theorem gX0_leastGap_X1_widthOf : GoodIn wsX0_leastGap (wsV RX0 38 RX1 yX1_widthOf wsX1_widthOf) := goodIn_app (goodIn_of _ (by decide +kernel)) ggX0_leastGap_X1_widthOf
theorem dX0_leastGap_0 : decode cX0_leastGap 0 = .ok (.iconst (-1), 1) := by decide +kernel
theorem dX0_leastGap_1 : decode cX0_leastGap 1 = .ok (.istore_n 3, 1) := by decide +kernel
theorem dX0_leastGap_2 : decode cX0_leastGap 2 = .ok (.iconst 0, 1) := by decide +kernel
theorem dX0_leastGap_3 : decode cX0_leastGap 3 = .ok (.istore 4, 2) := by decide +kernel
theorem dX0_leastGap_5 : decode cX0_leastGap 5 = .ok (.iload 4, 2) := by decide +kernel
theorem dX0_leastGap_7 : decode cX0_leastGap 7 = .ok (.aload_n 0, 1) := by decide +kernel
theorem dX0_leastGap_8 : decode cX0_leastGap 8 = .ok (.getfield 9, 3) := by decide +kernel
theorem dX0_leastGap_11 : decode cX0_leastGap 11 = .ok (.invokevirtual 24, 3) := by decide +kernel
theorem dX0_leastGap_14 : decode cX0_leastGap 14 = .ok (.if_icmp .ge 65, 3) := by decide +kernel
theorem dX0_leastGap_17 : decode cX0_leastGap 17 = .ok (.aload_n 0, 1) := by decide +kernel
theorem dX0_leastGap_18 : decode cX0_leastGap 18 = .ok (.getfield 9, 3) := by decide +kernel
theorem dX0_leastGap_21 : decode cX0_leastGap 21 = .ok (.iload 4, 2) := by decide +kernel
theorem dX0_leastGap_23 : decode cX0_leastGap 23 = .ok (.invokevirtual 58, 3) := by decide +kernel
theorem dX0_leastGap_26 : decode cX0_leastGap 26 = .ok (.iload_n 1, 1) := by decide +kernel
theorem dX0_leastGap_27 : decode cX0_leastGap 27 = .ok (.if_icmp .ne 46, 3) := by decide +kernel
theorem dX0_leastGap_30 : decode cX0_leastGap 30 = .ok (.aload_n 0, 1) := by decide +kernel
theorem dX0_leastGap_31 : decode cX0_leastGap 31 = .ok (.getfield 20, 3) := by decide +kernel
theorem dX0_leastGap_34 : decode cX0_leastGap 34 = .ok (.iload 4, 2) := by decide +kernel
theorem dX0_leastGap_36 : decode cX0_leastGap 36 = .ok (.invokevirtual 55, 3) := by decide +kernel
theorem dX0_leastGap_39 : decode cX0_leastGap 39 = .ok (.iload_n 2, 1) := by decide +kernel
theorem dX0_leastGap_40 : decode cX0_leastGap 40 = .ok (.if_icmp .ne 33, 3) := by decide +kernel
theorem dX0_leastGap_43 : decode cX0_leastGap 43 = .ok (.iload_n 2, 1) := by decide +kernel
theorem dX0_leastGap_44 : decode cX0_leastGap 44 = .ok (.aload_n 0, 1) := by decide +kernel
theorem dX0_leastGap_45 : decode cX0_leastGap 45 = .ok (.getfield 9, 3) := by decide +kernel
theorem dX0_leastGap_48 : decode cX0_leastGap 48 = .ok (.iload 4, 2) := by decide +kernel
theorem dX0_leastGap_50 : decode cX0_leastGap 50 = .ok (.invokevirtual 38, 3) := by decide +kernel
theorem dX0_leastGap_53 : decode cX0_leastGap 53 = .ok (.isub, 1) := by decide +kernel
theorem dX0_leastGap_54 : decode cX0_leastGap 54 = .ok (.istore 5, 2) := by decide +kernel
theorem dX0_leastGap_56 : decode cX0_leastGap 56 = .ok (.iload_n 3, 1) := by decide +kernel
theorem dX0_leastGap_57 : decode cX0_leastGap 57 = .ok (.iconst (-1), 1) := by decide +kernel
theorem dX0_leastGap_58 : decode cX0_leastGap 58 = .ok (.if_icmp .ne 8, 3) := by decide +kernel
theorem dX0_leastGap_61 : decode cX0_leastGap 61 = .ok (.iload 5, 2) := by decide +kernel
theorem dX0_leastGap_63 : decode cX0_leastGap 63 = .ok (.goto 9, 3) := by decide +kernel
theorem dX0_leastGap_66 : decode cX0_leastGap 66 = .ok (.iload_n 3, 1) := by decide +kernel
theorem dX0_leastGap_67 : decode cX0_leastGap 67 = .ok (.iload 5, 2) := by decide +kernel
theorem dX0_leastGap_69 : decode cX0_leastGap 69 = .ok (.invokestatic 61, 3) := by decide +kernel
theorem dX0_leastGap_72 : decode cX0_leastGap 72 = .ok (.istore_n 3, 1) := by decide +kernel
theorem dX0_leastGap_73 : decode cX0_leastGap 73 = .ok (.iinc 4 1, 3) := by decide +kernel
theorem dX0_leastGap_76 : decode cX0_leastGap 76 = .ok (.goto (-71), 3) := by decide +kernel
theorem dX0_leastGap_79 : decode cX0_leastGap 79 = .ok (.iload_n 3, 1) := by decide +kernel
theorem dX0_leastGap_80 : decode cX0_leastGap 80 = .ok (.ireturn, 1) := by decide +kernel
set_option maxRecDepth 20000 in
theorem ggX1_init_X3_init : GoodIn wsX1_init wsX3_init := goodIn_r _ [14, 15, 2, 3, 16, 17, 18, 19, 20, 21, 22] (by decide +kernel) (by decide +kernel)
set_option maxRecDepth 20000 in
theorem gX1_init_X3_init : GoodIn wsX1_init (wsX3_init) := ggX1_init_X3_init
theorem dX1_init_0 : decode cX1_init 0 = .ok (.aload_n 0, 1) := by decide +kernel
theorem dX1_init_1 : decode cX1_init 1 = .ok (.invokespecial 3, 3) := by decide +kernel
theorem dX1_init_4 : decode cX1_init 4 = .ok (.aload_n 0, 1) := by decide +kernel
theorem dX1_init_5 : decode cX1_init 5 = .ok (.new 9, 3) := by decide +kernel
theorem dX1_init_8 : decode cX1_init 8 = .ok (.dup, 1) := by decide +kernel
theorem dX1_init_9 : decode cX1_init 9 = .ok (.bipush 40, 2) := by decide +kernel
theorem dX1_init_11 : decode cX1_init 11 = .ok (.invokespecial 11, 3) := by decide +kernel
theorem dX1_init_14 : decode cX1_init 14 = .ok (.putfield 14, 3) := by decide +kernel
theorem dX1_init_17 : decode cX1_init 17 = .ok (.aload_n 0, 1) := by decide +kernel
theorem dX1_init_18 : decode cX1_init 18 = .ok (.new 9, 3) := by decide +kernel
theorem dX1_init_21 : decode cX1_init 21 = .ok (.dup, 1) := by decide +kernel
theorem dX1_init_22 : decode cX1_init 22 = .ok (.bipush 40, 2) := by decide +kernel
theorem dX1_init_24 : decode cX1_init 24 = .ok (.invokespecial 11, 3) := by decide +kernel
theorem dX1_init_27 : decode cX1_init 27 = .ok (.putfield 20, 3) := by decide +kernel
theorem dX1_init_30 : decode cX1_init 30 = .ok (.aload_n 0, 1) := by decide +kernel
theorem dX1_init_31 : decode cX1_init 31 = .ok (.new 9, 3) := by decide +kernel
theorem dX1_init_34 : decode cX1_init 34 = .ok (.dup, 1) := by decide +kernel
theorem dX1_init_35 : decode cX1_init 35 = .ok (.bipush 40, 2) := by decide +kernel
theorem dX1_init_37 : decode cX1_init 37 = .ok (.invokespecial 11, 3) := by decide +kernel
theorem dX1_init_40 : decode cX1_init 40 = .ok (.putfield 23, 3) := by decide +kernel
theorem dX1_init_43 : decode cX1_init 43 = .ok (.aload_n 0, 1) := by decide +kernel
theorem dX1_init_44 : decode cX1_init 44 = .ok (.iconst 1, 1) := by decide +kernel
theorem dX1_init_45 : decode cX1_init 45 = .ok (.putfield 26, 3) := by decide +kernel
theorem dX1_init_48 : decode cX1_init 48 = .ok (.aload_n 0, 1) := by decide +kernel
theorem dX1_init_49 : decode cX1_init 49 = .ok (.iconst 0, 1) := by decide +kernel
theorem dX1_init_50 : decode cX1_init 50 = .ok (.putfield 30, 3) := by decide +kernel
theorem dX1_init_53 : decode cX1_init 53 = .ok (.return_, 1) := by decide +kernel
theorem dX1_size_0 : decode cX1_size 0 = .ok (.aload_n 0, 1) := by decide +kernel
theorem dX1_size_1 : decode cX1_size 1 = .ok (.getfield 30, 3) := by decide +kernel
theorem dX1_size_4 : decode cX1_size 4 = .ok (.ireturn, 1) := by decide +kernel
theorem dX1_numberOf_0 : decode cX1_numberOf 0 = .ok (.iload_n 1, 1) := by decide +kernel
theorem dX1_numberOf_1 : decode cX1_numberOf 1 = .ok (.aload_n 0, 1) := by decide +kernel
theorem dX1_numberOf_2 : decode cX1_numberOf 2 = .ok (.getfield 26, 3) := by decide +kernel
theorem dX1_numberOf_5 : decode cX1_numberOf 5 = .ok (.imul, 1) := by decide +kernel
theorem dX1_numberOf_6 : decode cX1_numberOf 6 = .ok (.iload_n 2, 1) := by decide +kernel
theorem dX1_numberOf_7 : decode cX1_numberOf 7 = .ok (.iadd, 1) := by decide +kernel
theorem dX1_numberOf_8 : decode cX1_numberOf 8 = .ok (.iconst 1, 1) := by decide +kernel
theorem dX1_numberOf_9 : decode cX1_numberOf 9 = .ok (.iadd, 1) := by decide +kernel
theorem dX1_numberOf_10 : decode cX1_numberOf 10 = .ok (.ireturn, 1) := by decide +kernel
theorem dX1_nameOf_0 : decode cX1_nameOf 0 = .ok (.aload_n 0, 1) := by decide +kernel
theorem dX1_nameOf_1 : decode cX1_nameOf 1 = .ok (.getfield 26, 3) := by decide +kernel
theorem dX1_nameOf_4 : decode cX1_nameOf 4 = .ok (.iconst 1, 1) := by decide +kernel
theorem dX1_nameOf_5 : decode cX1_nameOf 5 = .ok (.if_icmp .ge 7, 3) := by decide +kernel
theorem dX1_nameOf_8 : decode cX1_nameOf 8 = .ok (.iconst 0, 1) := by decide +kernel
theorem dX1_nameOf_9 : decode cX1_nameOf 9 = .ok (.goto 9, 3) := by decide +kernel
theorem dX1_nameOf_12 : decode cX1_nameOf 12 = .ok (.iload_n 1, 1) := by decide +kernel
theorem dX1_nameOf_13 : decode cX1_nameOf 13 = .ok (.aload_n 0, 1) := by decide +kernel
theorem dX1_nameOf_14 : decode cX1_nameOf 14 = .ok (.getfield 26, 3) := by decide +kernel
theorem dX1_nameOf_17 : decode cX1_nameOf 17 = .ok (.idiv, 1) := by decide +kernel
theorem dX1_nameOf_18 : decode cX1_nameOf 18 = .ok (.ireturn, 1) := by decide +kernel
theorem dX1_endingOf_0 : decode cX1_endingOf 0 = .ok (.aload_n 0, 1) := by decide +kernel
theorem dX1_endingOf_1 : decode cX1_endingOf 1 = .ok (.getfield 26, 3) := by decide +kernel
theorem dX1_endingOf_4 : decode cX1_endingOf 4 = .ok (.iconst 1, 1) := by decide +kernel
theorem dX1_endingOf_5 : decode cX1_endingOf 5 = .ok (.if_icmp .ge 7, 3) := by decide +kernel
theorem dX1_endingOf_8 : decode cX1_endingOf 8 = .ok (.iconst (-1), 1) := by decide +kernel
theorem dX1_endingOf_9 : decode cX1_endingOf 9 = .ok (.goto 11, 3) := by decide +kernel
theorem dX1_endingOf_12 : decode cX1_endingOf 12 = .ok (.iload_n 1, 1) := by decide +kernel
theorem dX1_endingOf_13 : decode cX1_endingOf 13 = .ok (.aload_n 0, 1) := by decide +kernel
theorem dX1_endingOf_14 : decode cX1_endingOf 14 = .ok (.getfield 26, 3) := by decide +kernel
theorem dX1_endingOf_17 : decode cX1_endingOf 17 = .ok (.irem, 1) := by decide +kernel
theorem dX1_endingOf_18 : decode cX1_endingOf 18 = .ok (.iconst 1, 1) := by decide +kernel
theorem dX1_endingOf_19 : decode cX1_endingOf 19 = .ok (.isub, 1) := by decide +kernel
theorem dX1_endingOf_20 : decode cX1_endingOf 20 = .ok (.ireturn, 1) := by decide +kernel
set_option maxRecDepth 20000 in
theorem ggX1_widthOf_X3_at : GoodIn wsX1_widthOf wsX3_at := goodIn_r _ [6, 7, 13] (by decide +kernel) (by decide +kernel)
set_option maxRecDepth 20000 in
theorem gX1_widthOf_X3_at : GoodIn wsX1_widthOf (wsV RX1 33 RX3 yX3_at wsX3_at) := goodIn_app (goodIn_of _ (by decide +kernel)) ggX1_widthOf_X3_at
theorem dX1_widthOf_0 : decode cX1_widthOf 0 = .ok (.aload_n 0, 1) := by decide +kernel
theorem dX1_widthOf_1 : decode cX1_widthOf 1 = .ok (.getfield 14, 3) := by decide +kernel
theorem dX1_widthOf_4 : decode cX1_widthOf 4 = .ok (.iload_n 1, 1) := by decide +kernel
theorem dX1_widthOf_5 : decode cX1_widthOf 5 = .ok (.invokevirtual 33, 3) := by decide +kernel
theorem dX1_widthOf_8 : decode cX1_widthOf 8 = .ok (.ireturn, 1) := by decide +kernel
set_option maxRecDepth 20000 in
theorem ggX1_rankOf_X3_at : GoodIn wsX1_rankOf wsX3_at := goodIn_r _ [6, 7, 13] (by decide +kernel) (by decide +kernel)
set_option maxRecDepth 20000 in
theorem gX1_rankOf_X3_at : GoodIn wsX1_rankOf (wsV RX1 33 RX3 yX3_at wsX3_at) := goodIn_app (goodIn_of _ (by decide +kernel)) ggX1_rankOf_X3_at
theorem dX1_rankOf_0 : decode cX1_rankOf 0 = .ok (.aload_n 0, 1) := by decide +kernel
theorem dX1_rankOf_1 : decode cX1_rankOf 1 = .ok (.getfield 20, 3) := by decide +kernel
theorem dX1_rankOf_4 : decode cX1_rankOf 4 = .ok (.iload_n 1, 1) := by decide +kernel
theorem dX1_rankOf_5 : decode cX1_rankOf 5 = .ok (.invokevirtual 33, 3) := by decide +kernel
theorem dX1_rankOf_8 : decode cX1_rankOf 8 = .ok (.ireturn, 1) := by decide +kernel
set_option maxRecDepth 20000 in
theorem ggX1_widthAtRank_X3_at : GoodIn wsX1_widthAtRank wsX3_at := goodIn_r _ [6, 7, 13] (by decide +kernel) (by decide +kernel)
set_option maxRecDepth 20000 in
theorem gX1_widthAtRank_X3_at : GoodIn wsX1_widthAtRank (wsV RX1 33 RX3 yX3_at wsX3_at) := goodIn_app (goodIn_of _ (by decide +kernel)) ggX1_widthAtRank_X3_at
theorem dX1_widthAtRank_0 : decode cX1_widthAtRank 0 = .ok (.aload_n 0, 1) := by decide +kernel
theorem dX1_widthAtRank_1 : decode cX1_widthAtRank 1 = .ok (.getfield 23, 3) := by decide +kernel
theorem dX1_widthAtRank_4 : decode cX1_widthAtRank 4 = .ok (.iload_n 1, 1) := by decide +kernel
theorem dX1_widthAtRank_5 : decode cX1_widthAtRank 5 = .ok (.invokevirtual 33, 3) := by decide +kernel
theorem dX1_widthAtRank_8 : decode cX1_widthAtRank 8 = .ok (.ireturn, 1) := by decide +kernel
set_option maxRecDepth 20000 in
theorem ggX1_measure_X7_size : GoodIn wsX1_measure wsX7_size := goodIn_r _ [10, 11, 61, 62, 63, 64, 65] (by decide +kernel) (by decide +kernel)
set_option maxRecDepth 20000 in
theorem gX1_measure_X7_size : GoodIn wsX1_measure (wsV RX1 43 RX7 yX7_size wsX7_size) := goodIn_app (goodIn_of _ (by decide +kernel)) ggX1_measure_X7_size
set_option maxRecDepth 20000 in
theorem ggX1_measure_X1_nameOf : GoodIn wsX1_measure wsX1_nameOf := goodIn_r _ [16, 1, 56, 57, 58, 59, 60] (by decide +kernel) (by decide +kernel)
set_option maxRecDepth 20000 in
theorem gX1_measure_X1_nameOf : GoodIn wsX1_measure (wsV RX1 51 RX1 yX1_nameOf wsX1_nameOf) := goodIn_app (goodIn_of _ (by decide +kernel)) ggX1_measure_X1_nameOf
set_option maxRecDepth 20000 in
theorem ggX1_measure_X1_endingOf : GoodIn wsX1_measure wsX1_endingOf := goodIn_r _ [20, 1, 56, 57, 58, 59, 60] (by decide +kernel) (by decide +kernel)
set_option maxRecDepth 20000 in
theorem gX1_measure_X1_endingOf : GoodIn wsX1_measure (wsV RX1 54 RX1 yX1_endingOf wsX1_endingOf) := goodIn_app (goodIn_of _ (by decide +kernel)) ggX1_measure_X1_endingOf
set_option maxRecDepth 20000 in
theorem ggX1_measure_X5_widthOfForm : GoodIn wsX1_measure wsX5_widthOfForm := goodIn_r _ [25, 26, 27, 28, 29, 30, 31, 9, 32, 33, 34, 35, 36, 37, 38, 39, 40, 41, 51, 52, 53, 54, 55, 61, 62, 63, 64, 65, 66] (by decide +kernel) (by decide +kernel)
set_option maxRecDepth 20000 in
theorem gX1_measure_X5_widthOfForm : GoodIn wsX1_measure (wsV RX1 57 RX5 yX5_widthOfForm wsX5_widthOfForm) := goodIn_app (goodIn_of _ (by decide +kernel)) ggX1_measure_X5_widthOfForm
set_option maxRecDepth 20000 in
theorem ggX1_measure_X3_put : GoodIn wsX1_measure wsX3_put := goodIn_r _ [45, 41, 66] (by decide +kernel) (by decide +kernel)
set_option maxRecDepth 20000 in
theorem gX1_measure_X3_put : GoodIn wsX1_measure (wsV RX1 61 RX3 yX3_put wsX3_put) := goodIn_app (goodIn_of _ (by decide +kernel)) ggX1_measure_X3_put
set_option maxRecDepth 20000 in
theorem ggX1_measure_X1_formsAheadOf : GoodIn wsX1_measure wsX1_formsAheadOf := goodIn_r _ [49, 3, 2, 50, 37, 38, 39, 40, 41, 56, 57, 58, 59, 60, 66] (by decide +kernel) (by decide +kernel)
set_option maxRecDepth 20000 in
theorem gX1_measure_X1_formsAheadOf : GoodIn wsX1_measure (wsV RX1 65 RX1 yX1_formsAheadOf wsX1_formsAheadOf) := goodIn_app (goodIn_of _ (by decide +kernel)) ggX1_measure_X1_formsAheadOf
set_option maxRecDepth 20000 in
theorem ggX1_measure_X3_at : GoodIn wsX1_measure wsX3_at := goodIn_r _ [40, 41, 66] (by decide +kernel) (by decide +kernel)
set_option maxRecDepth 20000 in
theorem gX1_measure_X3_at : GoodIn wsX1_measure (wsV RX1 33 RX3 yX3_at wsX3_at) := goodIn_app (goodIn_of _ (by decide +kernel)) ggX1_measure_X3_at
theorem dX1_measure_0 : decode cX1_measure 0 = .ok (.aload_n 0, 1) := by decide +kernel
theorem dX1_measure_1 : decode cX1_measure 1 = .ok (.aload_n 1, 1) := by decide +kernel
theorem dX1_measure_2 : decode cX1_measure 2 = .ok (.getfield 37, 3) := by decide +kernel
theorem dX1_measure_5 : decode cX1_measure 5 = .ok (.invokevirtual 43, 3) := by decide +kernel
theorem dX1_measure_8 : decode cX1_measure 8 = .ok (.iconst 1, 1) := by decide +kernel
theorem dX1_measure_9 : decode cX1_measure 9 = .ok (.iadd, 1) := by decide +kernel
theorem dX1_measure_10 : decode cX1_measure 10 = .ok (.putfield 26, 3) := by decide +kernel
theorem dX1_measure_13 : decode cX1_measure 13 = .ok (.aload_n 0, 1) := by decide +kernel
theorem dX1_measure_14 : decode cX1_measure 14 = .ok (.aload_n 1, 1) := by decide +kernel
theorem dX1_measure_15 : decode cX1_measure 15 = .ok (.getfield 48, 3) := by decide +kernel
theorem dX1_measure_18 : decode cX1_measure 18 = .ok (.invokevirtual 43, 3) := by decide +kernel
theorem dX1_measure_21 : decode cX1_measure 21 = .ok (.aload_n 0, 1) := by decide +kernel
theorem dX1_measure_22 : decode cX1_measure 22 = .ok (.getfield 26, 3) := by decide +kernel
theorem dX1_measure_25 : decode cX1_measure 25 = .ok (.imul, 1) := by decide +kernel
theorem dX1_measure_26 : decode cX1_measure 26 = .ok (.putfield 30, 3) := by decide +kernel
theorem dX1_measure_29 : decode cX1_measure 29 = .ok (.iconst 0, 1) := by decide +kernel
theorem dX1_measure_30 : decode cX1_measure 30 = .ok (.istore_n 2, 1) := by decide +kernel
theorem dX1_measure_31 : decode cX1_measure 31 = .ok (.iload_n 2, 1) := by decide +kernel
theorem dX1_measure_32 : decode cX1_measure 32 = .ok (.aload_n 0, 1) := by decide +kernel
theorem dX1_measure_33 : decode cX1_measure 33 = .ok (.getfield 30, 3) := by decide +kernel
theorem dX1_measure_36 : decode cX1_measure 36 = .ok (.if_icmp .ge 31, 3) := by decide +kernel
theorem dX1_measure_39 : decode cX1_measure 39 = .ok (.aload_n 0, 1) := by decide +kernel
theorem dX1_measure_40 : decode cX1_measure 40 = .ok (.getfield 14, 3) := by decide +kernel
theorem dX1_measure_43 : decode cX1_measure 43 = .ok (.iload_n 2, 1) := by decide +kernel
theorem dX1_measure_44 : decode cX1_measure 44 = .ok (.aload_n 1, 1) := by decide +kernel
theorem dX1_measure_45 : decode cX1_measure 45 = .ok (.aload_n 0, 1) := by decide +kernel
theorem dX1_measure_46 : decode cX1_measure 46 = .ok (.iload_n 2, 1) := by decide +kernel
theorem dX1_measure_47 : decode cX1_measure 47 = .ok (.invokevirtual 51, 3) := by decide +kernel
theorem dX1_measure_50 : decode cX1_measure 50 = .ok (.aload_n 0, 1) := by decide +kernel
theorem dX1_measure_51 : decode cX1_measure 51 = .ok (.iload_n 2, 1) := by decide +kernel
theorem dX1_measure_52 : decode cX1_measure 52 = .ok (.invokevirtual 54, 3) := by decide +kernel
theorem dX1_measure_55 : decode cX1_measure 55 = .ok (.invokevirtual 57, 3) := by decide +kernel
theorem dX1_measure_58 : decode cX1_measure 58 = .ok (.invokevirtual 61, 3) := by decide +kernel
theorem dX1_measure_61 : decode cX1_measure 61 = .ok (.iinc 2 1, 3) := by decide +kernel
theorem dX1_measure_64 : decode cX1_measure 64 = .ok (.goto (-33), 3) := by decide +kernel
theorem dX1_measure_67 : decode cX1_measure 67 = .ok (.iconst 0, 1) := by decide +kernel
theorem dX1_measure_68 : decode cX1_measure 68 = .ok (.istore_n 2, 1) := by decide +kernel
theorem dX1_measure_69 : decode cX1_measure 69 = .ok (.iload_n 2, 1) := by decide +kernel
theorem dX1_measure_70 : decode cX1_measure 70 = .ok (.aload_n 0, 1) := by decide +kernel
theorem dX1_measure_71 : decode cX1_measure 71 = .ok (.getfield 30, 3) := by decide +kernel
theorem dX1_measure_74 : decode cX1_measure 74 = .ok (.if_icmp .ge 40, 3) := by decide +kernel
theorem dX1_measure_77 : decode cX1_measure 77 = .ok (.aload_n 0, 1) := by decide +kernel
theorem dX1_measure_78 : decode cX1_measure 78 = .ok (.iload_n 2, 1) := by decide +kernel
theorem dX1_measure_79 : decode cX1_measure 79 = .ok (.invokevirtual 65, 3) := by decide +kernel
theorem dX1_measure_82 : decode cX1_measure 82 = .ok (.istore_n 3, 1) := by decide +kernel
theorem dX1_measure_83 : decode cX1_measure 83 = .ok (.aload_n 0, 1) := by decide +kernel
theorem dX1_measure_84 : decode cX1_measure 84 = .ok (.getfield 20, 3) := by decide +kernel
theorem dX1_measure_87 : decode cX1_measure 87 = .ok (.iload_n 2, 1) := by decide +kernel
theorem dX1_measure_88 : decode cX1_measure 88 = .ok (.iload_n 3, 1) := by decide +kernel
theorem dX1_measure_89 : decode cX1_measure 89 = .ok (.invokevirtual 61, 3) := by decide +kernel
theorem dX1_measure_92 : decode cX1_measure 92 = .ok (.aload_n 0, 1) := by decide +kernel
theorem dX1_measure_93 : decode cX1_measure 93 = .ok (.getfield 23, 3) := by decide +kernel
theorem dX1_measure_96 : decode cX1_measure 96 = .ok (.iload_n 3, 1) := by decide +kernel
theorem dX1_measure_97 : decode cX1_measure 97 = .ok (.aload_n 0, 1) := by decide +kernel
theorem dX1_measure_98 : decode cX1_measure 98 = .ok (.getfield 14, 3) := by decide +kernel
theorem dX1_measure_101 : decode cX1_measure 101 = .ok (.iload_n 2, 1) := by decide +kernel
theorem dX1_measure_102 : decode cX1_measure 102 = .ok (.invokevirtual 33, 3) := by decide +kernel
theorem dX1_measure_105 : decode cX1_measure 105 = .ok (.invokevirtual 61, 3) := by decide +kernel
theorem dX1_measure_108 : decode cX1_measure 108 = .ok (.iinc 2 1, 3) := by decide +kernel
theorem dX1_measure_111 : decode cX1_measure 111 = .ok (.goto (-42), 3) := by decide +kernel
theorem dX1_measure_114 : decode cX1_measure 114 = .ok (.return_, 1) := by decide +kernel
set_option maxRecDepth 20000 in
theorem ggX1_formsAheadOf_X3_at : GoodIn wsX1_formsAheadOf wsX3_at := goodIn_r _ [7, 8, 14] (by decide +kernel) (by decide +kernel)
set_option maxRecDepth 20000 in
theorem gX1_formsAheadOf_X3_at : GoodIn wsX1_formsAheadOf (wsV RX1 33 RX3 yX3_at wsX3_at) := goodIn_app (goodIn_of _ (by decide +kernel)) ggX1_formsAheadOf_X3_at
theorem dX1_formsAheadOf_0 : decode cX1_formsAheadOf 0 = .ok (.aload_n 0, 1) := by decide +kernel
theorem dX1_formsAheadOf_1 : decode cX1_formsAheadOf 1 = .ok (.getfield 14, 3) := by decide +kernel
theorem dX1_formsAheadOf_4 : decode cX1_formsAheadOf 4 = .ok (.iload_n 1, 1) := by decide +kernel
theorem dX1_formsAheadOf_5 : decode cX1_formsAheadOf 5 = .ok (.invokevirtual 33, 3) := by decide +kernel
theorem dX1_formsAheadOf_8 : decode cX1_formsAheadOf 8 = .ok (.istore_n 2, 1) := by decide +kernel
theorem dX1_formsAheadOf_9 : decode cX1_formsAheadOf 9 = .ok (.iconst 0, 1) := by decide +kernel
theorem dX1_formsAheadOf_10 : decode cX1_formsAheadOf 10 = .ok (.istore_n 3, 1) := by decide +kernel
theorem dX1_formsAheadOf_11 : decode cX1_formsAheadOf 11 = .ok (.iconst 0, 1) := by decide +kernel
theorem dX1_formsAheadOf_12 : decode cX1_formsAheadOf 12 = .ok (.istore 4, 2) := by decide +kernel
theorem dX1_formsAheadOf_14 : decode cX1_formsAheadOf 14 = .ok (.iload 4, 2) := by decide +kernel
theorem dX1_formsAheadOf_16 : decode cX1_formsAheadOf 16 = .ok (.aload_n 0, 1) := by decide +kernel
theorem dX1_formsAheadOf_17 : decode cX1_formsAheadOf 17 = .ok (.getfield 30, 3) := by decide +kernel
theorem dX1_formsAheadOf_20 : decode cX1_formsAheadOf 20 = .ok (.if_icmp .ge 41, 3) := by decide +kernel
theorem dX1_formsAheadOf_23 : decode cX1_formsAheadOf 23 = .ok (.aload_n 0, 1) := by decide +kernel
theorem dX1_formsAheadOf_24 : decode cX1_formsAheadOf 24 = .ok (.getfield 14, 3) := by decide +kernel
theorem dX1_formsAheadOf_27 : decode cX1_formsAheadOf 27 = .ok (.iload 4, 2) := by decide +kernel
theorem dX1_formsAheadOf_29 : decode cX1_formsAheadOf 29 = .ok (.invokevirtual 33, 3) := by decide +kernel
theorem dX1_formsAheadOf_32 : decode cX1_formsAheadOf 32 = .ok (.istore 5, 2) := by decide +kernel
theorem dX1_formsAheadOf_34 : decode cX1_formsAheadOf 34 = .ok (.iload 5, 2) := by decide +kernel
theorem dX1_formsAheadOf_36 : decode cX1_formsAheadOf 36 = .ok (.iload_n 2, 1) := by decide +kernel
theorem dX1_formsAheadOf_37 : decode cX1_formsAheadOf 37 = .ok (.if_icmp .lt 15, 3) := by decide +kernel
theorem dX1_formsAheadOf_40 : decode cX1_formsAheadOf 40 = .ok (.iload 5, 2) := by decide +kernel
theorem dX1_formsAheadOf_42 : decode cX1_formsAheadOf 42 = .ok (.iload_n 2, 1) := by decide +kernel
theorem dX1_formsAheadOf_43 : decode cX1_formsAheadOf 43 = .ok (.if_icmp .ne 12, 3) := by decide +kernel
theorem dX1_formsAheadOf_46 : decode cX1_formsAheadOf 46 = .ok (.iload 4, 2) := by decide +kernel
theorem dX1_formsAheadOf_48 : decode cX1_formsAheadOf 48 = .ok (.iload_n 1, 1) := by decide +kernel
theorem dX1_formsAheadOf_49 : decode cX1_formsAheadOf 49 = .ok (.if_icmp .ge 6, 3) := by decide +kernel
theorem dX1_formsAheadOf_52 : decode cX1_formsAheadOf 52 = .ok (.iinc 3 1, 3) := by decide +kernel
theorem dX1_formsAheadOf_55 : decode cX1_formsAheadOf 55 = .ok (.iinc 4 1, 3) := by decide +kernel
theorem dX1_formsAheadOf_58 : decode cX1_formsAheadOf 58 = .ok (.goto (-44), 3) := by decide +kernel
theorem dX1_formsAheadOf_61 : decode cX1_formsAheadOf 61 = .ok (.iload_n 3, 1) := by decide +kernel
theorem dX1_formsAheadOf_62 : decode cX1_formsAheadOf 62 = .ok (.ireturn, 1) := by decide +kernel
set_option maxRecDepth 20000 in
theorem ggX2_init_X5_init : GoodIn wsX2_init wsX5_init := goodIn_r _ [11, 12, 2, 3, 13, 14, 15, 16, 17, 18, 19, 20, 21, 22, 23, 24, 25, 26, 27, 28, 29, 30, 31, 32, 33, 34, 35, 36, 37, 38, 39, 40, 41, 42, 43, 44, 45, 46, 47, 48, 49, 50, 51, 52, 60, 61, 62, 63, 64, 55, 56, 57, 58, 59, 65] (by decide +kernel) (by decide +kernel)
set_option maxRecDepth 20000 in
theorem gX2_init_X5_init : GoodIn wsX2_init (wsX5_init) := ggX2_init_X5_init
theorem dX2_init_0 : decode cX2_init 0 = .ok (.aload_n 0, 1) := by decide +kernel
theorem dX2_init_1 : decode cX2_init 1 = .ok (.invokespecial 3, 3) := by decide +kernel
theorem dX2_init_4 : decode cX2_init 4 = .ok (.aload_n 0, 1) := by decide +kernel
theorem dX2_init_5 : decode cX2_init 5 = .ok (.iconst 4, 1) := by decide +kernel
theorem dX2_init_6 : decode cX2_init 6 = .ok (.anewarray 9, 3) := by decide +kernel
theorem dX2_init_9 : decode cX2_init 9 = .ok (.putfield 11, 3) := by decide +kernel
theorem dX2_init_12 : decode cX2_init 12 = .ok (.iconst 0, 1) := by decide +kernel
theorem dX2_init_13 : decode cX2_init 13 = .ok (.istore_n 1, 1) := by decide +kernel
theorem dX2_init_14 : decode cX2_init 14 = .ok (.iload_n 1, 1) := by decide +kernel
theorem dX2_init_15 : decode cX2_init 15 = .ok (.aload_n 0, 1) := by decide +kernel
theorem dX2_init_16 : decode cX2_init 16 = .ok (.getfield 11, 3) := by decide +kernel
theorem dX2_init_19 : decode cX2_init 19 = .ok (.arraylength, 1) := by decide +kernel
theorem dX2_init_20 : decode cX2_init 20 = .ok (.if_icmp .ge 22, 3) := by decide +kernel
theorem dX2_init_23 : decode cX2_init 23 = .ok (.aload_n 0, 1) := by decide +kernel
theorem dX2_init_24 : decode cX2_init 24 = .ok (.getfield 11, 3) := by decide +kernel
theorem dX2_init_27 : decode cX2_init 27 = .ok (.iload_n 1, 1) := by decide +kernel
theorem dX2_init_28 : decode cX2_init 28 = .ok (.new 9, 3) := by decide +kernel
theorem dX2_init_31 : decode cX2_init 31 = .ok (.dup, 1) := by decide +kernel
theorem dX2_init_32 : decode cX2_init 32 = .ok (.invokespecial 17, 3) := by decide +kernel
theorem dX2_init_35 : decode cX2_init 35 = .ok (.aastore, 1) := by decide +kernel
theorem dX2_init_36 : decode cX2_init 36 = .ok (.iinc 1 1, 3) := by decide +kernel
theorem dX2_init_39 : decode cX2_init 39 = .ok (.goto (-25), 3) := by decide +kernel
theorem dX2_init_42 : decode cX2_init 42 = .ok (.aload_n 0, 1) := by decide +kernel
theorem dX2_init_43 : decode cX2_init 43 = .ok (.iconst 0, 1) := by decide +kernel
theorem dX2_init_44 : decode cX2_init 44 = .ok (.putfield 18, 3) := by decide +kernel
theorem dX2_init_47 : decode cX2_init 47 = .ok (.return_, 1) := by decide +kernel
theorem dX2_size_0 : decode cX2_size 0 = .ok (.aload_n 0, 1) := by decide +kernel
theorem dX2_size_1 : decode cX2_size 1 = .ok (.getfield 18, 3) := by decide +kernel
theorem dX2_size_4 : decode cX2_size 4 = .ok (.ireturn, 1) := by decide +kernel
set_option maxRecDepth 20000 in
theorem ggX2_keep_X2_moveOldestToEnd : GoodIn wsX2_keep wsX2_moveOldestToEnd := goodIn_r _ [7, 2, 47, 48] (by decide +kernel) (by decide +kernel)
set_option maxRecDepth 20000 in
theorem gX2_keep_X2_moveOldestToEnd : GoodIn wsX2_keep (wsV RX2 22 RX2 yX2_moveOldestToEnd wsX2_moveOldestToEnd) := goodIn_app (goodIn_of _ (by decide +kernel)) ggX2_keep_X2_moveOldestToEnd
set_option maxRecDepth 20000 in
theorem ggX2_keep_X2_latest : GoodIn wsX2_keep wsX2_latest := goodIn_r _ [11, 1, 2, 47, 48] (by decide +kernel) (by decide +kernel)
set_option maxRecDepth 20000 in
theorem gX2_keep_X2_latest : GoodIn wsX2_keep (wsV RX2 25 RX2 yX2_latest wsX2_latest) := goodIn_app (goodIn_of _ (by decide +kernel)) ggX2_keep_X2_latest
set_option maxRecDepth 20000 in
theorem ggX2_keep_X5_copyFrom : GoodIn wsX2_keep wsX5_copyFrom := goodIn_r _ [16, 17, 18, 19, 20, 21, 22, 23, 24, 25, 26, 27, 28, 29, 30, 31, 32, 33, 34, 35, 36, 37, 38, 39, 40, 41, 42, 43, 44, 45, 46, 49, 50, 51, 52, 53, 54, 55, 56, 57, 58, 59] (by decide +kernel) (by decide +kernel)
set_option maxRecDepth 20000 in
theorem gX2_keep_X5_copyFrom : GoodIn wsX2_keep (wsV RX2 29 RX5 yX5_copyFrom wsX5_copyFrom) := goodIn_app (goodIn_of _ (by decide +kernel)) ggX2_keep_X5_copyFrom
theorem dX2_keep_0 : decode cX2_keep 0 = .ok (.aload_n 0, 1) := by decide +kernel
theorem dX2_keep_1 : decode cX2_keep 1 = .ok (.getfield 18, 3) := by decide +kernel
theorem dX2_keep_4 : decode cX2_keep 4 = .ok (.aload_n 0, 1) := by decide +kernel
theorem dX2_keep_5 : decode cX2_keep 5 = .ok (.getfield 11, 3) := by decide +kernel
theorem dX2_keep_8 : decode cX2_keep 8 = .ok (.arraylength, 1) := by decide +kernel
theorem dX2_keep_9 : decode cX2_keep 9 = .ok (.if_icmp .ge 16, 3) := by decide +kernel
theorem dX2_keep_12 : decode cX2_keep 12 = .ok (.aload_n 0, 1) := by decide +kernel
theorem dX2_keep_13 : decode cX2_keep 13 = .ok (.dup, 1) := by decide +kernel
theorem dX2_keep_14 : decode cX2_keep 14 = .ok (.getfield 18, 3) := by decide +kernel
theorem dX2_keep_17 : decode cX2_keep 17 = .ok (.iconst 1, 1) := by decide +kernel
theorem dX2_keep_18 : decode cX2_keep 18 = .ok (.iadd, 1) := by decide +kernel
theorem dX2_keep_19 : decode cX2_keep 19 = .ok (.putfield 18, 3) := by decide +kernel
theorem dX2_keep_22 : decode cX2_keep 22 = .ok (.goto 7, 3) := by decide +kernel
theorem dX2_keep_25 : decode cX2_keep 25 = .ok (.aload_n 0, 1) := by decide +kernel
theorem dX2_keep_26 : decode cX2_keep 26 = .ok (.invokevirtual 22, 3) := by decide +kernel
theorem dX2_keep_29 : decode cX2_keep 29 = .ok (.aload_n 0, 1) := by decide +kernel
theorem dX2_keep_30 : decode cX2_keep 30 = .ok (.invokevirtual 25, 3) := by decide +kernel
theorem dX2_keep_33 : decode cX2_keep 33 = .ok (.astore_n 2, 1) := by decide +kernel
theorem dX2_keep_34 : decode cX2_keep 34 = .ok (.aload_n 2, 1) := by decide +kernel
theorem dX2_keep_35 : decode cX2_keep 35 = .ok (.ifnull 8, 3) := by decide +kernel
theorem dX2_keep_38 : decode cX2_keep 38 = .ok (.aload_n 2, 1) := by decide +kernel
theorem dX2_keep_39 : decode cX2_keep 39 = .ok (.aload_n 1, 1) := by decide +kernel
theorem dX2_keep_40 : decode cX2_keep 40 = .ok (.invokevirtual 29, 3) := by decide +kernel
theorem dX2_keep_43 : decode cX2_keep 43 = .ok (.return_, 1) := by decide +kernel
set_option maxRecDepth 20000 in
theorem ggX2_restore_X2_latest : GoodIn wsX2_restore wsX2_latest := goodIn_r _ [6, 1, 7, 43, 44] (by decide +kernel) (by decide +kernel)
set_option maxRecDepth 20000 in
theorem gX2_restore_X2_latest : GoodIn wsX2_restore (wsV RX2 25 RX2 yX2_latest wsX2_latest) := goodIn_app (goodIn_of _ (by decide +kernel)) ggX2_restore_X2_latest
set_option maxRecDepth 20000 in
theorem ggX2_restore_X5_copyFrom : GoodIn wsX2_restore wsX5_copyFrom := goodIn_r _ [12, 13, 14, 15, 16, 17, 18, 19, 20, 21, 22, 23, 24, 25, 26, 27, 28, 29, 30, 31, 32, 33, 34, 35, 36, 37, 38, 39, 40, 41, 42, 45, 46, 47, 48, 49, 50, 51, 52, 53, 54, 55] (by decide +kernel) (by decide +kernel)
set_option maxRecDepth 20000 in
theorem gX2_restore_X5_copyFrom : GoodIn wsX2_restore (wsV RX2 29 RX5 yX5_copyFrom wsX5_copyFrom) := goodIn_app (goodIn_of _ (by decide +kernel)) ggX2_restore_X5_copyFrom
theorem dX2_restore_0 : decode cX2_restore 0 = .ok (.aload_n 0, 1) := by decide +kernel
theorem dX2_restore_1 : decode cX2_restore 1 = .ok (.invokevirtual 25, 3) := by decide +kernel
theorem dX2_restore_4 : decode cX2_restore 4 = .ok (.astore_n 2, 1) := by decide +kernel
theorem dX2_restore_5 : decode cX2_restore 5 = .ok (.aload_n 2, 1) := by decide +kernel
theorem dX2_restore_6 : decode cX2_restore 6 = .ok (.ifnull 18, 3) := by decide +kernel
theorem dX2_restore_9 : decode cX2_restore 9 = .ok (.aload_n 1, 1) := by decide +kernel
theorem dX2_restore_10 : decode cX2_restore 10 = .ok (.aload_n 2, 1) := by decide +kernel
theorem dX2_restore_11 : decode cX2_restore 11 = .ok (.invokevirtual 29, 3) := by decide +kernel
theorem dX2_restore_14 : decode cX2_restore 14 = .ok (.aload_n 0, 1) := by decide +kernel
theorem dX2_restore_15 : decode cX2_restore 15 = .ok (.dup, 1) := by decide +kernel
theorem dX2_restore_16 : decode cX2_restore 16 = .ok (.getfield 18, 3) := by decide +kernel
theorem dX2_restore_19 : decode cX2_restore 19 = .ok (.iconst 1, 1) := by decide +kernel
theorem dX2_restore_20 : decode cX2_restore 20 = .ok (.isub, 1) := by decide +kernel
theorem dX2_restore_21 : decode cX2_restore 21 = .ok (.putfield 18, 3) := by decide +kernel
theorem dX2_restore_24 : decode cX2_restore 24 = .ok (.return_, 1) := by decide +kernel
theorem dX2_latest_0 : decode cX2_latest 0 = .ok (.aload_n 0, 1) := by decide +kernel
theorem dX2_latest_1 : decode cX2_latest 1 = .ok (.getfield 18, 3) := by decide +kernel
theorem dX2_latest_4 : decode cX2_latest 4 = .ok (.ifCond .le 29, 3) := by decide +kernel
theorem dX2_latest_7 : decode cX2_latest 7 = .ok (.aload_n 0, 1) := by decide +kernel
theorem dX2_latest_8 : decode cX2_latest 8 = .ok (.getfield 18, 3) := by decide +kernel
theorem dX2_latest_11 : decode cX2_latest 11 = .ok (.aload_n 0, 1) := by decide +kernel
theorem dX2_latest_12 : decode cX2_latest 12 = .ok (.getfield 11, 3) := by decide +kernel
theorem dX2_latest_15 : decode cX2_latest 15 = .ok (.arraylength, 1) := by decide +kernel
theorem dX2_latest_16 : decode cX2_latest 16 = .ok (.if_icmp .gt 17, 3) := by decide +kernel
theorem dX2_latest_19 : decode cX2_latest 19 = .ok (.aload_n 0, 1) := by decide +kernel
theorem dX2_latest_20 : decode cX2_latest 20 = .ok (.getfield 11, 3) := by decide +kernel
theorem dX2_latest_23 : decode cX2_latest 23 = .ok (.aload_n 0, 1) := by decide +kernel
theorem dX2_latest_24 : decode cX2_latest 24 = .ok (.getfield 18, 3) := by decide +kernel
theorem dX2_latest_27 : decode cX2_latest 27 = .ok (.iconst 1, 1) := by decide +kernel
theorem dX2_latest_28 : decode cX2_latest 28 = .ok (.isub, 1) := by decide +kernel
theorem dX2_latest_29 : decode cX2_latest 29 = .ok (.aaload, 1) := by decide +kernel
theorem dX2_latest_30 : decode cX2_latest 30 = .ok (.goto 4, 3) := by decide +kernel
theorem dX2_latest_33 : decode cX2_latest 33 = .ok (.aconst_null, 1) := by decide +kernel
theorem dX2_latest_34 : decode cX2_latest 34 = .ok (.areturn, 1) := by decide +kernel
theorem dX2_moveOldestToEnd_0 : decode cX2_moveOldestToEnd 0 = .ok (.iconst 0, 1) := by decide +kernel
theorem dX2_moveOldestToEnd_1 : decode cX2_moveOldestToEnd 1 = .ok (.istore_n 1, 1) := by decide +kernel
theorem dX2_moveOldestToEnd_2 : decode cX2_moveOldestToEnd 2 = .ok (.iload_n 1, 1) := by decide +kernel
theorem dX2_moveOldestToEnd_3 : decode cX2_moveOldestToEnd 3 = .ok (.iconst 1, 1) := by decide +kernel
theorem dX2_moveOldestToEnd_4 : decode cX2_moveOldestToEnd 4 = .ok (.iadd, 1) := by decide +kernel
theorem dX2_moveOldestToEnd_5 : decode cX2_moveOldestToEnd 5 = .ok (.aload_n 0, 1) := by decide +kernel
theorem dX2_moveOldestToEnd_6 : decode cX2_moveOldestToEnd 6 = .ok (.getfield 11, 3) := by decide +kernel
theorem dX2_moveOldestToEnd_9 : decode cX2_moveOldestToEnd 9 = .ok (.arraylength, 1) := by decide +kernel
theorem dX2_moveOldestToEnd_10 : decode cX2_moveOldestToEnd 10 = .ok (.if_icmp .ge 39, 3) := by decide +kernel
theorem dX2_moveOldestToEnd_13 : decode cX2_moveOldestToEnd 13 = .ok (.aload_n 0, 1) := by decide +kernel
theorem dX2_moveOldestToEnd_14 : decode cX2_moveOldestToEnd 14 = .ok (.getfield 11, 3) := by decide +kernel
theorem dX2_moveOldestToEnd_17 : decode cX2_moveOldestToEnd 17 = .ok (.iload_n 1, 1) := by decide +kernel
theorem dX2_moveOldestToEnd_18 : decode cX2_moveOldestToEnd 18 = .ok (.aaload, 1) := by decide +kernel
theorem dX2_moveOldestToEnd_19 : decode cX2_moveOldestToEnd 19 = .ok (.astore_n 2, 1) := by decide +kernel
theorem dX2_moveOldestToEnd_20 : decode cX2_moveOldestToEnd 20 = .ok (.aload_n 0, 1) := by decide +kernel
theorem dX2_moveOldestToEnd_21 : decode cX2_moveOldestToEnd 21 = .ok (.getfield 11, 3) := by decide +kernel
theorem dX2_moveOldestToEnd_24 : decode cX2_moveOldestToEnd 24 = .ok (.iload_n 1, 1) := by decide +kernel
theorem dX2_moveOldestToEnd_25 : decode cX2_moveOldestToEnd 25 = .ok (.aload_n 0, 1) := by decide +kernel
theorem dX2_moveOldestToEnd_26 : decode cX2_moveOldestToEnd 26 = .ok (.getfield 11, 3) := by decide +kernel
theorem dX2_moveOldestToEnd_29 : decode cX2_moveOldestToEnd 29 = .ok (.iload_n 1, 1) := by decide +kernel
theorem dX2_moveOldestToEnd_30 : decode cX2_moveOldestToEnd 30 = .ok (.iconst 1, 1) := by decide +kernel
theorem dX2_moveOldestToEnd_31 : decode cX2_moveOldestToEnd 31 = .ok (.iadd, 1) := by decide +kernel
theorem dX2_moveOldestToEnd_32 : decode cX2_moveOldestToEnd 32 = .ok (.aaload, 1) := by decide +kernel
theorem dX2_moveOldestToEnd_33 : decode cX2_moveOldestToEnd 33 = .ok (.aastore, 1) := by decide +kernel
theorem dX2_moveOldestToEnd_34 : decode cX2_moveOldestToEnd 34 = .ok (.aload_n 0, 1) := by decide +kernel
theorem dX2_moveOldestToEnd_35 : decode cX2_moveOldestToEnd 35 = .ok (.getfield 11, 3) := by decide +kernel
theorem dX2_moveOldestToEnd_38 : decode cX2_moveOldestToEnd 38 = .ok (.iload_n 1, 1) := by decide +kernel
theorem dX2_moveOldestToEnd_39 : decode cX2_moveOldestToEnd 39 = .ok (.iconst 1, 1) := by decide +kernel
theorem dX2_moveOldestToEnd_40 : decode cX2_moveOldestToEnd 40 = .ok (.iadd, 1) := by decide +kernel
theorem dX2_moveOldestToEnd_41 : decode cX2_moveOldestToEnd 41 = .ok (.aload_n 2, 1) := by decide +kernel
theorem dX2_moveOldestToEnd_42 : decode cX2_moveOldestToEnd 42 = .ok (.aastore, 1) := by decide +kernel
theorem dX2_moveOldestToEnd_43 : decode cX2_moveOldestToEnd 43 = .ok (.iinc 1 1, 3) := by decide +kernel
theorem dX2_moveOldestToEnd_46 : decode cX2_moveOldestToEnd 46 = .ok (.goto (-44), 3) := by decide +kernel
theorem dX2_moveOldestToEnd_49 : decode cX2_moveOldestToEnd 49 = .ok (.return_, 1) := by decide +kernel
theorem dX3_init_0 : decode cX3_init 0 = .ok (.aload_n 0, 1) := by decide +kernel
theorem dX3_init_1 : decode cX3_init 1 = .ok (.invokespecial 1, 3) := by decide +kernel
theorem dX3_init_4 : decode cX3_init 4 = .ok (.aload_n 0, 1) := by decide +kernel
theorem dX3_init_5 : decode cX3_init 5 = .ok (.iconst 0, 1) := by decide +kernel
theorem dX3_init_6 : decode cX3_init 6 = .ok (.iload_n 1, 1) := by decide +kernel
theorem dX3_init_7 : decode cX3_init 7 = .ok (.invokestatic 7, 3) := by decide +kernel
theorem dX3_init_10 : decode cX3_init 10 = .ok (.newarray .int, 2) := by decide +kernel
theorem dX3_init_12 : decode cX3_init 12 = .ok (.putfield 13, 3) := by decide +kernel
theorem dX3_init_15 : decode cX3_init 15 = .ok (.return_, 1) := by decide +kernel
theorem dX3_init__0 : decode cX3_init_ 0 = .ok (.aload_n 0, 1) := by decide +kernel
theorem dX3_init__1 : decode cX3_init_ 1 = .ok (.invokespecial 1, 3) := by decide +kernel
theorem dX3_init__4 : decode cX3_init_ 4 = .ok (.aload_n 0, 1) := by decide +kernel
theorem dX3_init__5 : decode cX3_init_ 5 = .ok (.aload_n 1, 1) := by decide +kernel
theorem dX3_init__6 : decode cX3_init_ 6 = .ok (.invokevirtual 19, 3) := by decide +kernel
theorem dX3_init__9 : decode cX3_init_ 9 = .ok (.checkcast 20, 3) := by decide +kernel
theorem dX3_init__12 : decode cX3_init_ 12 = .ok (.putfield 13, 3) := by decide +kernel
theorem dX3_init__15 : decode cX3_init_ 15 = .ok (.return_, 1) := by decide +kernel
theorem dX3_at_0 : decode cX3_at 0 = .ok (.iload_n 1, 1) := by decide +kernel
theorem dX3_at_1 : decode cX3_at 1 = .ok (.ifCond .lt 21, 3) := by decide +kernel
theorem dX3_at_4 : decode cX3_at 4 = .ok (.iload_n 1, 1) := by decide +kernel
theorem dX3_at_5 : decode cX3_at 5 = .ok (.aload_n 0, 1) := by decide +kernel
theorem dX3_at_6 : decode cX3_at 6 = .ok (.getfield 13, 3) := by decide +kernel
theorem dX3_at_9 : decode cX3_at 9 = .ok (.arraylength, 1) := by decide +kernel
theorem dX3_at_10 : decode cX3_at 10 = .ok (.if_icmp .ge 12, 3) := by decide +kernel
theorem dX3_at_13 : decode cX3_at 13 = .ok (.aload_n 0, 1) := by decide +kernel
theorem dX3_at_14 : decode cX3_at 14 = .ok (.getfield 13, 3) := by decide +kernel
theorem dX3_at_17 : decode cX3_at 17 = .ok (.iload_n 1, 1) := by decide +kernel
theorem dX3_at_18 : decode cX3_at 18 = .ok (.iaload, 1) := by decide +kernel
theorem dX3_at_19 : decode cX3_at 19 = .ok (.goto 4, 3) := by decide +kernel
theorem dX3_at_22 : decode cX3_at 22 = .ok (.iconst 0, 1) := by decide +kernel
theorem dX3_at_23 : decode cX3_at 23 = .ok (.ireturn, 1) := by decide +kernel
theorem dX3_put_0 : decode cX3_put 0 = .ok (.iload_n 1, 1) := by decide +kernel
theorem dX3_put_1 : decode cX3_put 1 = .ok (.ifCond .lt 19, 3) := by decide +kernel
theorem dX3_put_4 : decode cX3_put 4 = .ok (.iload_n 1, 1) := by decide +kernel
theorem dX3_put_5 : decode cX3_put 5 = .ok (.aload_n 0, 1) := by decide +kernel
theorem dX3_put_6 : decode cX3_put 6 = .ok (.getfield 13, 3) := by decide +kernel
theorem dX3_put_9 : decode cX3_put 9 = .ok (.arraylength, 1) := by decide +kernel
theorem dX3_put_10 : decode cX3_put 10 = .ok (.if_icmp .ge 10, 3) := by decide +kernel
theorem dX3_put_13 : decode cX3_put 13 = .ok (.aload_n 0, 1) := by decide +kernel
theorem dX3_put_14 : decode cX3_put 14 = .ok (.getfield 13, 3) := by decide +kernel
theorem dX3_put_17 : decode cX3_put 17 = .ok (.iload_n 1, 1) := by decide +kernel
theorem dX3_put_18 : decode cX3_put 18 = .ok (.iload_n 2, 1) := by decide +kernel
theorem dX3_put_19 : decode cX3_put 19 = .ok (.iastore, 1) := by decide +kernel
theorem dX3_put_20 : decode cX3_put 20 = .ok (.return_, 1) := by decide +kernel
theorem dX3_copyFrom_0 : decode cX3_copyFrom 0 = .ok (.aload_n 1, 1) := by decide +kernel
theorem dX3_copyFrom_1 : decode cX3_copyFrom 1 = .ok (.getfield 13, 3) := by decide +kernel
theorem dX3_copyFrom_4 : decode cX3_copyFrom 4 = .ok (.iconst 0, 1) := by decide +kernel
theorem dX3_copyFrom_5 : decode cX3_copyFrom 5 = .ok (.aload_n 0, 1) := by decide +kernel
theorem dX3_copyFrom_6 : decode cX3_copyFrom 6 = .ok (.getfield 13, 3) := by decide +kernel
theorem dX3_copyFrom_9 : decode cX3_copyFrom 9 = .ok (.iconst 0, 1) := by decide +kernel
theorem dX3_copyFrom_10 : decode cX3_copyFrom 10 = .ok (.aload_n 0, 1) := by decide +kernel
theorem dX3_copyFrom_11 : decode cX3_copyFrom 11 = .ok (.getfield 13, 3) := by decide +kernel
theorem dX3_copyFrom_14 : decode cX3_copyFrom 14 = .ok (.arraylength, 1) := by decide +kernel
theorem dX3_copyFrom_15 : decode cX3_copyFrom 15 = .ok (.aload_n 1, 1) := by decide +kernel
theorem dX3_copyFrom_16 : decode cX3_copyFrom 16 = .ok (.getfield 13, 3) := by decide +kernel
theorem dX3_copyFrom_19 : decode cX3_copyFrom 19 = .ok (.arraylength, 1) := by decide +kernel
theorem dX3_copyFrom_20 : decode cX3_copyFrom 20 = .ok (.invokestatic 24, 3) := by decide +kernel
theorem dX3_copyFrom_23 : decode cX3_copyFrom 23 = .ok (.invokestatic 27, 3) := by decide +kernel
theorem dX3_copyFrom_26 : decode cX3_copyFrom 26 = .ok (.return_, 1) := by decide +kernel
set_option maxRecDepth 20000 in
theorem ggX4_init_X3_init : GoodIn wsX4_init wsX3_init := goodIn_r _ [18, 19, 2, 3, 20, 21, 22, 23, 24, 25, 35] (by decide +kernel) (by decide +kernel)
set_option maxRecDepth 20000 in
theorem gX4_init_X3_init : GoodIn wsX4_init (wsX3_init) := ggX4_init_X3_init
theorem dX4_init_0 : decode cX4_init 0 = .ok (.aload_n 0, 1) := by decide +kernel
theorem dX4_init_1 : decode cX4_init 1 = .ok (.invokespecial 3, 3) := by decide +kernel
theorem dX4_init_4 : decode cX4_init 4 = .ok (.aload_n 0, 1) := by decide +kernel
theorem dX4_init_5 : decode cX4_init 5 = .ok (.aload_n 1, 1) := by decide +kernel
theorem dX4_init_6 : decode cX4_init 6 = .ok (.putfield 9, 3) := by decide +kernel
theorem dX4_init_9 : decode cX4_init 9 = .ok (.aload_n 0, 1) := by decide +kernel
theorem dX4_init_10 : decode cX4_init 10 = .ok (.aload_n 2, 1) := by decide +kernel
theorem dX4_init_11 : decode cX4_init 11 = .ok (.putfield 15, 3) := by decide +kernel
theorem dX4_init_14 : decode cX4_init 14 = .ok (.aload_n 0, 1) := by decide +kernel
theorem dX4_init_15 : decode cX4_init 15 = .ok (.new 19, 3) := by decide +kernel
theorem dX4_init_18 : decode cX4_init 18 = .ok (.dup, 1) := by decide +kernel
theorem dX4_init_19 : decode cX4_init 19 = .ok (.bipush 40, 2) := by decide +kernel
theorem dX4_init_21 : decode cX4_init 21 = .ok (.invokespecial 21, 3) := by decide +kernel
theorem dX4_init_24 : decode cX4_init 24 = .ok (.putfield 24, 3) := by decide +kernel
theorem dX4_init_27 : decode cX4_init 27 = .ok (.aload_n 0, 1) := by decide +kernel
theorem dX4_init_28 : decode cX4_init 28 = .ok (.new 19, 3) := by decide +kernel
theorem dX4_init_31 : decode cX4_init 31 = .ok (.dup, 1) := by decide +kernel
theorem dX4_init_32 : decode cX4_init 32 = .ok (.bipush 40, 2) := by decide +kernel
theorem dX4_init_34 : decode cX4_init 34 = .ok (.invokespecial 21, 3) := by decide +kernel
theorem dX4_init_37 : decode cX4_init 37 = .ok (.putfield 28, 3) := by decide +kernel
theorem dX4_init_40 : decode cX4_init 40 = .ok (.aload_n 0, 1) := by decide +kernel
theorem dX4_init_41 : decode cX4_init 41 = .ok (.new 19, 3) := by decide +kernel
theorem dX4_init_44 : decode cX4_init 44 = .ok (.dup, 1) := by decide +kernel
theorem dX4_init_45 : decode cX4_init 45 = .ok (.bipush 40, 2) := by decide +kernel
theorem dX4_init_47 : decode cX4_init 47 = .ok (.invokespecial 21, 3) := by decide +kernel
theorem dX4_init_50 : decode cX4_init 50 = .ok (.putfield 31, 3) := by decide +kernel
theorem dX4_init_53 : decode cX4_init 53 = .ok (.aload_n 0, 1) := by decide +kernel
theorem dX4_init_54 : decode cX4_init 54 = .ok (.new 19, 3) := by decide +kernel
theorem dX4_init_57 : decode cX4_init 57 = .ok (.dup, 1) := by decide +kernel
theorem dX4_init_58 : decode cX4_init 58 = .ok (.bipush 40, 2) := by decide +kernel
theorem dX4_init_60 : decode cX4_init 60 = .ok (.invokespecial 21, 3) := by decide +kernel
theorem dX4_init_63 : decode cX4_init 63 = .ok (.putfield 34, 3) := by decide +kernel
theorem dX4_init_66 : decode cX4_init 66 = .ok (.aload_n 0, 1) := by decide +kernel
theorem dX4_init_67 : decode cX4_init 67 = .ok (.new 19, 3) := by decide +kernel
theorem dX4_init_70 : decode cX4_init 70 = .ok (.dup, 1) := by decide +kernel
theorem dX4_init_71 : decode cX4_init 71 = .ok (.bipush 40, 2) := by decide +kernel
theorem dX4_init_73 : decode cX4_init 73 = .ok (.invokespecial 21, 3) := by decide +kernel
theorem dX4_init_76 : decode cX4_init 76 = .ok (.putfield 37, 3) := by decide +kernel
theorem dX4_init_79 : decode cX4_init 79 = .ok (.aload_n 0, 1) := by decide +kernel
theorem dX4_init_80 : decode cX4_init 80 = .ok (.new 19, 3) := by decide +kernel
theorem dX4_init_83 : decode cX4_init 83 = .ok (.dup, 1) := by decide +kernel
theorem dX4_init_84 : decode cX4_init 84 = .ok (.bipush 40, 2) := by decide +kernel
theorem dX4_init_86 : decode cX4_init 86 = .ok (.invokespecial 21, 3) := by decide +kernel
theorem dX4_init_89 : decode cX4_init 89 = .ok (.putfield 40, 3) := by decide +kernel
theorem dX4_init_92 : decode cX4_init 92 = .ok (.aload_n 0, 1) := by decide +kernel
theorem dX4_init_93 : decode cX4_init 93 = .ok (.iconst 0, 1) := by decide +kernel
theorem dX4_init_94 : decode cX4_init 94 = .ok (.putfield 43, 3) := by decide +kernel
theorem dX4_init_97 : decode cX4_init 97 = .ok (.return_, 1) := by decide +kernel
set_option maxRecDepth 20000 in
theorem ggX4_hideWords_X7_size : GoodIn wsX4_hideWords wsX7_size := goodIn_r _ [9, 10, 73, 74, 75, 76, 77] (by decide +kernel) (by decide +kernel)
set_option maxRecDepth 20000 in
theorem gX4_hideWords_X7_size : GoodIn wsX4_hideWords (wsV RX4 53 RX7 yX7_size wsX7_size) := goodIn_app (goodIn_of _ (by decide +kernel)) ggX4_hideWords_X7_size
set_option maxRecDepth 20000 in
theorem ggX4_hideWords_X1_size : GoodIn wsX4_hideWords wsX1_size := goodIn_r _ [15, 16, 78, 79, 80, 81, 82] (by decide +kernel) (by decide +kernel)
set_option maxRecDepth 20000 in
theorem gX4_hideWords_X1_size : GoodIn wsX4_hideWords (wsV RX4 59 RX1 yX1_size wsX1_size) := goodIn_app (goodIn_of _ (by decide +kernel)) ggX4_hideWords_X1_size
set_option maxRecDepth 20000 in
theorem ggX4_hideWords_X1_nameOf : GoodIn wsX4_hideWords wsX1_nameOf := goodIn_r _ [20, 21, 78, 79, 80, 81, 82] (by decide +kernel) (by decide +kernel)
set_option maxRecDepth 20000 in
theorem gX4_hideWords_X1_nameOf : GoodIn wsX4_hideWords (wsV RX4 62 RX1 yX1_nameOf wsX1_nameOf) := goodIn_app (goodIn_of _ (by decide +kernel)) ggX4_hideWords_X1_nameOf
set_option maxRecDepth 20000 in
theorem ggX4_hideWords_X1_endingOf : GoodIn wsX4_hideWords wsX1_endingOf := goodIn_r _ [25, 21, 78, 79, 80, 81, 82] (by decide +kernel) (by decide +kernel)
set_option maxRecDepth 20000 in
theorem gX4_hideWords_X1_endingOf : GoodIn wsX4_hideWords (wsV RX4 66 RX1 yX1_endingOf wsX1_endingOf) := goodIn_app (goodIn_of _ (by decide +kernel)) ggX4_hideWords_X1_endingOf
set_option maxRecDepth 20000 in
theorem ggX4_hideWords_X5_isForm : GoodIn wsX4_hideWords wsX5_isForm := goodIn_r _ [30, 31, 32, 33, 34, 35, 36, 8, 37, 38, 39, 40, 41, 42, 43, 44, 45, 46, 47, 48, 49, 50, 68, 69, 70, 71, 72, 73, 74, 75, 76, 77, 83] (by decide +kernel) (by decide +kernel)
set_option maxRecDepth 20000 in
theorem gX4_hideWords_X5_isForm : GoodIn wsX4_hideWords (wsV RX4 69 RX5 yX5_isForm wsX5_isForm) := goodIn_app (goodIn_of _ (by decide +kernel)) ggX4_hideWords_X5_isForm
set_option maxRecDepth 20000 in
theorem ggX4_hideWords_X3_put : GoodIn wsX4_hideWords wsX3_put := goodIn_r _ [54, 44, 83] (by decide +kernel) (by decide +kernel)
set_option maxRecDepth 20000 in
theorem gX4_hideWords_X3_put : GoodIn wsX4_hideWords (wsV RX4 73 RX3 yX3_put wsX3_put) := goodIn_app (goodIn_of _ (by decide +kernel)) ggX4_hideWords_X3_put
set_option maxRecDepth 20000 in
theorem ggX4_hideWords_X7_widthOf : GoodIn wsX4_hideWords wsX7_widthOf := goodIn_r _ [58, 50, 38, 49, 39, 40, 41, 42, 43, 44, 73, 74, 75, 76, 77, 83] (by decide +kernel) (by decide +kernel)
set_option maxRecDepth 20000 in
theorem gX4_hideWords_X7_widthOf : GoodIn wsX4_hideWords (wsV RX4 80 RX7 yX7_widthOf wsX7_widthOf) := goodIn_app (goodIn_of _ (by decide +kernel)) ggX4_hideWords_X7_widthOf
theorem dX4_hideWords_0 : decode cX4_hideWords 0 = .ok (.iconst 0, 1) := by decide +kernel
theorem dX4_hideWords_1 : decode cX4_hideWords 1 = .ok (.istore_n 1, 1) := by decide +kernel
theorem dX4_hideWords_2 : decode cX4_hideWords 2 = .ok (.iload_n 1, 1) := by decide +kernel
theorem dX4_hideWords_3 : decode cX4_hideWords 3 = .ok (.aload_n 0, 1) := by decide +kernel
theorem dX4_hideWords_4 : decode cX4_hideWords 4 = .ok (.getfield 9, 3) := by decide +kernel
theorem dX4_hideWords_7 : decode cX4_hideWords 7 = .ok (.getfield 47, 3) := by decide +kernel
theorem dX4_hideWords_10 : decode cX4_hideWords 10 = .ok (.invokevirtual 53, 3) := by decide +kernel
theorem dX4_hideWords_13 : decode cX4_hideWords 13 = .ok (.if_icmp .ge 99, 3) := by decide +kernel
theorem dX4_hideWords_16 : decode cX4_hideWords 16 = .ok (.iconst (-1), 1) := by decide +kernel
theorem dX4_hideWords_17 : decode cX4_hideWords 17 = .ok (.istore_n 2, 1) := by decide +kernel
theorem dX4_hideWords_18 : decode cX4_hideWords 18 = .ok (.iconst 0, 1) := by decide +kernel
theorem dX4_hideWords_19 : decode cX4_hideWords 19 = .ok (.istore_n 3, 1) := by decide +kernel
theorem dX4_hideWords_20 : decode cX4_hideWords 20 = .ok (.iload_n 3, 1) := by decide +kernel
theorem dX4_hideWords_21 : decode cX4_hideWords 21 = .ok (.aload_n 0, 1) := by decide +kernel
theorem dX4_hideWords_22 : decode cX4_hideWords 22 = .ok (.getfield 15, 3) := by decide +kernel
theorem dX4_hideWords_25 : decode cX4_hideWords 25 = .ok (.invokevirtual 59, 3) := by decide +kernel
theorem dX4_hideWords_28 : decode cX4_hideWords 28 = .ok (.if_icmp .ge 43, 3) := by decide +kernel
theorem dX4_hideWords_31 : decode cX4_hideWords 31 = .ok (.iload_n 2, 1) := by decide +kernel
theorem dX4_hideWords_32 : decode cX4_hideWords 32 = .ok (.iconst (-1), 1) := by decide +kernel
theorem dX4_hideWords_33 : decode cX4_hideWords 33 = .ok (.if_icmp .ne 38, 3) := by decide +kernel
theorem dX4_hideWords_36 : decode cX4_hideWords 36 = .ok (.aload_n 0, 1) := by decide +kernel
theorem dX4_hideWords_37 : decode cX4_hideWords 37 = .ok (.getfield 9, 3) := by decide +kernel
theorem dX4_hideWords_40 : decode cX4_hideWords 40 = .ok (.iload_n 1, 1) := by decide +kernel
theorem dX4_hideWords_41 : decode cX4_hideWords 41 = .ok (.aload_n 0, 1) := by decide +kernel
theorem dX4_hideWords_42 : decode cX4_hideWords 42 = .ok (.getfield 15, 3) := by decide +kernel
theorem dX4_hideWords_45 : decode cX4_hideWords 45 = .ok (.iload_n 3, 1) := by decide +kernel
theorem dX4_hideWords_46 : decode cX4_hideWords 46 = .ok (.invokevirtual 62, 3) := by decide +kernel
theorem dX4_hideWords_49 : decode cX4_hideWords 49 = .ok (.aload_n 0, 1) := by decide +kernel
theorem dX4_hideWords_50 : decode cX4_hideWords 50 = .ok (.getfield 15, 3) := by decide +kernel
theorem dX4_hideWords_53 : decode cX4_hideWords 53 = .ok (.iload_n 3, 1) := by decide +kernel
theorem dX4_hideWords_54 : decode cX4_hideWords 54 = .ok (.invokevirtual 66, 3) := by decide +kernel
theorem dX4_hideWords_57 : decode cX4_hideWords 57 = .ok (.invokevirtual 69, 3) := by decide +kernel
theorem dX4_hideWords_60 : decode cX4_hideWords 60 = .ok (.ifCond .eq 5, 3) := by decide +kernel
theorem dX4_hideWords_63 : decode cX4_hideWords 63 = .ok (.iload_n 3, 1) := by decide +kernel
theorem dX4_hideWords_64 : decode cX4_hideWords 64 = .ok (.istore_n 2, 1) := by decide +kernel
theorem dX4_hideWords_65 : decode cX4_hideWords 65 = .ok (.iinc 3 1, 3) := by decide +kernel
theorem dX4_hideWords_68 : decode cX4_hideWords 68 = .ok (.goto (-48), 3) := by decide +kernel
theorem dX4_hideWords_71 : decode cX4_hideWords 71 = .ok (.aload_n 0, 1) := by decide +kernel
theorem dX4_hideWords_72 : decode cX4_hideWords 72 = .ok (.getfield 24, 3) := by decide +kernel
theorem dX4_hideWords_75 : decode cX4_hideWords 75 = .ok (.iload_n 1, 1) := by decide +kernel
theorem dX4_hideWords_76 : decode cX4_hideWords 76 = .ok (.iload_n 2, 1) := by decide +kernel
theorem dX4_hideWords_77 : decode cX4_hideWords 77 = .ok (.invokevirtual 73, 3) := by decide +kernel
theorem dX4_hideWords_80 : decode cX4_hideWords 80 = .ok (.aload_n 0, 1) := by decide +kernel
theorem dX4_hideWords_81 : decode cX4_hideWords 81 = .ok (.getfield 28, 3) := by decide +kernel
theorem dX4_hideWords_84 : decode cX4_hideWords 84 = .ok (.iload_n 1, 1) := by decide +kernel
theorem dX4_hideWords_85 : decode cX4_hideWords 85 = .ok (.aload_n 0, 1) := by decide +kernel
theorem dX4_hideWords_86 : decode cX4_hideWords 86 = .ok (.getfield 9, 3) := by decide +kernel
theorem dX4_hideWords_89 : decode cX4_hideWords 89 = .ok (.getfield 47, 3) := by decide +kernel
theorem dX4_hideWords_92 : decode cX4_hideWords 92 = .ok (.iload_n 1, 1) := by decide +kernel
theorem dX4_hideWords_93 : decode cX4_hideWords 93 = .ok (.aload_n 0, 1) := by decide +kernel
theorem dX4_hideWords_94 : decode cX4_hideWords 94 = .ok (.getfield 9, 3) := by decide +kernel
theorem dX4_hideWords_97 : decode cX4_hideWords 97 = .ok (.getfield 77, 3) := by decide +kernel
theorem dX4_hideWords_100 : decode cX4_hideWords 100 = .ok (.invokevirtual 80, 3) := by decide +kernel
theorem dX4_hideWords_103 : decode cX4_hideWords 103 = .ok (.invokevirtual 73, 3) := by decide +kernel
theorem dX4_hideWords_106 : decode cX4_hideWords 106 = .ok (.iinc 1 1, 3) := by decide +kernel
theorem dX4_hideWords_109 : decode cX4_hideWords 109 = .ok (.goto (-107), 3) := by decide +kernel
theorem dX4_hideWords_112 : decode cX4_hideWords 112 = .ok (.return_, 1) := by decide +kernel
set_option maxRecDepth 20000 in
theorem ggX4_flow_X3_at : GoodIn wsX4_flow wsX3_at := goodIn_r _ [11, 12, 63] (by decide +kernel) (by decide +kernel)
set_option maxRecDepth 20000 in
theorem gX4_flow_X3_at : GoodIn wsX4_flow (wsV RX4 87 RX3 yX3_at wsX3_at) := goodIn_app (goodIn_of _ (by decide +kernel)) ggX4_flow_X3_at
set_option maxRecDepth 20000 in
theorem ggX4_flow_X7_size : GoodIn wsX4_flow wsX7_size := goodIn_r _ [17, 18, 64, 65, 66, 67, 68] (by decide +kernel) (by decide +kernel)
set_option maxRecDepth 20000 in
theorem gX4_flow_X7_size : GoodIn wsX4_flow (wsV RX4 53 RX7 yX7_size wsX7_size) := goodIn_app (goodIn_of _ (by decide +kernel)) ggX4_flow_X7_size
set_option maxRecDepth 20000 in
theorem ggX4_flow_X4_widthUnder : GoodIn wsX4_flow wsX4_widthUnder := goodIn_r _ [23, 24, 25, 26, 22, 27, 28, 7, 8, 9, 10, 11, 12, 29, 30, 31, 32, 33, 34, 35, 36, 37, 38, 39, 40, 41, 42, 43, 44, 49, 50, 51, 52, 53, 54, 55, 56, 57, 63, 69, 70] (by decide +kernel) (by decide +kernel)
set_option maxRecDepth 20000 in
theorem gX4_flow_X4_widthUnder : GoodIn wsX4_flow (wsV RX4 90 RX4 yX4_widthUnder wsX4_widthUnder) := goodIn_app (goodIn_of _ (by decide +kernel)) ggX4_flow_X4_widthUnder
set_option maxRecDepth 20000 in
theorem ggX4_flow_X3_put : GoodIn wsX4_flow wsX3_put := goodIn_r _ [48, 12, 63] (by decide +kernel) (by decide +kernel)
set_option maxRecDepth 20000 in
theorem gX4_flow_X3_put : GoodIn wsX4_flow (wsV RX4 73 RX3 yX3_put wsX3_put) := goodIn_app (goodIn_of _ (by decide +kernel)) ggX4_flow_X3_put
theorem dX4_flow_0 : decode cX4_flow 0 = .ok (.aload_n 0, 1) := by decide +kernel
theorem dX4_flow_1 : decode cX4_flow 1 = .ok (.getfield 9, 3) := by decide +kernel
theorem dX4_flow_4 : decode cX4_flow 4 = .ok (.getfield 84, 3) := by decide +kernel
theorem dX4_flow_7 : decode cX4_flow 7 = .ok (.iconst 3, 1) := by decide +kernel
theorem dX4_flow_8 : decode cX4_flow 8 = .ok (.invokevirtual 87, 3) := by decide +kernel
theorem dX4_flow_11 : decode cX4_flow 11 = .ok (.istore_n 2, 1) := by decide +kernel
theorem dX4_flow_12 : decode cX4_flow 12 = .ok (.aload_n 0, 1) := by decide +kernel
theorem dX4_flow_13 : decode cX4_flow 13 = .ok (.getfield 9, 3) := by decide +kernel
theorem dX4_flow_16 : decode cX4_flow 16 = .ok (.getfield 84, 3) := by decide +kernel
theorem dX4_flow_19 : decode cX4_flow 19 = .ok (.iconst 4, 1) := by decide +kernel
theorem dX4_flow_20 : decode cX4_flow 20 = .ok (.invokevirtual 87, 3) := by decide +kernel
theorem dX4_flow_23 : decode cX4_flow 23 = .ok (.istore_n 3, 1) := by decide +kernel
theorem dX4_flow_24 : decode cX4_flow 24 = .ok (.iconst 0, 1) := by decide +kernel
theorem dX4_flow_25 : decode cX4_flow 25 = .ok (.istore 4, 2) := by decide +kernel
theorem dX4_flow_27 : decode cX4_flow 27 = .ok (.aload_n 0, 1) := by decide +kernel
theorem dX4_flow_28 : decode cX4_flow 28 = .ok (.iconst 0, 1) := by decide +kernel
theorem dX4_flow_29 : decode cX4_flow 29 = .ok (.putfield 43, 3) := by decide +kernel
theorem dX4_flow_32 : decode cX4_flow 32 = .ok (.iconst 0, 1) := by decide +kernel
theorem dX4_flow_33 : decode cX4_flow 33 = .ok (.istore 5, 2) := by decide +kernel
theorem dX4_flow_35 : decode cX4_flow 35 = .ok (.iload 5, 2) := by decide +kernel
theorem dX4_flow_37 : decode cX4_flow 37 = .ok (.aload_n 0, 1) := by decide +kernel
theorem dX4_flow_38 : decode cX4_flow 38 = .ok (.getfield 9, 3) := by decide +kernel
theorem dX4_flow_41 : decode cX4_flow 41 = .ok (.getfield 47, 3) := by decide +kernel
theorem dX4_flow_44 : decode cX4_flow 44 = .ok (.invokevirtual 53, 3) := by decide +kernel
theorem dX4_flow_47 : decode cX4_flow 47 = .ok (.if_icmp .ge 110, 3) := by decide +kernel
theorem dX4_flow_50 : decode cX4_flow 50 = .ok (.aload_n 0, 1) := by decide +kernel
theorem dX4_flow_51 : decode cX4_flow 51 = .ok (.aload_n 1, 1) := by decide +kernel
theorem dX4_flow_52 : decode cX4_flow 52 = .ok (.iload 5, 2) := by decide +kernel
theorem dX4_flow_54 : decode cX4_flow 54 = .ok (.invokevirtual 90, 3) := by decide +kernel
theorem dX4_flow_57 : decode cX4_flow 57 = .ok (.istore 6, 2) := by decide +kernel
theorem dX4_flow_59 : decode cX4_flow 59 = .ok (.iload 4, 2) := by decide +kernel
theorem dX4_flow_61 : decode cX4_flow 61 = .ok (.iload_n 2, 1) := by decide +kernel
theorem dX4_flow_62 : decode cX4_flow 62 = .ok (.iadd, 1) := by decide +kernel
theorem dX4_flow_63 : decode cX4_flow 63 = .ok (.istore 7, 2) := by decide +kernel
theorem dX4_flow_65 : decode cX4_flow 65 = .ok (.aload_n 0, 1) := by decide +kernel
theorem dX4_flow_66 : decode cX4_flow 66 = .ok (.getfield 43, 3) := by decide +kernel
theorem dX4_flow_69 : decode cX4_flow 69 = .ok (.ifCond .eq 12, 3) := by decide +kernel
theorem dX4_flow_72 : decode cX4_flow 72 = .ok (.iload 7, 2) := by decide +kernel
theorem dX4_flow_74 : decode cX4_flow 74 = .ok (.iload 6, 2) := by decide +kernel
theorem dX4_flow_76 : decode cX4_flow 76 = .ok (.iadd, 1) := by decide +kernel
theorem dX4_flow_77 : decode cX4_flow 77 = .ok (.iload_n 3, 1) := by decide +kernel
theorem dX4_flow_78 : decode cX4_flow 78 = .ok (.if_icmp .le 29, 3) := by decide +kernel
theorem dX4_flow_81 : decode cX4_flow 81 = .ok (.aload_n 0, 1) := by decide +kernel
theorem dX4_flow_82 : decode cX4_flow 82 = .ok (.getfield 40, 3) := by decide +kernel
theorem dX4_flow_85 : decode cX4_flow 85 = .ok (.aload_n 0, 1) := by decide +kernel
theorem dX4_flow_86 : decode cX4_flow 86 = .ok (.getfield 43, 3) := by decide +kernel
theorem dX4_flow_89 : decode cX4_flow 89 = .ok (.iload 5, 2) := by decide +kernel
theorem dX4_flow_91 : decode cX4_flow 91 = .ok (.invokevirtual 73, 3) := by decide +kernel
theorem dX4_flow_94 : decode cX4_flow 94 = .ok (.aload_n 0, 1) := by decide +kernel
theorem dX4_flow_95 : decode cX4_flow 95 = .ok (.dup, 1) := by decide +kernel
theorem dX4_flow_96 : decode cX4_flow 96 = .ok (.getfield 43, 3) := by decide +kernel
theorem dX4_flow_99 : decode cX4_flow 99 = .ok (.iconst 1, 1) := by decide +kernel
theorem dX4_flow_100 : decode cX4_flow 100 = .ok (.iadd, 1) := by decide +kernel
theorem dX4_flow_101 : decode cX4_flow 101 = .ok (.putfield 43, 3) := by decide +kernel
theorem dX4_flow_104 : decode cX4_flow 104 = .ok (.iconst 0, 1) := by decide +kernel
theorem dX4_flow_105 : decode cX4_flow 105 = .ok (.istore 7, 2) := by decide +kernel
theorem dX4_flow_107 : decode cX4_flow 107 = .ok (.iload 7, 2) := by decide +kernel
theorem dX4_flow_109 : decode cX4_flow 109 = .ok (.iload 6, 2) := by decide +kernel
theorem dX4_flow_111 : decode cX4_flow 111 = .ok (.iadd, 1) := by decide +kernel
theorem dX4_flow_112 : decode cX4_flow 112 = .ok (.istore 4, 2) := by decide +kernel
theorem dX4_flow_114 : decode cX4_flow 114 = .ok (.aload_n 0, 1) := by decide +kernel
theorem dX4_flow_115 : decode cX4_flow 115 = .ok (.getfield 31, 3) := by decide +kernel
theorem dX4_flow_118 : decode cX4_flow 118 = .ok (.iload 5, 2) := by decide +kernel
theorem dX4_flow_120 : decode cX4_flow 120 = .ok (.iload 6, 2) := by decide +kernel
theorem dX4_flow_122 : decode cX4_flow 122 = .ok (.invokevirtual 73, 3) := by decide +kernel
theorem dX4_flow_125 : decode cX4_flow 125 = .ok (.aload_n 0, 1) := by decide +kernel
theorem dX4_flow_126 : decode cX4_flow 126 = .ok (.getfield 34, 3) := by decide +kernel
theorem dX4_flow_129 : decode cX4_flow 129 = .ok (.iload 5, 2) := by decide +kernel
theorem dX4_flow_131 : decode cX4_flow 131 = .ok (.aload_n 0, 1) := by decide +kernel
theorem dX4_flow_132 : decode cX4_flow 132 = .ok (.getfield 43, 3) := by decide +kernel
theorem dX4_flow_135 : decode cX4_flow 135 = .ok (.iconst 1, 1) := by decide +kernel
theorem dX4_flow_136 : decode cX4_flow 136 = .ok (.isub, 1) := by decide +kernel
theorem dX4_flow_137 : decode cX4_flow 137 = .ok (.invokevirtual 73, 3) := by decide +kernel
theorem dX4_flow_140 : decode cX4_flow 140 = .ok (.aload_n 0, 1) := by decide +kernel
theorem dX4_flow_141 : decode cX4_flow 141 = .ok (.getfield 37, 3) := by decide +kernel
theorem dX4_flow_144 : decode cX4_flow 144 = .ok (.iload 5, 2) := by decide +kernel
theorem dX4_flow_146 : decode cX4_flow 146 = .ok (.iload 7, 2) := by decide +kernel
theorem dX4_flow_148 : decode cX4_flow 148 = .ok (.invokevirtual 73, 3) := by decide +kernel
theorem dX4_flow_151 : decode cX4_flow 151 = .ok (.iinc 5 1, 3) := by decide +kernel
theorem dX4_flow_154 : decode cX4_flow 154 = .ok (.goto (-119), 3) := by decide +kernel
theorem dX4_flow_157 : decode cX4_flow 157 = .ok (.return_, 1) := by decide +kernel
set_option maxRecDepth 20000 in
theorem ggX4_widthUnder_X4_isHidden : GoodIn wsX4_widthUnder wsX4_isHidden := goodIn_r _ [5, 6, 7, 8, 9, 10, 11, 12, 29, 30, 31, 32, 33, 34, 35, 36, 37, 38] (by decide +kernel) (by decide +kernel)
set_option maxRecDepth 20000 in
theorem gX4_widthUnder_X4_isHidden : GoodIn wsX4_widthUnder (wsV RX4 94 RX4 yX4_isHidden wsX4_isHidden) := goodIn_app (goodIn_of _ (by decide +kernel)) ggX4_widthUnder_X4_isHidden
set_option maxRecDepth 20000 in
theorem ggX4_widthUnder_X4_formOf : GoodIn wsX4_widthUnder wsX4_formOf := goodIn_r _ [16, 6, 7, 8, 9, 10, 11, 12, 29, 30, 31, 32, 33, 34, 35, 36, 37, 38] (by decide +kernel) (by decide +kernel)
set_option maxRecDepth 20000 in
theorem gX4_widthUnder_X4_formOf : GoodIn wsX4_widthUnder (wsV RX4 98 RX4 yX4_formOf wsX4_formOf) := goodIn_app (goodIn_of _ (by decide +kernel)) ggX4_widthUnder_X4_formOf
set_option maxRecDepth 20000 in
theorem ggX4_widthUnder_X0_widthOf : GoodIn wsX4_widthUnder wsX0_widthOf := goodIn_r _ [21, 22, 23, 8, 9, 10, 11, 12, 39, 40, 38] (by decide +kernel) (by decide +kernel)
set_option maxRecDepth 20000 in
theorem gX4_widthUnder_X0_widthOf : GoodIn wsX4_widthUnder (wsV RX4 101 RX0 yX0_widthOf wsX0_widthOf) := goodIn_app (goodIn_of _ (by decide +kernel)) ggX4_widthUnder_X0_widthOf
set_option maxRecDepth 20000 in
theorem ggX4_widthUnder_X4_ownWidthOf : GoodIn wsX4_widthUnder wsX4_ownWidthOf := goodIn_r _ [27, 28, 7, 8, 9, 10, 11, 12, 29, 30, 31, 32, 33, 34, 35, 36, 37, 38] (by decide +kernel) (by decide +kernel)
set_option maxRecDepth 20000 in
theorem gX4_widthUnder_X4_ownWidthOf : GoodIn wsX4_widthUnder (wsV RX4 105 RX4 yX4_ownWidthOf wsX4_ownWidthOf) := goodIn_app (goodIn_of _ (by decide +kernel)) ggX4_widthUnder_X4_ownWidthOf
theorem dX4_widthUnder_0 : decode cX4_widthUnder 0 = .ok (.aload_n 0, 1) := by decide +kernel
theorem dX4_widthUnder_1 : decode cX4_widthUnder 1 = .ok (.iload_n 2, 1) := by decide +kernel
theorem dX4_widthUnder_2 : decode cX4_widthUnder 2 = .ok (.invokevirtual 94, 3) := by decide +kernel
theorem dX4_widthUnder_5 : decode cX4_widthUnder 5 = .ok (.ifCond .eq 15, 3) := by decide +kernel
theorem dX4_widthUnder_8 : decode cX4_widthUnder 8 = .ok (.aload_n 1, 1) := by decide +kernel
theorem dX4_widthUnder_9 : decode cX4_widthUnder 9 = .ok (.aload_n 0, 1) := by decide +kernel
theorem dX4_widthUnder_10 : decode cX4_widthUnder 10 = .ok (.iload_n 2, 1) := by decide +kernel
theorem dX4_widthUnder_11 : decode cX4_widthUnder 11 = .ok (.invokevirtual 98, 3) := by decide +kernel
theorem dX4_widthUnder_14 : decode cX4_widthUnder 14 = .ok (.invokevirtual 101, 3) := by decide +kernel
theorem dX4_widthUnder_17 : decode cX4_widthUnder 17 = .ok (.goto 8, 3) := by decide +kernel
theorem dX4_widthUnder_20 : decode cX4_widthUnder 20 = .ok (.aload_n 0, 1) := by decide +kernel
theorem dX4_widthUnder_21 : decode cX4_widthUnder 21 = .ok (.iload_n 2, 1) := by decide +kernel
theorem dX4_widthUnder_22 : decode cX4_widthUnder 22 = .ok (.invokevirtual 105, 3) := by decide +kernel
theorem dX4_widthUnder_25 : decode cX4_widthUnder 25 = .ok (.ireturn, 1) := by decide +kernel
set_option maxRecDepth 20000 in
theorem ggX4_formOf_X3_at : GoodIn wsX4_formOf wsX3_at := goodIn_r _ [6, 7, 17] (by decide +kernel) (by decide +kernel)
set_option maxRecDepth 20000 in
theorem gX4_formOf_X3_at : GoodIn wsX4_formOf (wsV RX4 87 RX3 yX3_at wsX3_at) := goodIn_app (goodIn_of _ (by decide +kernel)) ggX4_formOf_X3_at
theorem dX4_formOf_0 : decode cX4_formOf 0 = .ok (.aload_n 0, 1) := by decide +kernel
theorem dX4_formOf_1 : decode cX4_formOf 1 = .ok (.getfield 24, 3) := by decide +kernel
theorem dX4_formOf_4 : decode cX4_formOf 4 = .ok (.iload_n 1, 1) := by decide +kernel
theorem dX4_formOf_5 : decode cX4_formOf 5 = .ok (.invokevirtual 87, 3) := by decide +kernel
theorem dX4_formOf_8 : decode cX4_formOf 8 = .ok (.ireturn, 1) := by decide +kernel
set_option maxRecDepth 20000 in
theorem ggX4_isHidden_X3_at : GoodIn wsX4_isHidden wsX3_at := goodIn_r _ [6, 7, 17] (by decide +kernel) (by decide +kernel)
set_option maxRecDepth 20000 in
theorem gX4_isHidden_X3_at : GoodIn wsX4_isHidden (wsV RX4 87 RX3 yX3_at wsX3_at) := goodIn_app (goodIn_of _ (by decide +kernel)) ggX4_isHidden_X3_at
theorem dX4_isHidden_0 : decode cX4_isHidden 0 = .ok (.aload_n 0, 1) := by decide +kernel
theorem dX4_isHidden_1 : decode cX4_isHidden 1 = .ok (.getfield 24, 3) := by decide +kernel
theorem dX4_isHidden_4 : decode cX4_isHidden 4 = .ok (.iload_n 1, 1) := by decide +kernel
theorem dX4_isHidden_5 : decode cX4_isHidden 5 = .ok (.invokevirtual 87, 3) := by decide +kernel
theorem dX4_isHidden_8 : decode cX4_isHidden 8 = .ok (.iconst (-1), 1) := by decide +kernel
theorem dX4_isHidden_9 : decode cX4_isHidden 9 = .ok (.if_icmp .eq 7, 3) := by decide +kernel
theorem dX4_isHidden_12 : decode cX4_isHidden 12 = .ok (.iconst 1, 1) := by decide +kernel
theorem dX4_isHidden_13 : decode cX4_isHidden 13 = .ok (.goto 4, 3) := by decide +kernel
theorem dX4_isHidden_16 : decode cX4_isHidden 16 = .ok (.iconst 0, 1) := by decide +kernel
theorem dX4_isHidden_17 : decode cX4_isHidden 17 = .ok (.ireturn, 1) := by decide +kernel
set_option maxRecDepth 20000 in
theorem ggX4_ownWidthOf_X3_at : GoodIn wsX4_ownWidthOf wsX3_at := goodIn_r _ [6, 7, 17] (by decide +kernel) (by decide +kernel)
set_option maxRecDepth 20000 in
theorem gX4_ownWidthOf_X3_at : GoodIn wsX4_ownWidthOf (wsV RX4 87 RX3 yX3_at wsX3_at) := goodIn_app (goodIn_of _ (by decide +kernel)) ggX4_ownWidthOf_X3_at
theorem dX4_ownWidthOf_0 : decode cX4_ownWidthOf 0 = .ok (.aload_n 0, 1) := by decide +kernel
theorem dX4_ownWidthOf_1 : decode cX4_ownWidthOf 1 = .ok (.getfield 28, 3) := by decide +kernel
theorem dX4_ownWidthOf_4 : decode cX4_ownWidthOf 4 = .ok (.iload_n 1, 1) := by decide +kernel
theorem dX4_ownWidthOf_5 : decode cX4_ownWidthOf 5 = .ok (.invokevirtual 87, 3) := by decide +kernel
theorem dX4_ownWidthOf_8 : decode cX4_ownWidthOf 8 = .ok (.ireturn, 1) := by decide +kernel
set_option maxRecDepth 20000 in
theorem ggX4_shownWidthOf_X3_at : GoodIn wsX4_shownWidthOf wsX3_at := goodIn_r _ [6, 7, 17] (by decide +kernel) (by decide +kernel)
set_option maxRecDepth 20000 in
theorem gX4_shownWidthOf_X3_at : GoodIn wsX4_shownWidthOf (wsV RX4 87 RX3 yX3_at wsX3_at) := goodIn_app (goodIn_of _ (by decide +kernel)) ggX4_shownWidthOf_X3_at
theorem dX4_shownWidthOf_0 : decode cX4_shownWidthOf 0 = .ok (.aload_n 0, 1) := by decide +kernel
theorem dX4_shownWidthOf_1 : decode cX4_shownWidthOf 1 = .ok (.getfield 31, 3) := by decide +kernel
theorem dX4_shownWidthOf_4 : decode cX4_shownWidthOf 4 = .ok (.iload_n 1, 1) := by decide +kernel
theorem dX4_shownWidthOf_5 : decode cX4_shownWidthOf 5 = .ok (.invokevirtual 87, 3) := by decide +kernel
theorem dX4_shownWidthOf_8 : decode cX4_shownWidthOf 8 = .ok (.ireturn, 1) := by decide +kernel
set_option maxRecDepth 20000 in
theorem ggX4_lineOf_X3_at : GoodIn wsX4_lineOf wsX3_at := goodIn_r _ [6, 7, 17] (by decide +kernel) (by decide +kernel)
set_option maxRecDepth 20000 in
theorem gX4_lineOf_X3_at : GoodIn wsX4_lineOf (wsV RX4 87 RX3 yX3_at wsX3_at) := goodIn_app (goodIn_of _ (by decide +kernel)) ggX4_lineOf_X3_at
theorem dX4_lineOf_0 : decode cX4_lineOf 0 = .ok (.aload_n 0, 1) := by decide +kernel
theorem dX4_lineOf_1 : decode cX4_lineOf 1 = .ok (.getfield 34, 3) := by decide +kernel
theorem dX4_lineOf_4 : decode cX4_lineOf 4 = .ok (.iload_n 1, 1) := by decide +kernel
theorem dX4_lineOf_5 : decode cX4_lineOf 5 = .ok (.invokevirtual 87, 3) := by decide +kernel
theorem dX4_lineOf_8 : decode cX4_lineOf 8 = .ok (.ireturn, 1) := by decide +kernel
set_option maxRecDepth 20000 in
theorem ggX4_placeOf_X3_at : GoodIn wsX4_placeOf wsX3_at := goodIn_r _ [6, 7, 17] (by decide +kernel) (by decide +kernel)
set_option maxRecDepth 20000 in
theorem gX4_placeOf_X3_at : GoodIn wsX4_placeOf (wsV RX4 87 RX3 yX3_at wsX3_at) := goodIn_app (goodIn_of _ (by decide +kernel)) ggX4_placeOf_X3_at
theorem dX4_placeOf_0 : decode cX4_placeOf 0 = .ok (.aload_n 0, 1) := by decide +kernel
theorem dX4_placeOf_1 : decode cX4_placeOf 1 = .ok (.getfield 37, 3) := by decide +kernel
theorem dX4_placeOf_4 : decode cX4_placeOf 4 = .ok (.iload_n 1, 1) := by decide +kernel
theorem dX4_placeOf_5 : decode cX4_placeOf 5 = .ok (.invokevirtual 87, 3) := by decide +kernel
theorem dX4_placeOf_8 : decode cX4_placeOf 8 = .ok (.ireturn, 1) := by decide +kernel
theorem dX4_lineCount_0 : decode cX4_lineCount 0 = .ok (.aload_n 0, 1) := by decide +kernel
theorem dX4_lineCount_1 : decode cX4_lineCount 1 = .ok (.getfield 43, 3) := by decide +kernel
theorem dX4_lineCount_4 : decode cX4_lineCount 4 = .ok (.ireturn, 1) := by decide +kernel
theorem dX4_hasLine_0 : decode cX4_hasLine 0 = .ok (.iload_n 1, 1) := by decide +kernel
theorem dX4_hasLine_1 : decode cX4_hasLine 1 = .ok (.ifCond .lt 15, 3) := by decide +kernel
theorem dX4_hasLine_4 : decode cX4_hasLine 4 = .ok (.iload_n 1, 1) := by decide +kernel
theorem dX4_hasLine_5 : decode cX4_hasLine 5 = .ok (.aload_n 0, 1) := by decide +kernel
theorem dX4_hasLine_6 : decode cX4_hasLine 6 = .ok (.getfield 43, 3) := by decide +kernel
theorem dX4_hasLine_9 : decode cX4_hasLine 9 = .ok (.if_icmp .ge 7, 3) := by decide +kernel
theorem dX4_hasLine_12 : decode cX4_hasLine 12 = .ok (.iconst 1, 1) := by decide +kernel
theorem dX4_hasLine_13 : decode cX4_hasLine 13 = .ok (.goto 4, 3) := by decide +kernel
theorem dX4_hasLine_16 : decode cX4_hasLine 16 = .ok (.iconst 0, 1) := by decide +kernel
theorem dX4_hasLine_17 : decode cX4_hasLine 17 = .ok (.ireturn, 1) := by decide +kernel
set_option maxRecDepth 20000 in
theorem ggX4_firstWordOf_X3_at : GoodIn wsX4_firstWordOf wsX3_at := goodIn_r _ [6, 7, 17] (by decide +kernel) (by decide +kernel)
set_option maxRecDepth 20000 in
theorem gX4_firstWordOf_X3_at : GoodIn wsX4_firstWordOf (wsV RX4 87 RX3 yX3_at wsX3_at) := goodIn_app (goodIn_of _ (by decide +kernel)) ggX4_firstWordOf_X3_at
theorem dX4_firstWordOf_0 : decode cX4_firstWordOf 0 = .ok (.aload_n 0, 1) := by decide +kernel
theorem dX4_firstWordOf_1 : decode cX4_firstWordOf 1 = .ok (.getfield 40, 3) := by decide +kernel
theorem dX4_firstWordOf_4 : decode cX4_firstWordOf 4 = .ok (.iload_n 1, 1) := by decide +kernel
theorem dX4_firstWordOf_5 : decode cX4_firstWordOf 5 = .ok (.invokevirtual 87, 3) := by decide +kernel
theorem dX4_firstWordOf_8 : decode cX4_firstWordOf 8 = .ok (.ireturn, 1) := by decide +kernel
set_option maxRecDepth 20000 in
theorem ggX4_firstWordBehind_X3_at : GoodIn wsX4_firstWordBehind wsX3_at := goodIn_r _ [8, 9, 30] (by decide +kernel) (by decide +kernel)
set_option maxRecDepth 20000 in
theorem gX4_firstWordBehind_X3_at : GoodIn wsX4_firstWordBehind (wsV RX4 87 RX3 yX3_at wsX3_at) := goodIn_app (goodIn_of _ (by decide +kernel)) ggX4_firstWordBehind_X3_at
set_option maxRecDepth 20000 in
theorem ggX4_firstWordBehind_X7_size : GoodIn wsX4_firstWordBehind wsX7_size := goodIn_r _ [14, 15, 31, 32, 33, 34, 35] (by decide +kernel) (by decide +kernel)
set_option maxRecDepth 20000 in
theorem gX4_firstWordBehind_X7_size : GoodIn wsX4_firstWordBehind (wsV RX4 53 RX7 yX7_size wsX7_size) := goodIn_app (goodIn_of _ (by decide +kernel)) ggX4_firstWordBehind_X7_size
theorem dX4_firstWordBehind_0 : decode cX4_firstWordBehind 0 = .ok (.iload_n 1, 1) := by decide +kernel
theorem dX4_firstWordBehind_1 : decode cX4_firstWordBehind 1 = .ok (.iconst 1, 1) := by decide +kernel
theorem dX4_firstWordBehind_2 : decode cX4_firstWordBehind 2 = .ok (.iadd, 1) := by decide +kernel
theorem dX4_firstWordBehind_3 : decode cX4_firstWordBehind 3 = .ok (.aload_n 0, 1) := by decide +kernel
theorem dX4_firstWordBehind_4 : decode cX4_firstWordBehind 4 = .ok (.getfield 43, 3) := by decide +kernel
theorem dX4_firstWordBehind_7 : decode cX4_firstWordBehind 7 = .ok (.if_icmp .ge 16, 3) := by decide +kernel
theorem dX4_firstWordBehind_10 : decode cX4_firstWordBehind 10 = .ok (.aload_n 0, 1) := by decide +kernel
theorem dX4_firstWordBehind_11 : decode cX4_firstWordBehind 11 = .ok (.getfield 40, 3) := by decide +kernel
theorem dX4_firstWordBehind_14 : decode cX4_firstWordBehind 14 = .ok (.iload_n 1, 1) := by decide +kernel
theorem dX4_firstWordBehind_15 : decode cX4_firstWordBehind 15 = .ok (.iconst 1, 1) := by decide +kernel
theorem dX4_firstWordBehind_16 : decode cX4_firstWordBehind 16 = .ok (.iadd, 1) := by decide +kernel
theorem dX4_firstWordBehind_17 : decode cX4_firstWordBehind 17 = .ok (.invokevirtual 87, 3) := by decide +kernel
theorem dX4_firstWordBehind_20 : decode cX4_firstWordBehind 20 = .ok (.goto 13, 3) := by decide +kernel
theorem dX4_firstWordBehind_23 : decode cX4_firstWordBehind 23 = .ok (.aload_n 0, 1) := by decide +kernel
theorem dX4_firstWordBehind_24 : decode cX4_firstWordBehind 24 = .ok (.getfield 9, 3) := by decide +kernel
theorem dX4_firstWordBehind_27 : decode cX4_firstWordBehind 27 = .ok (.getfield 47, 3) := by decide +kernel
theorem dX4_firstWordBehind_30 : decode cX4_firstWordBehind 30 = .ok (.invokevirtual 53, 3) := by decide +kernel
theorem dX4_firstWordBehind_33 : decode cX4_firstWordBehind 33 = .ok (.ireturn, 1) := by decide +kernel
set_option maxRecDepth 20000 in
theorem ggX4_widthBetween_X4_shownWidthOf : GoodIn wsX4_widthBetween wsX4_shownWidthOf := goodIn_r _ [6, 7, 8, 9, 10, 11, 12, 13, 14, 15, 16, 17, 18, 19, 20, 21, 22, 28] (by decide +kernel) (by decide +kernel)
set_option maxRecDepth 20000 in
theorem gX4_widthBetween_X4_shownWidthOf : GoodIn wsX4_widthBetween (wsV RX4 108 RX4 yX4_shownWidthOf wsX4_shownWidthOf) := goodIn_app (goodIn_of _ (by decide +kernel)) ggX4_widthBetween_X4_shownWidthOf
set_option maxRecDepth 20000 in
theorem ggX4_widthBetween_X3_at : GoodIn wsX4_widthBetween wsX3_at := goodIn_r _ [12, 13, 28] (by decide +kernel) (by decide +kernel)
set_option maxRecDepth 20000 in
theorem gX4_widthBetween_X3_at : GoodIn wsX4_widthBetween (wsV RX4 87 RX3 yX3_at wsX3_at) := goodIn_app (goodIn_of _ (by decide +kernel)) ggX4_widthBetween_X3_at
theorem dX4_widthBetween_0 : decode cX4_widthBetween 0 = .ok (.iconst 0, 1) := by decide +kernel
theorem dX4_widthBetween_1 : decode cX4_widthBetween 1 = .ok (.istore_n 3, 1) := by decide +kernel
theorem dX4_widthBetween_2 : decode cX4_widthBetween 2 = .ok (.iload_n 1, 1) := by decide +kernel
theorem dX4_widthBetween_3 : decode cX4_widthBetween 3 = .ok (.istore 4, 2) := by decide +kernel
theorem dX4_widthBetween_5 : decode cX4_widthBetween 5 = .ok (.iload 4, 2) := by decide +kernel
theorem dX4_widthBetween_7 : decode cX4_widthBetween 7 = .ok (.iload_n 2, 1) := by decide +kernel
theorem dX4_widthBetween_8 : decode cX4_widthBetween 8 = .ok (.if_icmp .ge 38, 3) := by decide +kernel
theorem dX4_widthBetween_11 : decode cX4_widthBetween 11 = .ok (.iload_n 3, 1) := by decide +kernel
theorem dX4_widthBetween_12 : decode cX4_widthBetween 12 = .ok (.aload_n 0, 1) := by decide +kernel
theorem dX4_widthBetween_13 : decode cX4_widthBetween 13 = .ok (.iload 4, 2) := by decide +kernel
theorem dX4_widthBetween_15 : decode cX4_widthBetween 15 = .ok (.invokevirtual 108, 3) := by decide +kernel
theorem dX4_widthBetween_18 : decode cX4_widthBetween 18 = .ok (.iadd, 1) := by decide +kernel
theorem dX4_widthBetween_19 : decode cX4_widthBetween 19 = .ok (.istore_n 3, 1) := by decide +kernel
theorem dX4_widthBetween_20 : decode cX4_widthBetween 20 = .ok (.iload 4, 2) := by decide +kernel
theorem dX4_widthBetween_22 : decode cX4_widthBetween 22 = .ok (.iload_n 1, 1) := by decide +kernel
theorem dX4_widthBetween_23 : decode cX4_widthBetween 23 = .ok (.if_icmp .le 17, 3) := by decide +kernel
theorem dX4_widthBetween_26 : decode cX4_widthBetween 26 = .ok (.iload_n 3, 1) := by decide +kernel
theorem dX4_widthBetween_27 : decode cX4_widthBetween 27 = .ok (.aload_n 0, 1) := by decide +kernel
theorem dX4_widthBetween_28 : decode cX4_widthBetween 28 = .ok (.getfield 9, 3) := by decide +kernel
theorem dX4_widthBetween_31 : decode cX4_widthBetween 31 = .ok (.getfield 84, 3) := by decide +kernel
theorem dX4_widthBetween_34 : decode cX4_widthBetween 34 = .ok (.iconst 3, 1) := by decide +kernel
theorem dX4_widthBetween_35 : decode cX4_widthBetween 35 = .ok (.invokevirtual 87, 3) := by decide +kernel
theorem dX4_widthBetween_38 : decode cX4_widthBetween 38 = .ok (.iadd, 1) := by decide +kernel
theorem dX4_widthBetween_39 : decode cX4_widthBetween 39 = .ok (.istore_n 3, 1) := by decide +kernel
theorem dX4_widthBetween_40 : decode cX4_widthBetween 40 = .ok (.iinc 4 1, 3) := by decide +kernel
theorem dX4_widthBetween_43 : decode cX4_widthBetween 43 = .ok (.goto (-38), 3) := by decide +kernel
theorem dX4_widthBetween_46 : decode cX4_widthBetween 46 = .ok (.iload_n 3, 1) := by decide +kernel
theorem dX4_widthBetween_47 : decode cX4_widthBetween 47 = .ok (.ireturn, 1) := by decide +kernel
set_option maxRecDepth 20000 in
theorem ggX4_barsBetween_X4_isHidden : GoodIn wsX4_barsBetween wsX4_isHidden := goodIn_r _ [5, 6, 7, 8, 9, 10, 11, 12, 13, 14, 15, 16, 17, 18, 19, 20, 21, 22] (by decide +kernel) (by decide +kernel)
set_option maxRecDepth 20000 in
theorem gX4_barsBetween_X4_isHidden : GoodIn wsX4_barsBetween (wsV RX4 94 RX4 yX4_isHidden wsX4_isHidden) := goodIn_app (goodIn_of _ (by decide +kernel)) ggX4_barsBetween_X4_isHidden
theorem dX4_barsBetween_0 : decode cX4_barsBetween 0 = .ok (.iconst 0, 1) := by decide +kernel
theorem dX4_barsBetween_1 : decode cX4_barsBetween 1 = .ok (.istore_n 3, 1) := by decide +kernel
theorem dX4_barsBetween_2 : decode cX4_barsBetween 2 = .ok (.iload_n 1, 1) := by decide +kernel
theorem dX4_barsBetween_3 : decode cX4_barsBetween 3 = .ok (.istore 4, 2) := by decide +kernel
theorem dX4_barsBetween_5 : decode cX4_barsBetween 5 = .ok (.iload 4, 2) := by decide +kernel
theorem dX4_barsBetween_7 : decode cX4_barsBetween 7 = .ok (.iload_n 2, 1) := by decide +kernel
theorem dX4_barsBetween_8 : decode cX4_barsBetween 8 = .ok (.if_icmp .ge 21, 3) := by decide +kernel
theorem dX4_barsBetween_11 : decode cX4_barsBetween 11 = .ok (.aload_n 0, 1) := by decide +kernel
theorem dX4_barsBetween_12 : decode cX4_barsBetween 12 = .ok (.iload 4, 2) := by decide +kernel
theorem dX4_barsBetween_14 : decode cX4_barsBetween 14 = .ok (.invokevirtual 94, 3) := by decide +kernel
theorem dX4_barsBetween_17 : decode cX4_barsBetween 17 = .ok (.ifCond .eq 6, 3) := by decide +kernel
theorem dX4_barsBetween_20 : decode cX4_barsBetween 20 = .ok (.iinc 3 1, 3) := by decide +kernel
theorem dX4_barsBetween_23 : decode cX4_barsBetween 23 = .ok (.iinc 4 1, 3) := by decide +kernel
theorem dX4_barsBetween_26 : decode cX4_barsBetween 26 = .ok (.goto (-21), 3) := by decide +kernel
theorem dX4_barsBetween_29 : decode cX4_barsBetween 29 = .ok (.iload_n 3, 1) := by decide +kernel
theorem dX4_barsBetween_30 : decode cX4_barsBetween 30 = .ok (.ireturn, 1) := by decide +kernel
set_option maxRecDepth 20000 in
theorem ggX4_wordsHiddenAs_X7_size : GoodIn wsX4_wordsHiddenAs wsX7_size := goodIn_r _ [6, 7, 34, 35, 36, 37, 38] (by decide +kernel) (by decide +kernel)
set_option maxRecDepth 20000 in
theorem gX4_wordsHiddenAs_X7_size : GoodIn wsX4_wordsHiddenAs (wsV RX4 53 RX7 yX7_size wsX7_size) := goodIn_app (goodIn_of _ (by decide +kernel)) ggX4_wordsHiddenAs_X7_size
set_option maxRecDepth 20000 in
theorem ggX4_wordsHiddenAs_X4_formOf : GoodIn wsX4_wordsHiddenAs wsX4_formOf := goodIn_r _ [12, 13, 14, 15, 16, 17, 18, 19, 20, 21, 22, 23, 24, 25, 26, 27, 28, 39] (by decide +kernel) (by decide +kernel)
set_option maxRecDepth 20000 in
theorem gX4_wordsHiddenAs_X4_formOf : GoodIn wsX4_wordsHiddenAs (wsV RX4 98 RX4 yX4_formOf wsX4_formOf) := goodIn_app (goodIn_of _ (by decide +kernel)) ggX4_wordsHiddenAs_X4_formOf
theorem dX4_wordsHiddenAs_0 : decode cX4_wordsHiddenAs 0 = .ok (.iconst 0, 1) := by decide +kernel
theorem dX4_wordsHiddenAs_1 : decode cX4_wordsHiddenAs 1 = .ok (.istore_n 2, 1) := by decide +kernel
theorem dX4_wordsHiddenAs_2 : decode cX4_wordsHiddenAs 2 = .ok (.iconst 0, 1) := by decide +kernel
theorem dX4_wordsHiddenAs_3 : decode cX4_wordsHiddenAs 3 = .ok (.istore_n 3, 1) := by decide +kernel
theorem dX4_wordsHiddenAs_4 : decode cX4_wordsHiddenAs 4 = .ok (.iload_n 3, 1) := by decide +kernel
theorem dX4_wordsHiddenAs_5 : decode cX4_wordsHiddenAs 5 = .ok (.aload_n 0, 1) := by decide +kernel
theorem dX4_wordsHiddenAs_6 : decode cX4_wordsHiddenAs 6 = .ok (.getfield 9, 3) := by decide +kernel
theorem dX4_wordsHiddenAs_9 : decode cX4_wordsHiddenAs 9 = .ok (.getfield 47, 3) := by decide +kernel
theorem dX4_wordsHiddenAs_12 : decode cX4_wordsHiddenAs 12 = .ok (.invokevirtual 53, 3) := by decide +kernel
theorem dX4_wordsHiddenAs_15 : decode cX4_wordsHiddenAs 15 = .ok (.if_icmp .ge 21, 3) := by decide +kernel
theorem dX4_wordsHiddenAs_18 : decode cX4_wordsHiddenAs 18 = .ok (.aload_n 0, 1) := by decide +kernel
theorem dX4_wordsHiddenAs_19 : decode cX4_wordsHiddenAs 19 = .ok (.iload_n 3, 1) := by decide +kernel
theorem dX4_wordsHiddenAs_20 : decode cX4_wordsHiddenAs 20 = .ok (.invokevirtual 98, 3) := by decide +kernel
theorem dX4_wordsHiddenAs_23 : decode cX4_wordsHiddenAs 23 = .ok (.iload_n 1, 1) := by decide +kernel
theorem dX4_wordsHiddenAs_24 : decode cX4_wordsHiddenAs 24 = .ok (.if_icmp .ne 6, 3) := by decide +kernel
theorem dX4_wordsHiddenAs_27 : decode cX4_wordsHiddenAs 27 = .ok (.iinc 2 1, 3) := by decide +kernel
theorem dX4_wordsHiddenAs_30 : decode cX4_wordsHiddenAs 30 = .ok (.iinc 3 1, 3) := by decide +kernel
theorem dX4_wordsHiddenAs_33 : decode cX4_wordsHiddenAs 33 = .ok (.goto (-29), 3) := by decide +kernel
theorem dX4_wordsHiddenAs_36 : decode cX4_wordsHiddenAs 36 = .ok (.iload_n 2, 1) := by decide +kernel
theorem dX4_wordsHiddenAs_37 : decode cX4_wordsHiddenAs 37 = .ok (.ireturn, 1) := by decide +kernel
set_option maxRecDepth 20000 in
theorem ggX4_sumOfShownWidths_X7_size : GoodIn wsX4_sumOfShownWidths wsX7_size := goodIn_r _ [6, 7, 54, 55, 56, 57, 58] (by decide +kernel) (by decide +kernel)
set_option maxRecDepth 20000 in
theorem gX4_sumOfShownWidths_X7_size : GoodIn wsX4_sumOfShownWidths (wsV RX4 53 RX7 yX7_size wsX7_size) := goodIn_app (goodIn_of _ (by decide +kernel)) ggX4_sumOfShownWidths_X7_size
set_option maxRecDepth 20000 in
theorem ggX4_sumOfShownWidths_X4_widthUnder : GoodIn wsX4_sumOfShownWidths wsX4_widthUnder := goodIn_r _ [12, 13, 14, 15, 11, 16, 17, 18, 19, 20, 21, 22, 23, 24, 25, 26, 27, 28, 29, 30, 31, 32, 33, 34, 35, 36, 37, 38, 39, 40, 41, 42, 43, 44, 45, 46, 47, 48, 59, 60, 61] (by decide +kernel) (by decide +kernel)
set_option maxRecDepth 20000 in
theorem gX4_sumOfShownWidths_X4_widthUnder : GoodIn wsX4_sumOfShownWidths (wsV RX4 90 RX4 yX4_widthUnder wsX4_widthUnder) := goodIn_app (goodIn_of _ (by decide +kernel)) ggX4_sumOfShownWidths_X4_widthUnder
theorem dX4_sumOfShownWidths_0 : decode cX4_sumOfShownWidths 0 = .ok (.iconst 0, 1) := by decide +kernel
theorem dX4_sumOfShownWidths_1 : decode cX4_sumOfShownWidths 1 = .ok (.istore_n 2, 1) := by decide +kernel
theorem dX4_sumOfShownWidths_2 : decode cX4_sumOfShownWidths 2 = .ok (.iconst 0, 1) := by decide +kernel
theorem dX4_sumOfShownWidths_3 : decode cX4_sumOfShownWidths 3 = .ok (.istore_n 3, 1) := by decide +kernel
theorem dX4_sumOfShownWidths_4 : decode cX4_sumOfShownWidths 4 = .ok (.iload_n 3, 1) := by decide +kernel
theorem dX4_sumOfShownWidths_5 : decode cX4_sumOfShownWidths 5 = .ok (.aload_n 0, 1) := by decide +kernel
theorem dX4_sumOfShownWidths_6 : decode cX4_sumOfShownWidths 6 = .ok (.getfield 9, 3) := by decide +kernel
theorem dX4_sumOfShownWidths_9 : decode cX4_sumOfShownWidths 9 = .ok (.getfield 47, 3) := by decide +kernel
theorem dX4_sumOfShownWidths_12 : decode cX4_sumOfShownWidths 12 = .ok (.invokevirtual 53, 3) := by decide +kernel
theorem dX4_sumOfShownWidths_15 : decode cX4_sumOfShownWidths 15 = .ok (.if_icmp .ge 18, 3) := by decide +kernel
theorem dX4_sumOfShownWidths_18 : decode cX4_sumOfShownWidths 18 = .ok (.iload_n 2, 1) := by decide +kernel
theorem dX4_sumOfShownWidths_19 : decode cX4_sumOfShownWidths 19 = .ok (.aload_n 0, 1) := by decide +kernel
theorem dX4_sumOfShownWidths_20 : decode cX4_sumOfShownWidths 20 = .ok (.aload_n 1, 1) := by decide +kernel
theorem dX4_sumOfShownWidths_21 : decode cX4_sumOfShownWidths 21 = .ok (.iload_n 3, 1) := by decide +kernel
theorem dX4_sumOfShownWidths_22 : decode cX4_sumOfShownWidths 22 = .ok (.invokevirtual 90, 3) := by decide +kernel
theorem dX4_sumOfShownWidths_25 : decode cX4_sumOfShownWidths 25 = .ok (.iadd, 1) := by decide +kernel
theorem dX4_sumOfShownWidths_26 : decode cX4_sumOfShownWidths 26 = .ok (.istore_n 2, 1) := by decide +kernel
theorem dX4_sumOfShownWidths_27 : decode cX4_sumOfShownWidths 27 = .ok (.iinc 3 1, 3) := by decide +kernel
theorem dX4_sumOfShownWidths_30 : decode cX4_sumOfShownWidths 30 = .ok (.goto (-26), 3) := by decide +kernel
theorem dX4_sumOfShownWidths_33 : decode cX4_sumOfShownWidths 33 = .ok (.iload_n 2, 1) := by decide +kernel
theorem dX4_sumOfShownWidths_34 : decode cX4_sumOfShownWidths 34 = .ok (.ireturn, 1) := by decide +kernel
set_option maxRecDepth 20000 in
theorem ggX4_sumOfGaps_X7_size : GoodIn wsX4_sumOfGaps wsX7_size := goodIn_r _ [7, 8, 53, 54, 55, 56, 57] (by decide +kernel) (by decide +kernel)
set_option maxRecDepth 20000 in
theorem gX4_sumOfGaps_X7_size : GoodIn wsX4_sumOfGaps (wsV RX4 53 RX7 yX7_size wsX7_size) := goodIn_app (goodIn_of _ (by decide +kernel)) ggX4_sumOfGaps_X7_size
set_option maxRecDepth 20000 in
theorem ggX4_sumOfGaps_X4_isHidden : GoodIn wsX4_sumOfGaps wsX4_isHidden := goodIn_r _ [13, 14, 15, 16, 17, 18, 19, 20, 39, 40, 41, 42, 43, 44, 45, 46, 47, 58] (by decide +kernel) (by decide +kernel)
set_option maxRecDepth 20000 in
theorem gX4_sumOfGaps_X4_isHidden : GoodIn wsX4_sumOfGaps (wsV RX4 94 RX4 yX4_isHidden wsX4_isHidden) := goodIn_app (goodIn_of _ (by decide +kernel)) ggX4_sumOfGaps_X4_isHidden
set_option maxRecDepth 20000 in
theorem ggX4_sumOfGaps_X4_formOf : GoodIn wsX4_sumOfGaps wsX4_formOf := goodIn_r _ [24, 14, 15, 16, 17, 18, 19, 20, 39, 40, 41, 42, 43, 44, 45, 46, 47, 58] (by decide +kernel) (by decide +kernel)
set_option maxRecDepth 20000 in
theorem gX4_sumOfGaps_X4_formOf : GoodIn wsX4_sumOfGaps (wsV RX4 98 RX4 yX4_formOf wsX4_formOf) := goodIn_app (goodIn_of _ (by decide +kernel)) ggX4_sumOfGaps_X4_formOf
set_option maxRecDepth 20000 in
theorem ggX4_sumOfGaps_X0_widthOf : GoodIn wsX4_sumOfGaps wsX0_widthOf := goodIn_r _ [29, 30, 31, 16, 17, 18, 19, 20, 59, 60, 58] (by decide +kernel) (by decide +kernel)
set_option maxRecDepth 20000 in
theorem gX4_sumOfGaps_X0_widthOf : GoodIn wsX4_sumOfGaps (wsV RX4 101 RX0 yX0_widthOf wsX0_widthOf) := goodIn_app (goodIn_of _ (by decide +kernel)) ggX4_sumOfGaps_X0_widthOf
set_option maxRecDepth 20000 in
theorem ggX4_sumOfGaps_X1_widthOf : GoodIn wsX4_sumOfGaps wsX1_widthOf := goodIn_r _ [36, 37, 38, 16, 17, 18, 19, 20, 61, 62, 63, 64, 65, 58] (by decide +kernel) (by decide +kernel)
set_option maxRecDepth 20000 in
theorem gX4_sumOfGaps_X1_widthOf : GoodIn wsX4_sumOfGaps (wsV RX4 111 RX1 yX1_widthOf wsX1_widthOf) := goodIn_app (goodIn_of _ (by decide +kernel)) ggX4_sumOfGaps_X1_widthOf
theorem dX4_sumOfGaps_0 : decode cX4_sumOfGaps 0 = .ok (.iconst 0, 1) := by decide +kernel
theorem dX4_sumOfGaps_1 : decode cX4_sumOfGaps 1 = .ok (.istore_n 2, 1) := by decide +kernel
theorem dX4_sumOfGaps_2 : decode cX4_sumOfGaps 2 = .ok (.iconst 0, 1) := by decide +kernel
theorem dX4_sumOfGaps_3 : decode cX4_sumOfGaps 3 = .ok (.istore_n 3, 1) := by decide +kernel
theorem dX4_sumOfGaps_4 : decode cX4_sumOfGaps 4 = .ok (.iload_n 3, 1) := by decide +kernel
theorem dX4_sumOfGaps_5 : decode cX4_sumOfGaps 5 = .ok (.aload_n 0, 1) := by decide +kernel
theorem dX4_sumOfGaps_6 : decode cX4_sumOfGaps 6 = .ok (.getfield 9, 3) := by decide +kernel
theorem dX4_sumOfGaps_9 : decode cX4_sumOfGaps 9 = .ok (.getfield 47, 3) := by decide +kernel
theorem dX4_sumOfGaps_12 : decode cX4_sumOfGaps 12 = .ok (.invokevirtual 53, 3) := by decide +kernel
theorem dX4_sumOfGaps_15 : decode cX4_sumOfGaps 15 = .ok (.if_icmp .ge 42, 3) := by decide +kernel
theorem dX4_sumOfGaps_18 : decode cX4_sumOfGaps 18 = .ok (.aload_n 0, 1) := by decide +kernel
theorem dX4_sumOfGaps_19 : decode cX4_sumOfGaps 19 = .ok (.iload_n 3, 1) := by decide +kernel
theorem dX4_sumOfGaps_20 : decode cX4_sumOfGaps 20 = .ok (.invokevirtual 94, 3) := by decide +kernel
theorem dX4_sumOfGaps_23 : decode cX4_sumOfGaps 23 = .ok (.ifCond .eq 28, 3) := by decide +kernel
theorem dX4_sumOfGaps_26 : decode cX4_sumOfGaps 26 = .ok (.iload_n 2, 1) := by decide +kernel
theorem dX4_sumOfGaps_27 : decode cX4_sumOfGaps 27 = .ok (.aload_n 1, 1) := by decide +kernel
theorem dX4_sumOfGaps_28 : decode cX4_sumOfGaps 28 = .ok (.aload_n 0, 1) := by decide +kernel
theorem dX4_sumOfGaps_29 : decode cX4_sumOfGaps 29 = .ok (.iload_n 3, 1) := by decide +kernel
theorem dX4_sumOfGaps_30 : decode cX4_sumOfGaps 30 = .ok (.invokevirtual 98, 3) := by decide +kernel
theorem dX4_sumOfGaps_33 : decode cX4_sumOfGaps 33 = .ok (.invokevirtual 101, 3) := by decide +kernel
theorem dX4_sumOfGaps_36 : decode cX4_sumOfGaps 36 = .ok (.aload_n 0, 1) := by decide +kernel
theorem dX4_sumOfGaps_37 : decode cX4_sumOfGaps 37 = .ok (.getfield 15, 3) := by decide +kernel
theorem dX4_sumOfGaps_40 : decode cX4_sumOfGaps 40 = .ok (.aload_n 0, 1) := by decide +kernel
theorem dX4_sumOfGaps_41 : decode cX4_sumOfGaps 41 = .ok (.iload_n 3, 1) := by decide +kernel
theorem dX4_sumOfGaps_42 : decode cX4_sumOfGaps 42 = .ok (.invokevirtual 98, 3) := by decide +kernel
theorem dX4_sumOfGaps_45 : decode cX4_sumOfGaps 45 = .ok (.invokevirtual 111, 3) := by decide +kernel
theorem dX4_sumOfGaps_48 : decode cX4_sumOfGaps 48 = .ok (.isub, 1) := by decide +kernel
theorem dX4_sumOfGaps_49 : decode cX4_sumOfGaps 49 = .ok (.iadd, 1) := by decide +kernel
theorem dX4_sumOfGaps_50 : decode cX4_sumOfGaps 50 = .ok (.istore_n 2, 1) := by decide +kernel
theorem dX4_sumOfGaps_51 : decode cX4_sumOfGaps 51 = .ok (.iinc 3 1, 3) := by decide +kernel
theorem dX4_sumOfGaps_54 : decode cX4_sumOfGaps 54 = .ok (.goto (-50), 3) := by decide +kernel
theorem dX4_sumOfGaps_57 : decode cX4_sumOfGaps 57 = .ok (.iload_n 2, 1) := by decide +kernel
theorem dX4_sumOfGaps_58 : decode cX4_sumOfGaps 58 = .ok (.ireturn, 1) := by decide +kernel
set_option maxRecDepth 20000 in
theorem ggX4_differentBarWidths_X7_size : GoodIn wsX4_differentBarWidths wsX7_size := goodIn_r _ [6, 7, 43, 44, 45, 46, 47] (by decide +kernel) (by decide +kernel)
set_option maxRecDepth 20000 in
theorem gX4_differentBarWidths_X7_size : GoodIn wsX4_differentBarWidths (wsV RX4 53 RX7 yX7_size wsX7_size) := goodIn_app (goodIn_of _ (by decide +kernel)) ggX4_differentBarWidths_X7_size
set_option maxRecDepth 20000 in
theorem ggX4_differentBarWidths_X4_isHidden : GoodIn wsX4_differentBarWidths wsX4_isHidden := goodIn_r _ [12, 13, 14, 15, 16, 17, 18, 19, 29, 30, 31, 32, 33, 34, 35, 36, 37, 48] (by decide +kernel) (by decide +kernel)
set_option maxRecDepth 20000 in
theorem gX4_differentBarWidths_X4_isHidden : GoodIn wsX4_differentBarWidths (wsV RX4 94 RX4 yX4_isHidden wsX4_isHidden) := goodIn_app (goodIn_of _ (by decide +kernel)) ggX4_differentBarWidths_X4_isHidden
set_option maxRecDepth 20000 in
theorem ggX4_differentBarWidths_X4_hasBarAhead : GoodIn wsX4_differentBarWidths wsX4_hasBarAhead := goodIn_r _ [23, 8, 9, 10, 11, 12, 13, 14, 15, 16, 17, 18, 19, 24, 25, 26, 27, 28, 29, 30, 31, 32, 33, 34, 35, 36, 37, 48] (by decide +kernel) (by decide +kernel)
set_option maxRecDepth 20000 in
theorem gX4_differentBarWidths_X4_hasBarAhead : GoodIn wsX4_differentBarWidths (wsV RX4 112 RX4 yX4_hasBarAhead wsX4_hasBarAhead) := goodIn_app (goodIn_of _ (by decide +kernel)) ggX4_differentBarWidths_X4_hasBarAhead
theorem dX4_differentBarWidths_0 : decode cX4_differentBarWidths 0 = .ok (.iconst 0, 1) := by decide +kernel
theorem dX4_differentBarWidths_1 : decode cX4_differentBarWidths 1 = .ok (.istore_n 1, 1) := by decide +kernel
theorem dX4_differentBarWidths_2 : decode cX4_differentBarWidths 2 = .ok (.iconst 0, 1) := by decide +kernel
theorem dX4_differentBarWidths_3 : decode cX4_differentBarWidths 3 = .ok (.istore_n 2, 1) := by decide +kernel
theorem dX4_differentBarWidths_4 : decode cX4_differentBarWidths 4 = .ok (.iload_n 2, 1) := by decide +kernel
theorem dX4_differentBarWidths_5 : decode cX4_differentBarWidths 5 = .ok (.aload_n 0, 1) := by decide +kernel
theorem dX4_differentBarWidths_6 : decode cX4_differentBarWidths 6 = .ok (.getfield 9, 3) := by decide +kernel
theorem dX4_differentBarWidths_9 : decode cX4_differentBarWidths 9 = .ok (.getfield 47, 3) := by decide +kernel
theorem dX4_differentBarWidths_12 : decode cX4_differentBarWidths 12 = .ok (.invokevirtual 53, 3) := by decide +kernel
theorem dX4_differentBarWidths_15 : decode cX4_differentBarWidths 15 = .ok (.if_icmp .ge 28, 3) := by decide +kernel
theorem dX4_differentBarWidths_18 : decode cX4_differentBarWidths 18 = .ok (.aload_n 0, 1) := by decide +kernel
theorem dX4_differentBarWidths_19 : decode cX4_differentBarWidths 19 = .ok (.iload_n 2, 1) := by decide +kernel
theorem dX4_differentBarWidths_20 : decode cX4_differentBarWidths 20 = .ok (.invokevirtual 94, 3) := by decide +kernel
theorem dX4_differentBarWidths_23 : decode cX4_differentBarWidths 23 = .ok (.ifCond .eq 14, 3) := by decide +kernel
theorem dX4_differentBarWidths_26 : decode cX4_differentBarWidths 26 = .ok (.aload_n 0, 1) := by decide +kernel
theorem dX4_differentBarWidths_27 : decode cX4_differentBarWidths 27 = .ok (.iload_n 2, 1) := by decide +kernel
theorem dX4_differentBarWidths_28 : decode cX4_differentBarWidths 28 = .ok (.invokevirtual 112, 3) := by decide +kernel
theorem dX4_differentBarWidths_31 : decode cX4_differentBarWidths 31 = .ok (.ifCond .ne 6, 3) := by decide +kernel
theorem dX4_differentBarWidths_34 : decode cX4_differentBarWidths 34 = .ok (.iinc 1 1, 3) := by decide +kernel
theorem dX4_differentBarWidths_37 : decode cX4_differentBarWidths 37 = .ok (.iinc 2 1, 3) := by decide +kernel
theorem dX4_differentBarWidths_40 : decode cX4_differentBarWidths 40 = .ok (.goto (-36), 3) := by decide +kernel
theorem dX4_differentBarWidths_43 : decode cX4_differentBarWidths 43 = .ok (.iload_n 1, 1) := by decide +kernel
theorem dX4_differentBarWidths_44 : decode cX4_differentBarWidths 44 = .ok (.ireturn, 1) := by decide +kernel
set_option maxRecDepth 20000 in
theorem ggX4_hasBarAhead_X4_isHidden : GoodIn wsX4_hasBarAhead wsX4_isHidden := goodIn_r _ [5, 6, 7, 8, 9, 10, 11, 12, 18, 19, 20, 21, 22, 23, 24, 25, 26, 27] (by decide +kernel) (by decide +kernel)
set_option maxRecDepth 20000 in
theorem gX4_hasBarAhead_X4_isHidden : GoodIn wsX4_hasBarAhead (wsV RX4 94 RX4 yX4_isHidden wsX4_isHidden) := goodIn_app (goodIn_of _ (by decide +kernel)) ggX4_hasBarAhead_X4_isHidden
set_option maxRecDepth 20000 in
theorem ggX4_hasBarAhead_X4_shownWidthOf : GoodIn wsX4_hasBarAhead wsX4_shownWidthOf := goodIn_r _ [16, 17, 7, 8, 9, 10, 11, 12, 18, 19, 20, 21, 22, 23, 24, 25, 26, 27] (by decide +kernel) (by decide +kernel)
set_option maxRecDepth 20000 in
theorem gX4_hasBarAhead_X4_shownWidthOf : GoodIn wsX4_hasBarAhead (wsV RX4 108 RX4 yX4_shownWidthOf wsX4_shownWidthOf) := goodIn_app (goodIn_of _ (by decide +kernel)) ggX4_hasBarAhead_X4_shownWidthOf
theorem dX4_hasBarAhead_0 : decode cX4_hasBarAhead 0 = .ok (.iconst 0, 1) := by decide +kernel
theorem dX4_hasBarAhead_1 : decode cX4_hasBarAhead 1 = .ok (.istore_n 2, 1) := by decide +kernel
theorem dX4_hasBarAhead_2 : decode cX4_hasBarAhead 2 = .ok (.iload_n 2, 1) := by decide +kernel
theorem dX4_hasBarAhead_3 : decode cX4_hasBarAhead 3 = .ok (.iload_n 1, 1) := by decide +kernel
theorem dX4_hasBarAhead_4 : decode cX4_hasBarAhead 4 = .ok (.if_icmp .ge 32, 3) := by decide +kernel
theorem dX4_hasBarAhead_7 : decode cX4_hasBarAhead 7 = .ok (.aload_n 0, 1) := by decide +kernel
theorem dX4_hasBarAhead_8 : decode cX4_hasBarAhead 8 = .ok (.iload_n 2, 1) := by decide +kernel
theorem dX4_hasBarAhead_9 : decode cX4_hasBarAhead 9 = .ok (.invokevirtual 94, 3) := by decide +kernel
theorem dX4_hasBarAhead_12 : decode cX4_hasBarAhead 12 = .ok (.ifCond .eq 18, 3) := by decide +kernel
theorem dX4_hasBarAhead_15 : decode cX4_hasBarAhead 15 = .ok (.aload_n 0, 1) := by decide +kernel
theorem dX4_hasBarAhead_16 : decode cX4_hasBarAhead 16 = .ok (.iload_n 2, 1) := by decide +kernel
theorem dX4_hasBarAhead_17 : decode cX4_hasBarAhead 17 = .ok (.invokevirtual 108, 3) := by decide +kernel
theorem dX4_hasBarAhead_20 : decode cX4_hasBarAhead 20 = .ok (.aload_n 0, 1) := by decide +kernel
theorem dX4_hasBarAhead_21 : decode cX4_hasBarAhead 21 = .ok (.iload_n 1, 1) := by decide +kernel
theorem dX4_hasBarAhead_22 : decode cX4_hasBarAhead 22 = .ok (.invokevirtual 108, 3) := by decide +kernel
theorem dX4_hasBarAhead_25 : decode cX4_hasBarAhead 25 = .ok (.if_icmp .ne 5, 3) := by decide +kernel
theorem dX4_hasBarAhead_28 : decode cX4_hasBarAhead 28 = .ok (.iconst 1, 1) := by decide +kernel
theorem dX4_hasBarAhead_29 : decode cX4_hasBarAhead 29 = .ok (.ireturn, 1) := by decide +kernel
theorem dX4_hasBarAhead_30 : decode cX4_hasBarAhead 30 = .ok (.iinc 2 1, 3) := by decide +kernel
theorem dX4_hasBarAhead_33 : decode cX4_hasBarAhead 33 = .ok (.goto (-31), 3) := by decide +kernel
theorem dX4_hasBarAhead_36 : decode cX4_hasBarAhead 36 = .ok (.iconst 0, 1) := by decide +kernel
theorem dX4_hasBarAhead_37 : decode cX4_hasBarAhead 37 = .ok (.ireturn, 1) := by decide +kernel
set_option maxRecDepth 20000 in
theorem ggX4_betrayedBars_X7_size : GoodIn wsX4_betrayedBars wsX7_size := goodIn_r _ [6, 7, 72, 73, 74, 75, 76] (by decide +kernel) (by decide +kernel)
set_option maxRecDepth 20000 in
theorem gX4_betrayedBars_X7_size : GoodIn wsX4_betrayedBars (wsV RX4 53 RX7 yX7_size wsX7_size) := goodIn_app (goodIn_of _ (by decide +kernel)) ggX4_betrayedBars_X7_size
set_option maxRecDepth 20000 in
theorem ggX4_betrayedBars_X4_isHidden : GoodIn wsX4_betrayedBars wsX4_isHidden := goodIn_r _ [12, 13, 14, 15, 16, 17, 18, 19, 58, 59, 60, 61, 62, 63, 64, 65, 66, 77] (by decide +kernel) (by decide +kernel)
set_option maxRecDepth 20000 in
theorem gX4_betrayedBars_X4_isHidden : GoodIn wsX4_betrayedBars (wsV RX4 94 RX4 yX4_isHidden wsX4_isHidden) := goodIn_app (goodIn_of _ (by decide +kernel)) ggX4_betrayedBars_X4_isHidden
set_option maxRecDepth 20000 in
theorem ggX4_betrayedBars_X4_namesUnder : GoodIn wsX4_betrayedBars wsX4_namesUnder := goodIn_r _ [23, 24, 25, 26, 11, 27, 13, 14, 15, 16, 17, 18, 19, 28, 29, 30, 31, 32, 33, 34, 35, 36, 37, 38, 39, 40, 41, 42, 43, 44, 45, 46, 47, 48, 49, 50, 51, 52, 53, 54, 55, 56, 57, 58, 59, 60, 61, 62, 63, 64, 65, 66, 77, 78, 79, 80, 81, 82, 83, 84] (by decide +kernel) (by decide +kernel)
set_option maxRecDepth 20000 in
theorem gX4_betrayedBars_X4_namesUnder : GoodIn wsX4_betrayedBars (wsV RX4 115 RX4 yX4_namesUnder wsX4_namesUnder) := goodIn_app (goodIn_of _ (by decide +kernel)) ggX4_betrayedBars_X4_namesUnder
theorem dX4_betrayedBars_0 : decode cX4_betrayedBars 0 = .ok (.iconst 0, 1) := by decide +kernel
theorem dX4_betrayedBars_1 : decode cX4_betrayedBars 1 = .ok (.istore_n 2, 1) := by decide +kernel
theorem dX4_betrayedBars_2 : decode cX4_betrayedBars 2 = .ok (.iconst 0, 1) := by decide +kernel
theorem dX4_betrayedBars_3 : decode cX4_betrayedBars 3 = .ok (.istore_n 3, 1) := by decide +kernel
theorem dX4_betrayedBars_4 : decode cX4_betrayedBars 4 = .ok (.iload_n 3, 1) := by decide +kernel
theorem dX4_betrayedBars_5 : decode cX4_betrayedBars 5 = .ok (.aload_n 0, 1) := by decide +kernel
theorem dX4_betrayedBars_6 : decode cX4_betrayedBars 6 = .ok (.getfield 9, 3) := by decide +kernel
theorem dX4_betrayedBars_9 : decode cX4_betrayedBars 9 = .ok (.getfield 47, 3) := by decide +kernel
theorem dX4_betrayedBars_12 : decode cX4_betrayedBars 12 = .ok (.invokevirtual 53, 3) := by decide +kernel
theorem dX4_betrayedBars_15 : decode cX4_betrayedBars 15 = .ok (.if_icmp .ge 30, 3) := by decide +kernel
theorem dX4_betrayedBars_18 : decode cX4_betrayedBars 18 = .ok (.aload_n 0, 1) := by decide +kernel
theorem dX4_betrayedBars_19 : decode cX4_betrayedBars 19 = .ok (.iload_n 3, 1) := by decide +kernel
theorem dX4_betrayedBars_20 : decode cX4_betrayedBars 20 = .ok (.invokevirtual 94, 3) := by decide +kernel
theorem dX4_betrayedBars_23 : decode cX4_betrayedBars 23 = .ok (.ifCond .eq 16, 3) := by decide +kernel
theorem dX4_betrayedBars_26 : decode cX4_betrayedBars 26 = .ok (.aload_n 0, 1) := by decide +kernel
theorem dX4_betrayedBars_27 : decode cX4_betrayedBars 27 = .ok (.aload_n 1, 1) := by decide +kernel
theorem dX4_betrayedBars_28 : decode cX4_betrayedBars 28 = .ok (.iload_n 3, 1) := by decide +kernel
theorem dX4_betrayedBars_29 : decode cX4_betrayedBars 29 = .ok (.invokevirtual 115, 3) := by decide +kernel
theorem dX4_betrayedBars_32 : decode cX4_betrayedBars 32 = .ok (.iconst 1, 1) := by decide +kernel
theorem dX4_betrayedBars_33 : decode cX4_betrayedBars 33 = .ok (.if_icmp .ne 6, 3) := by decide +kernel
theorem dX4_betrayedBars_36 : decode cX4_betrayedBars 36 = .ok (.iinc 2 1, 3) := by decide +kernel
theorem dX4_betrayedBars_39 : decode cX4_betrayedBars 39 = .ok (.iinc 3 1, 3) := by decide +kernel
theorem dX4_betrayedBars_42 : decode cX4_betrayedBars 42 = .ok (.goto (-38), 3) := by decide +kernel
theorem dX4_betrayedBars_45 : decode cX4_betrayedBars 45 = .ok (.iload_n 2, 1) := by decide +kernel
theorem dX4_betrayedBars_46 : decode cX4_betrayedBars 46 = .ok (.ireturn, 1) := by decide +kernel
set_option maxRecDepth 20000 in
theorem ggX4_hasEnoughNames_X7_size : GoodIn wsX4_hasEnoughNames wsX7_size := goodIn_r _ [6, 7, 72, 73, 74, 75, 76] (by decide +kernel) (by decide +kernel)
set_option maxRecDepth 20000 in
theorem gX4_hasEnoughNames_X7_size : GoodIn wsX4_hasEnoughNames (wsV RX4 53 RX7 yX7_size wsX7_size) := goodIn_app (goodIn_of _ (by decide +kernel)) ggX4_hasEnoughNames_X7_size
set_option maxRecDepth 20000 in
theorem ggX4_hasEnoughNames_X4_isHidden : GoodIn wsX4_hasEnoughNames wsX4_isHidden := goodIn_r _ [12, 13, 14, 15, 16, 17, 18, 19, 58, 59, 60, 61, 62, 63, 64, 65, 66, 77] (by decide +kernel) (by decide +kernel)
set_option maxRecDepth 20000 in
theorem gX4_hasEnoughNames_X4_isHidden : GoodIn wsX4_hasEnoughNames (wsV RX4 94 RX4 yX4_isHidden wsX4_isHidden) := goodIn_app (goodIn_of _ (by decide +kernel)) ggX4_hasEnoughNames_X4_isHidden
set_option maxRecDepth 20000 in
theorem ggX4_hasEnoughNames_X4_namesUnder : GoodIn wsX4_hasEnoughNames wsX4_namesUnder := goodIn_r _ [23, 24, 25, 26, 11, 27, 13, 14, 15, 16, 17, 18, 19, 28, 29, 30, 31, 32, 33, 34, 35, 36, 37, 38, 39, 40, 41, 42, 43, 44, 45, 46, 47, 48, 49, 50, 51, 52, 53, 54, 55, 56, 57, 58, 59, 60, 61, 62, 63, 64, 65, 66, 77, 78, 79, 80, 81, 82, 83, 84] (by decide +kernel) (by decide +kernel)
set_option maxRecDepth 20000 in
theorem gX4_hasEnoughNames_X4_namesUnder : GoodIn wsX4_hasEnoughNames (wsV RX4 115 RX4 yX4_namesUnder wsX4_namesUnder) := goodIn_app (goodIn_of _ (by decide +kernel)) ggX4_hasEnoughNames_X4_namesUnder
theorem dX4_hasEnoughNames_0 : decode cX4_hasEnoughNames 0 = .ok (.iconst 0, 1) := by decide +kernel
theorem dX4_hasEnoughNames_1 : decode cX4_hasEnoughNames 1 = .ok (.istore_n 3, 1) := by decide +kernel
theorem dX4_hasEnoughNames_2 : decode cX4_hasEnoughNames 2 = .ok (.iload_n 3, 1) := by decide +kernel
theorem dX4_hasEnoughNames_3 : decode cX4_hasEnoughNames 3 = .ok (.aload_n 0, 1) := by decide +kernel
theorem dX4_hasEnoughNames_4 : decode cX4_hasEnoughNames 4 = .ok (.getfield 9, 3) := by decide +kernel
theorem dX4_hasEnoughNames_7 : decode cX4_hasEnoughNames 7 = .ok (.getfield 47, 3) := by decide +kernel
theorem dX4_hasEnoughNames_10 : decode cX4_hasEnoughNames 10 = .ok (.invokevirtual 53, 3) := by decide +kernel
theorem dX4_hasEnoughNames_13 : decode cX4_hasEnoughNames 13 = .ok (.if_icmp .ge 29, 3) := by decide +kernel
theorem dX4_hasEnoughNames_16 : decode cX4_hasEnoughNames 16 = .ok (.aload_n 0, 1) := by decide +kernel
theorem dX4_hasEnoughNames_17 : decode cX4_hasEnoughNames 17 = .ok (.iload_n 3, 1) := by decide +kernel
theorem dX4_hasEnoughNames_18 : decode cX4_hasEnoughNames 18 = .ok (.invokevirtual 94, 3) := by decide +kernel
theorem dX4_hasEnoughNames_21 : decode cX4_hasEnoughNames 21 = .ok (.ifCond .eq 15, 3) := by decide +kernel
theorem dX4_hasEnoughNames_24 : decode cX4_hasEnoughNames 24 = .ok (.aload_n 0, 1) := by decide +kernel
theorem dX4_hasEnoughNames_25 : decode cX4_hasEnoughNames 25 = .ok (.aload_n 1, 1) := by decide +kernel
theorem dX4_hasEnoughNames_26 : decode cX4_hasEnoughNames 26 = .ok (.iload_n 3, 1) := by decide +kernel
theorem dX4_hasEnoughNames_27 : decode cX4_hasEnoughNames 27 = .ok (.invokevirtual 115, 3) := by decide +kernel
theorem dX4_hasEnoughNames_30 : decode cX4_hasEnoughNames 30 = .ok (.iload_n 2, 1) := by decide +kernel
theorem dX4_hasEnoughNames_31 : decode cX4_hasEnoughNames 31 = .ok (.if_icmp .ge 5, 3) := by decide +kernel
theorem dX4_hasEnoughNames_34 : decode cX4_hasEnoughNames 34 = .ok (.iconst 0, 1) := by decide +kernel
theorem dX4_hasEnoughNames_35 : decode cX4_hasEnoughNames 35 = .ok (.ireturn, 1) := by decide +kernel
theorem dX4_hasEnoughNames_36 : decode cX4_hasEnoughNames 36 = .ok (.iinc 3 1, 3) := by decide +kernel
theorem dX4_hasEnoughNames_39 : decode cX4_hasEnoughNames 39 = .ok (.goto (-37), 3) := by decide +kernel
theorem dX4_hasEnoughNames_42 : decode cX4_hasEnoughNames 42 = .ok (.iconst 1, 1) := by decide +kernel
theorem dX4_hasEnoughNames_43 : decode cX4_hasEnoughNames 43 = .ok (.ireturn, 1) := by decide +kernel
set_option maxRecDepth 20000 in
theorem ggX4_namesUnder_X4_formOf : GoodIn wsX4_namesUnder wsX4_formOf := goodIn_r _ [5, 6, 7, 8, 9, 10, 11, 12, 43, 44, 45, 46, 47, 48, 49, 50, 51, 52] (by decide +kernel) (by decide +kernel)
set_option maxRecDepth 20000 in
theorem gX4_namesUnder_X4_formOf : GoodIn wsX4_namesUnder (wsV RX4 98 RX4 yX4_formOf wsX4_formOf) := goodIn_app (goodIn_of _ (by decide +kernel)) ggX4_namesUnder_X4_formOf
set_option maxRecDepth 20000 in
theorem ggX4_namesUnder_X0_widthOf : GoodIn wsX4_namesUnder wsX0_widthOf := goodIn_r _ [17, 18, 19, 8, 9, 10, 11, 12, 53, 54, 52] (by decide +kernel) (by decide +kernel)
set_option maxRecDepth 20000 in
theorem gX4_namesUnder_X0_widthOf : GoodIn wsX4_namesUnder (wsV RX4 101 RX0 yX0_widthOf wsX0_widthOf) := goodIn_app (goodIn_of _ (by decide +kernel)) ggX4_namesUnder_X0_widthOf
set_option maxRecDepth 20000 in
theorem ggX4_namesUnder_X0_namesUnder : GoodIn wsX4_namesUnder wsX0_namesUnder := goodIn_r _ [23, 24, 18, 25, 26, 27, 28, 29, 30, 19, 8, 9, 10, 11, 12, 31, 32, 33, 34, 35, 53, 54, 55, 56, 57, 58, 59, 52] (by decide +kernel) (by decide +kernel)
set_option maxRecDepth 20000 in
theorem gX4_namesUnder_X0_namesUnder : GoodIn wsX4_namesUnder (wsV RX4 118 RX0 yX0_namesUnder wsX0_namesUnder) := goodIn_app (goodIn_of _ (by decide +kernel)) ggX4_namesUnder_X0_namesUnder
set_option maxRecDepth 20000 in
theorem ggX4_namesUnder_J6_bitCount_0f7a4 : GoodIn wsX4_namesUnder wsJ6_bitCount_0f7a4 := goodIn_r _ [39, 40, 41, 42] (by decide +kernel) (by decide +kernel)
set_option maxRecDepth 20000 in
theorem gX4_namesUnder_J6_bitCount_0f7a4 : GoodIn wsX4_namesUnder (va_wsS RX4 120 yJ6_bitCount_0f7a4 wsJ6_bitCount_0f7a4) := goodIn_app (goodIn_of _ (by decide +kernel)) ggX4_namesUnder_J6_bitCount_0f7a4
theorem dX4_namesUnder_0 : decode cX4_namesUnder 0 = .ok (.aload_n 1, 1) := by decide +kernel
theorem dX4_namesUnder_1 : decode cX4_namesUnder 1 = .ok (.aload_n 1, 1) := by decide +kernel
theorem dX4_namesUnder_2 : decode cX4_namesUnder 2 = .ok (.aload_n 0, 1) := by decide +kernel
theorem dX4_namesUnder_3 : decode cX4_namesUnder 3 = .ok (.iload_n 2, 1) := by decide +kernel
theorem dX4_namesUnder_4 : decode cX4_namesUnder 4 = .ok (.invokevirtual 98, 3) := by decide +kernel
theorem dX4_namesUnder_7 : decode cX4_namesUnder 7 = .ok (.invokevirtual 101, 3) := by decide +kernel
theorem dX4_namesUnder_10 : decode cX4_namesUnder 10 = .ok (.invokevirtual 118, 3) := by decide +kernel
theorem dX4_namesUnder_13 : decode cX4_namesUnder 13 = .ok (.invokestatic 120, 3) := by decide +kernel
theorem dX4_namesUnder_16 : decode cX4_namesUnder 16 = .ok (.ireturn, 1) := by decide +kernel
set_option maxRecDepth 20000 in
theorem ggX5_init_X7_init : GoodIn wsX5_init wsX7_init := goodIn_r _ [17, 18, 2, 3, 19, 20, 21, 11, 12, 22, 23, 24, 25, 26, 27, 28, 29, 30, 31, 32, 33, 34, 44, 45, 46, 47, 48, 54] (by decide +kernel) (by decide +kernel)
set_option maxRecDepth 20000 in
theorem gX5_init_X7_init : GoodIn wsX5_init (wsX7_init) := ggX5_init_X7_init
set_option maxRecDepth 20000 in
theorem ggX5_init_X3_init_ : GoodIn wsX5_init wsX3_init_ := goodIn_r _ [37, 28, 2, 3, 38, 39, 40, 41, 42, 43, 34, 54] (by decide +kernel) (by decide +kernel)
set_option maxRecDepth 20000 in
theorem gX5_init_X3_init_ : GoodIn wsX5_init (wsX3_init_) := ggX5_init_X3_init_
theorem dX5_init_0 : decode cX5_init 0 = .ok (.aload_n 0, 1) := by decide +kernel
theorem dX5_init_1 : decode cX5_init 1 = .ok (.invokespecial 3, 3) := by decide +kernel
theorem dX5_init_4 : decode cX5_init 4 = .ok (.aload_n 0, 1) := by decide +kernel
theorem dX5_init_5 : decode cX5_init 5 = .ok (.new 9, 3) := by decide +kernel
theorem dX5_init_8 : decode cX5_init 8 = .ok (.dup, 1) := by decide +kernel
theorem dX5_init_9 : decode cX5_init 9 = .ok (.bipush 40, 2) := by decide +kernel
theorem dX5_init_11 : decode cX5_init 11 = .ok (.bipush 12, 2) := by decide +kernel
theorem dX5_init_13 : decode cX5_init 13 = .ok (.invokespecial 11, 3) := by decide +kernel
theorem dX5_init_16 : decode cX5_init 16 = .ok (.putfield 14, 3) := by decide +kernel
theorem dX5_init_19 : decode cX5_init 19 = .ok (.aload_n 0, 1) := by decide +kernel
theorem dX5_init_20 : decode cX5_init 20 = .ok (.new 9, 3) := by decide +kernel
theorem dX5_init_23 : decode cX5_init 23 = .ok (.dup, 1) := by decide +kernel
theorem dX5_init_24 : decode cX5_init 24 = .ok (.bipush 8, 2) := by decide +kernel
theorem dX5_init_26 : decode cX5_init 26 = .ok (.bipush 8, 2) := by decide +kernel
theorem dX5_init_28 : decode cX5_init 28 = .ok (.invokespecial 11, 3) := by decide +kernel
theorem dX5_init_31 : decode cX5_init 31 = .ok (.putfield 20, 3) := by decide +kernel
theorem dX5_init_34 : decode cX5_init 34 = .ok (.aload_n 0, 1) := by decide +kernel
theorem dX5_init_35 : decode cX5_init 35 = .ok (.new 9, 3) := by decide +kernel
theorem dX5_init_38 : decode cX5_init 38 = .ok (.dup, 1) := by decide +kernel
theorem dX5_init_39 : decode cX5_init 39 = .ok (.iconst 4, 1) := by decide +kernel
theorem dX5_init_40 : decode cX5_init 40 = .ok (.iconst 3, 1) := by decide +kernel
theorem dX5_init_41 : decode cX5_init 41 = .ok (.invokespecial 11, 3) := by decide +kernel
theorem dX5_init_44 : decode cX5_init 44 = .ok (.putfield 23, 3) := by decide +kernel
theorem dX5_init_47 : decode cX5_init 47 = .ok (.aload_n 0, 1) := by decide +kernel
theorem dX5_init_48 : decode cX5_init 48 = .ok (.new 26, 3) := by decide +kernel
theorem dX5_init_51 : decode cX5_init 51 = .ok (.dup, 1) := by decide +kernel
theorem dX5_init_52 : decode cX5_init 52 = .ok (.getstatic 28, 3) := by decide +kernel
theorem dX5_init_55 : decode cX5_init 55 = .ok (.invokespecial 32, 3) := by decide +kernel
theorem dX5_init_58 : decode cX5_init 58 = .ok (.putfield 35, 3) := by decide +kernel
theorem dX5_init_61 : decode cX5_init 61 = .ok (.aload_n 0, 1) := by decide +kernel
theorem dX5_init_62 : decode cX5_init 62 = .ok (.new 26, 3) := by decide +kernel
theorem dX5_init_65 : decode cX5_init 65 = .ok (.dup, 1) := by decide +kernel
theorem dX5_init_66 : decode cX5_init 66 = .ok (.getstatic 39, 3) := by decide +kernel
theorem dX5_init_69 : decode cX5_init 69 = .ok (.invokespecial 32, 3) := by decide +kernel
theorem dX5_init_72 : decode cX5_init 72 = .ok (.putfield 42, 3) := by decide +kernel
theorem dX5_init_75 : decode cX5_init 75 = .ok (.return_, 1) := by decide +kernel
set_option maxRecDepth 20000 in
theorem ggX5_lengthOfForm_X7_lengthOf : GoodIn wsX5_lengthOfForm wsX7_lengthOf := goodIn_r _ [7, 8, 9, 10, 11, 12, 13, 14, 20, 21, 22, 23, 24, 25] (by decide +kernel) (by decide +kernel)
set_option maxRecDepth 20000 in
theorem gX5_lengthOfForm_X7_lengthOf : GoodIn wsX5_lengthOfForm (wsV RX5 45 RX7 yX7_lengthOf wsX7_lengthOf) := goodIn_app (goodIn_of _ (by decide +kernel)) ggX5_lengthOfForm_X7_lengthOf
theorem dX5_lengthOfForm_0 : decode cX5_lengthOfForm 0 = .ok (.aload_n 0, 1) := by decide +kernel
theorem dX5_lengthOfForm_1 : decode cX5_lengthOfForm 1 = .ok (.getfield 20, 3) := by decide +kernel
theorem dX5_lengthOfForm_4 : decode cX5_lengthOfForm 4 = .ok (.iload_n 1, 1) := by decide +kernel
theorem dX5_lengthOfForm_5 : decode cX5_lengthOfForm 5 = .ok (.invokevirtual 45, 3) := by decide +kernel
theorem dX5_lengthOfForm_8 : decode cX5_lengthOfForm 8 = .ok (.aload_n 0, 1) := by decide +kernel
theorem dX5_lengthOfForm_9 : decode cX5_lengthOfForm 9 = .ok (.getfield 23, 3) := by decide +kernel
theorem dX5_lengthOfForm_12 : decode cX5_lengthOfForm 12 = .ok (.iload_n 2, 1) := by decide +kernel
theorem dX5_lengthOfForm_13 : decode cX5_lengthOfForm 13 = .ok (.invokevirtual 45, 3) := by decide +kernel
theorem dX5_lengthOfForm_16 : decode cX5_lengthOfForm 16 = .ok (.iadd, 1) := by decide +kernel
theorem dX5_lengthOfForm_17 : decode cX5_lengthOfForm 17 = .ok (.ireturn, 1) := by decide +kernel
set_option maxRecDepth 20000 in
theorem ggX5_widthOfForm_X7_widthOf : GoodIn wsX5_widthOfForm wsX7_widthOf := goodIn_r _ [8, 9, 10, 11, 12, 13, 14, 15, 16, 17, 23, 24, 25, 26, 27, 28] (by decide +kernel) (by decide +kernel)
set_option maxRecDepth 20000 in
theorem gX5_widthOfForm_X7_widthOf : GoodIn wsX5_widthOfForm (wsV RX5 49 RX7 yX7_widthOf wsX7_widthOf) := goodIn_app (goodIn_of _ (by decide +kernel)) ggX5_widthOfForm_X7_widthOf
theorem dX5_widthOfForm_0 : decode cX5_widthOfForm 0 = .ok (.aload_n 0, 1) := by decide +kernel
theorem dX5_widthOfForm_1 : decode cX5_widthOfForm 1 = .ok (.getfield 20, 3) := by decide +kernel
theorem dX5_widthOfForm_4 : decode cX5_widthOfForm 4 = .ok (.iload_n 1, 1) := by decide +kernel
theorem dX5_widthOfForm_5 : decode cX5_widthOfForm 5 = .ok (.aload_n 0, 1) := by decide +kernel
theorem dX5_widthOfForm_6 : decode cX5_widthOfForm 6 = .ok (.getfield 35, 3) := by decide +kernel
theorem dX5_widthOfForm_9 : decode cX5_widthOfForm 9 = .ok (.invokevirtual 49, 3) := by decide +kernel
theorem dX5_widthOfForm_12 : decode cX5_widthOfForm 12 = .ok (.aload_n 0, 1) := by decide +kernel
theorem dX5_widthOfForm_13 : decode cX5_widthOfForm 13 = .ok (.getfield 23, 3) := by decide +kernel
theorem dX5_widthOfForm_16 : decode cX5_widthOfForm 16 = .ok (.iload_n 2, 1) := by decide +kernel
theorem dX5_widthOfForm_17 : decode cX5_widthOfForm 17 = .ok (.aload_n 0, 1) := by decide +kernel
theorem dX5_widthOfForm_18 : decode cX5_widthOfForm 18 = .ok (.getfield 35, 3) := by decide +kernel
theorem dX5_widthOfForm_21 : decode cX5_widthOfForm 21 = .ok (.invokevirtual 49, 3) := by decide +kernel
theorem dX5_widthOfForm_24 : decode cX5_widthOfForm 24 = .ok (.iadd, 1) := by decide +kernel
theorem dX5_widthOfForm_25 : decode cX5_widthOfForm 25 = .ok (.ireturn, 1) := by decide +kernel
set_option maxRecDepth 20000 in
theorem ggX5_isForm_X7_lengthOf : GoodIn wsX5_isForm wsX7_lengthOf := goodIn_r _ [8, 9, 10, 11, 12, 13, 14, 15, 27, 28, 29, 30, 31, 32] (by decide +kernel) (by decide +kernel)
set_option maxRecDepth 20000 in
theorem gX5_isForm_X7_lengthOf : GoodIn wsX5_isForm (wsV RX5 45 RX7 yX7_lengthOf wsX7_lengthOf) := goodIn_app (goodIn_of _ (by decide +kernel)) ggX5_isForm_X7_lengthOf
set_option maxRecDepth 20000 in
theorem ggX5_isForm_X7_letterOf : GoodIn wsX5_isForm wsX7_letterOf := goodIn_r _ [19, 20, 21, 10, 11, 12, 13, 14, 15, 27, 28, 29, 30, 31, 32] (by decide +kernel) (by decide +kernel)
set_option maxRecDepth 20000 in
theorem gX5_isForm_X7_letterOf : GoodIn wsX5_isForm (wsV RX5 53 RX7 yX7_letterOf wsX7_letterOf) := goodIn_app (goodIn_of _ (by decide +kernel)) ggX5_isForm_X7_letterOf
theorem dX5_isForm_0 : decode cX5_isForm 0 = .ok (.aload_n 0, 1) := by decide +kernel
theorem dX5_isForm_1 : decode cX5_isForm 1 = .ok (.getfield 14, 3) := by decide +kernel
theorem dX5_isForm_4 : decode cX5_isForm 4 = .ok (.iload_n 1, 1) := by decide +kernel
theorem dX5_isForm_5 : decode cX5_isForm 5 = .ok (.invokevirtual 45, 3) := by decide +kernel
theorem dX5_isForm_8 : decode cX5_isForm 8 = .ok (.istore 4, 2) := by decide +kernel
theorem dX5_isForm_10 : decode cX5_isForm 10 = .ok (.aload_n 0, 1) := by decide +kernel
theorem dX5_isForm_11 : decode cX5_isForm 11 = .ok (.getfield 20, 3) := by decide +kernel
theorem dX5_isForm_14 : decode cX5_isForm 14 = .ok (.iload_n 2, 1) := by decide +kernel
theorem dX5_isForm_15 : decode cX5_isForm 15 = .ok (.invokevirtual 45, 3) := by decide +kernel
theorem dX5_isForm_18 : decode cX5_isForm 18 = .ok (.istore 5, 2) := by decide +kernel
theorem dX5_isForm_20 : decode cX5_isForm 20 = .ok (.iload 4, 2) := by decide +kernel
theorem dX5_isForm_22 : decode cX5_isForm 22 = .ok (.iload 5, 2) := by decide +kernel
theorem dX5_isForm_24 : decode cX5_isForm 24 = .ok (.aload_n 0, 1) := by decide +kernel
theorem dX5_isForm_25 : decode cX5_isForm 25 = .ok (.getfield 23, 3) := by decide +kernel
theorem dX5_isForm_28 : decode cX5_isForm 28 = .ok (.iload_n 3, 1) := by decide +kernel
theorem dX5_isForm_29 : decode cX5_isForm 29 = .ok (.invokevirtual 45, 3) := by decide +kernel
theorem dX5_isForm_32 : decode cX5_isForm 32 = .ok (.iadd, 1) := by decide +kernel
theorem dX5_isForm_33 : decode cX5_isForm 33 = .ok (.if_icmp .eq 5, 3) := by decide +kernel
theorem dX5_isForm_36 : decode cX5_isForm 36 = .ok (.iconst 0, 1) := by decide +kernel
theorem dX5_isForm_37 : decode cX5_isForm 37 = .ok (.ireturn, 1) := by decide +kernel
theorem dX5_isForm_38 : decode cX5_isForm 38 = .ok (.iconst 0, 1) := by decide +kernel
theorem dX5_isForm_39 : decode cX5_isForm 39 = .ok (.istore 6, 2) := by decide +kernel
theorem dX5_isForm_41 : decode cX5_isForm 41 = .ok (.iload 6, 2) := by decide +kernel
theorem dX5_isForm_43 : decode cX5_isForm 43 = .ok (.iload 4, 2) := by decide +kernel
theorem dX5_isForm_45 : decode cX5_isForm 45 = .ok (.if_icmp .ge 61, 3) := by decide +kernel
theorem dX5_isForm_48 : decode cX5_isForm 48 = .ok (.iload 6, 2) := by decide +kernel
theorem dX5_isForm_50 : decode cX5_isForm 50 = .ok (.iload 5, 2) := by decide +kernel
theorem dX5_isForm_52 : decode cX5_isForm 52 = .ok (.if_icmp .ge 16, 3) := by decide +kernel
theorem dX5_isForm_55 : decode cX5_isForm 55 = .ok (.aload_n 0, 1) := by decide +kernel
theorem dX5_isForm_56 : decode cX5_isForm 56 = .ok (.getfield 20, 3) := by decide +kernel
theorem dX5_isForm_59 : decode cX5_isForm 59 = .ok (.iload_n 2, 1) := by decide +kernel
theorem dX5_isForm_60 : decode cX5_isForm 60 = .ok (.iload 6, 2) := by decide +kernel
theorem dX5_isForm_62 : decode cX5_isForm 62 = .ok (.invokevirtual 53, 3) := by decide +kernel
theorem dX5_isForm_65 : decode cX5_isForm 65 = .ok (.goto 16, 3) := by decide +kernel
theorem dX5_isForm_68 : decode cX5_isForm 68 = .ok (.aload_n 0, 1) := by decide +kernel
theorem dX5_isForm_69 : decode cX5_isForm 69 = .ok (.getfield 23, 3) := by decide +kernel
theorem dX5_isForm_72 : decode cX5_isForm 72 = .ok (.iload_n 3, 1) := by decide +kernel
theorem dX5_isForm_73 : decode cX5_isForm 73 = .ok (.iload 6, 2) := by decide +kernel
theorem dX5_isForm_75 : decode cX5_isForm 75 = .ok (.iload 5, 2) := by decide +kernel
theorem dX5_isForm_77 : decode cX5_isForm 77 = .ok (.isub, 1) := by decide +kernel
theorem dX5_isForm_78 : decode cX5_isForm 78 = .ok (.invokevirtual 53, 3) := by decide +kernel
theorem dX5_isForm_81 : decode cX5_isForm 81 = .ok (.istore 7, 2) := by decide +kernel
theorem dX5_isForm_83 : decode cX5_isForm 83 = .ok (.aload_n 0, 1) := by decide +kernel
theorem dX5_isForm_84 : decode cX5_isForm 84 = .ok (.getfield 14, 3) := by decide +kernel
theorem dX5_isForm_87 : decode cX5_isForm 87 = .ok (.iload_n 1, 1) := by decide +kernel
theorem dX5_isForm_88 : decode cX5_isForm 88 = .ok (.iload 6, 2) := by decide +kernel
theorem dX5_isForm_90 : decode cX5_isForm 90 = .ok (.invokevirtual 53, 3) := by decide +kernel
theorem dX5_isForm_93 : decode cX5_isForm 93 = .ok (.iload 7, 2) := by decide +kernel
theorem dX5_isForm_95 : decode cX5_isForm 95 = .ok (.if_icmp .eq 5, 3) := by decide +kernel
theorem dX5_isForm_98 : decode cX5_isForm 98 = .ok (.iconst 0, 1) := by decide +kernel
theorem dX5_isForm_99 : decode cX5_isForm 99 = .ok (.ireturn, 1) := by decide +kernel
theorem dX5_isForm_100 : decode cX5_isForm 100 = .ok (.iinc 6 1, 3) := by decide +kernel
theorem dX5_isForm_103 : decode cX5_isForm 103 = .ok (.goto (-62), 3) := by decide +kernel
theorem dX5_isForm_106 : decode cX5_isForm 106 = .ok (.iconst 1, 1) := by decide +kernel
theorem dX5_isForm_107 : decode cX5_isForm 107 = .ok (.ireturn, 1) := by decide +kernel
set_option maxRecDepth 20000 in
theorem ggX5_copyFrom_X7_copyFrom : GoodIn wsX5_copyFrom wsX7_copyFrom := goodIn_r _ [10, 11, 12, 13, 14, 15, 16, 17, 18, 19, 20, 21, 22, 23, 24, 25, 26, 27, 28, 29, 36, 37, 38, 39, 40, 41] (by decide +kernel) (by decide +kernel)
set_option maxRecDepth 20000 in
theorem gX5_copyFrom_X7_copyFrom : GoodIn wsX5_copyFrom (wsV RX5 57 RX7 yX7_copyFrom wsX7_copyFrom) := goodIn_app (goodIn_of _ (by decide +kernel)) ggX5_copyFrom_X7_copyFrom
set_option maxRecDepth 20000 in
theorem ggX5_copyFrom_X3_copyFrom : GoodIn wsX5_copyFrom wsX3_copyFrom := goodIn_r _ [23, 24, 25, 16, 17, 18, 26, 27, 28, 29, 41] (by decide +kernel) (by decide +kernel)
set_option maxRecDepth 20000 in
theorem gX5_copyFrom_X3_copyFrom : GoodIn wsX5_copyFrom (wsV RX5 61 RX3 yX3_copyFrom wsX3_copyFrom) := goodIn_app (goodIn_of _ (by decide +kernel)) ggX5_copyFrom_X3_copyFrom
theorem dX5_copyFrom_0 : decode cX5_copyFrom 0 = .ok (.aload_n 0, 1) := by decide +kernel
theorem dX5_copyFrom_1 : decode cX5_copyFrom 1 = .ok (.getfield 14, 3) := by decide +kernel
theorem dX5_copyFrom_4 : decode cX5_copyFrom 4 = .ok (.aload_n 1, 1) := by decide +kernel
theorem dX5_copyFrom_5 : decode cX5_copyFrom 5 = .ok (.getfield 14, 3) := by decide +kernel
theorem dX5_copyFrom_8 : decode cX5_copyFrom 8 = .ok (.invokevirtual 57, 3) := by decide +kernel
theorem dX5_copyFrom_11 : decode cX5_copyFrom 11 = .ok (.aload_n 0, 1) := by decide +kernel
theorem dX5_copyFrom_12 : decode cX5_copyFrom 12 = .ok (.getfield 20, 3) := by decide +kernel
theorem dX5_copyFrom_15 : decode cX5_copyFrom 15 = .ok (.aload_n 1, 1) := by decide +kernel
theorem dX5_copyFrom_16 : decode cX5_copyFrom 16 = .ok (.getfield 20, 3) := by decide +kernel
theorem dX5_copyFrom_19 : decode cX5_copyFrom 19 = .ok (.invokevirtual 57, 3) := by decide +kernel
theorem dX5_copyFrom_22 : decode cX5_copyFrom 22 = .ok (.aload_n 0, 1) := by decide +kernel
theorem dX5_copyFrom_23 : decode cX5_copyFrom 23 = .ok (.getfield 23, 3) := by decide +kernel
theorem dX5_copyFrom_26 : decode cX5_copyFrom 26 = .ok (.aload_n 1, 1) := by decide +kernel
theorem dX5_copyFrom_27 : decode cX5_copyFrom 27 = .ok (.getfield 23, 3) := by decide +kernel
theorem dX5_copyFrom_30 : decode cX5_copyFrom 30 = .ok (.invokevirtual 57, 3) := by decide +kernel
theorem dX5_copyFrom_33 : decode cX5_copyFrom 33 = .ok (.aload_n 0, 1) := by decide +kernel
theorem dX5_copyFrom_34 : decode cX5_copyFrom 34 = .ok (.getfield 35, 3) := by decide +kernel
theorem dX5_copyFrom_37 : decode cX5_copyFrom 37 = .ok (.aload_n 1, 1) := by decide +kernel
theorem dX5_copyFrom_38 : decode cX5_copyFrom 38 = .ok (.getfield 35, 3) := by decide +kernel
theorem dX5_copyFrom_41 : decode cX5_copyFrom 41 = .ok (.invokevirtual 61, 3) := by decide +kernel
theorem dX5_copyFrom_44 : decode cX5_copyFrom 44 = .ok (.aload_n 0, 1) := by decide +kernel
theorem dX5_copyFrom_45 : decode cX5_copyFrom 45 = .ok (.getfield 42, 3) := by decide +kernel
theorem dX5_copyFrom_48 : decode cX5_copyFrom 48 = .ok (.aload_n 1, 1) := by decide +kernel
theorem dX5_copyFrom_49 : decode cX5_copyFrom 49 = .ok (.getfield 42, 3) := by decide +kernel
theorem dX5_copyFrom_52 : decode cX5_copyFrom 52 = .ok (.invokevirtual 61, 3) := by decide +kernel
theorem dX5_copyFrom_55 : decode cX5_copyFrom 55 = .ok (.return_, 1) := by decide +kernel
set_option maxRecDepth 20000 in
theorem ggX6_init_X3_init : GoodIn wsX6_init wsX3_init := goodIn_r _ [11, 12, 2, 3, 13, 14, 15, 16, 17, 18, 19] (by decide +kernel) (by decide +kernel)
set_option maxRecDepth 20000 in
theorem gX6_init_X3_init : GoodIn wsX6_init (wsX3_init) := ggX6_init_X3_init
theorem dX6_init_0 : decode cX6_init 0 = .ok (.aload_n 0, 1) := by decide +kernel
theorem dX6_init_1 : decode cX6_init 1 = .ok (.invokespecial 3, 3) := by decide +kernel
theorem dX6_init_4 : decode cX6_init 4 = .ok (.aload_n 0, 1) := by decide +kernel
theorem dX6_init_5 : decode cX6_init 5 = .ok (.new 9, 3) := by decide +kernel
theorem dX6_init_8 : decode cX6_init 8 = .ok (.dup, 1) := by decide +kernel
theorem dX6_init_9 : decode cX6_init 9 = .ok (.sipush 200, 3) := by decide +kernel
theorem dX6_init_12 : decode cX6_init 12 = .ok (.invokespecial 11, 3) := by decide +kernel
theorem dX6_init_15 : decode cX6_init 15 = .ok (.putfield 14, 3) := by decide +kernel
theorem dX6_init_18 : decode cX6_init 18 = .ok (.aload_n 0, 1) := by decide +kernel
theorem dX6_init_19 : decode cX6_init 19 = .ok (.iconst 0, 1) := by decide +kernel
theorem dX6_init_20 : decode cX6_init 20 = .ok (.putfield 20, 3) := by decide +kernel
theorem dX6_init_23 : decode cX6_init 23 = .ok (.return_, 1) := by decide +kernel
theorem dX6_size_0 : decode cX6_size 0 = .ok (.aload_n 0, 1) := by decide +kernel
theorem dX6_size_1 : decode cX6_size 1 = .ok (.getfield 20, 3) := by decide +kernel
theorem dX6_size_4 : decode cX6_size 4 = .ok (.ireturn, 1) := by decide +kernel
set_option maxRecDepth 20000 in
theorem ggX6_at_X3_at : GoodIn wsX6_at wsX3_at := goodIn_r _ [6, 7, 10] (by decide +kernel) (by decide +kernel)
set_option maxRecDepth 20000 in
theorem gX6_at_X3_at : GoodIn wsX6_at (wsV RX6 24 RX3 yX3_at wsX3_at) := goodIn_app (goodIn_of _ (by decide +kernel)) ggX6_at_X3_at
theorem dX6_at_0 : decode cX6_at 0 = .ok (.aload_n 0, 1) := by decide +kernel
theorem dX6_at_1 : decode cX6_at 1 = .ok (.getfield 14, 3) := by decide +kernel
theorem dX6_at_4 : decode cX6_at 4 = .ok (.iload_n 1, 1) := by decide +kernel
theorem dX6_at_5 : decode cX6_at 5 = .ok (.invokevirtual 24, 3) := by decide +kernel
theorem dX6_at_8 : decode cX6_at 8 = .ok (.ireturn, 1) := by decide +kernel
set_option maxRecDepth 20000 in
theorem ggX6_append_X3_put : GoodIn wsX6_append wsX3_put := goodIn_r _ [7, 8, 11] (by decide +kernel) (by decide +kernel)
set_option maxRecDepth 20000 in
theorem gX6_append_X3_put : GoodIn wsX6_append (wsV RX6 28 RX3 yX3_put wsX3_put) := goodIn_app (goodIn_of _ (by decide +kernel)) ggX6_append_X3_put
theorem dX6_append_0 : decode cX6_append 0 = .ok (.aload_n 0, 1) := by decide +kernel
theorem dX6_append_1 : decode cX6_append 1 = .ok (.getfield 20, 3) := by decide +kernel
theorem dX6_append_4 : decode cX6_append 4 = .ok (.sipush 200, 3) := by decide +kernel
theorem dX6_append_7 : decode cX6_append 7 = .ok (.if_icmp .ge 25, 3) := by decide +kernel
theorem dX6_append_10 : decode cX6_append 10 = .ok (.aload_n 0, 1) := by decide +kernel
theorem dX6_append_11 : decode cX6_append 11 = .ok (.getfield 14, 3) := by decide +kernel
theorem dX6_append_14 : decode cX6_append 14 = .ok (.aload_n 0, 1) := by decide +kernel
theorem dX6_append_15 : decode cX6_append 15 = .ok (.getfield 20, 3) := by decide +kernel
theorem dX6_append_18 : decode cX6_append 18 = .ok (.iload_n 1, 1) := by decide +kernel
theorem dX6_append_19 : decode cX6_append 19 = .ok (.invokevirtual 28, 3) := by decide +kernel
theorem dX6_append_22 : decode cX6_append 22 = .ok (.aload_n 0, 1) := by decide +kernel
theorem dX6_append_23 : decode cX6_append 23 = .ok (.dup, 1) := by decide +kernel
theorem dX6_append_24 : decode cX6_append 24 = .ok (.getfield 20, 3) := by decide +kernel
theorem dX6_append_27 : decode cX6_append 27 = .ok (.iconst 1, 1) := by decide +kernel
theorem dX6_append_28 : decode cX6_append 28 = .ok (.iadd, 1) := by decide +kernel
theorem dX6_append_29 : decode cX6_append 29 = .ok (.putfield 20, 3) := by decide +kernel
theorem dX6_append_32 : decode cX6_append 32 = .ok (.return_, 1) := by decide +kernel
theorem dX6_empty_0 : decode cX6_empty 0 = .ok (.aload_n 0, 1) := by decide +kernel
theorem dX6_empty_1 : decode cX6_empty 1 = .ok (.iconst 0, 1) := by decide +kernel
theorem dX6_empty_2 : decode cX6_empty 2 = .ok (.putfield 20, 3) := by decide +kernel
theorem dX6_empty_5 : decode cX6_empty 5 = .ok (.return_, 1) := by decide +kernel
set_option maxRecDepth 20000 in
theorem ggX6_isOneWord_X3_at : GoodIn wsX6_isOneWord wsX3_at := goodIn_r _ [7, 8, 14] (by decide +kernel) (by decide +kernel)
set_option maxRecDepth 20000 in
theorem gX6_isOneWord_X3_at : GoodIn wsX6_isOneWord (wsV RX6 24 RX3 yX3_at wsX3_at) := goodIn_app (goodIn_of _ (by decide +kernel)) ggX6_isOneWord_X3_at
set_option maxRecDepth 20000 in
theorem ggX6_isOneWord_X8_isLetter : GoodIn wsX6_isOneWord wsX8_isLetter := goodIn_r _ [11] (by decide +kernel) (by decide +kernel)
set_option maxRecDepth 20000 in
theorem gX6_isOneWord_X8_isLetter_n32 : GoodIn wsX6_isOneWord (wsX8_isLetter) := ggX6_isOneWord_X8_isLetter
theorem dX6_isOneWord_0 : decode cX6_isOneWord 0 = .ok (.aload_n 0, 1) := by decide +kernel
theorem dX6_isOneWord_1 : decode cX6_isOneWord 1 = .ok (.getfield 20, 3) := by decide +kernel
theorem dX6_isOneWord_4 : decode cX6_isOneWord 4 = .ok (.iconst 1, 1) := by decide +kernel
theorem dX6_isOneWord_5 : decode cX6_isOneWord 5 = .ok (.if_icmp .lt 11, 3) := by decide +kernel
theorem dX6_isOneWord_8 : decode cX6_isOneWord 8 = .ok (.aload_n 0, 1) := by decide +kernel
theorem dX6_isOneWord_9 : decode cX6_isOneWord 9 = .ok (.getfield 20, 3) := by decide +kernel
theorem dX6_isOneWord_12 : decode cX6_isOneWord 12 = .ok (.iload_n 1, 1) := by decide +kernel
theorem dX6_isOneWord_13 : decode cX6_isOneWord 13 = .ok (.if_icmp .le 5, 3) := by decide +kernel
theorem dX6_isOneWord_16 : decode cX6_isOneWord 16 = .ok (.iconst 0, 1) := by decide +kernel
theorem dX6_isOneWord_17 : decode cX6_isOneWord 17 = .ok (.ireturn, 1) := by decide +kernel
theorem dX6_isOneWord_18 : decode cX6_isOneWord 18 = .ok (.iconst 0, 1) := by decide +kernel
theorem dX6_isOneWord_19 : decode cX6_isOneWord 19 = .ok (.istore_n 2, 1) := by decide +kernel
theorem dX6_isOneWord_20 : decode cX6_isOneWord 20 = .ok (.iload_n 2, 1) := by decide +kernel
theorem dX6_isOneWord_21 : decode cX6_isOneWord 21 = .ok (.aload_n 0, 1) := by decide +kernel
theorem dX6_isOneWord_22 : decode cX6_isOneWord 22 = .ok (.getfield 20, 3) := by decide +kernel
theorem dX6_isOneWord_25 : decode cX6_isOneWord 25 = .ok (.if_icmp .ge 25, 3) := by decide +kernel
theorem dX6_isOneWord_28 : decode cX6_isOneWord 28 = .ok (.aload_n 0, 1) := by decide +kernel
theorem dX6_isOneWord_29 : decode cX6_isOneWord 29 = .ok (.getfield 14, 3) := by decide +kernel
theorem dX6_isOneWord_32 : decode cX6_isOneWord 32 = .ok (.iload_n 2, 1) := by decide +kernel
theorem dX6_isOneWord_33 : decode cX6_isOneWord 33 = .ok (.invokevirtual 24, 3) := by decide +kernel
theorem dX6_isOneWord_36 : decode cX6_isOneWord 36 = .ok (.invokestatic 32, 3) := by decide +kernel
theorem dX6_isOneWord_39 : decode cX6_isOneWord 39 = .ok (.ifCond .ne 5, 3) := by decide +kernel
theorem dX6_isOneWord_42 : decode cX6_isOneWord 42 = .ok (.iconst 0, 1) := by decide +kernel
theorem dX6_isOneWord_43 : decode cX6_isOneWord 43 = .ok (.ireturn, 1) := by decide +kernel
theorem dX6_isOneWord_44 : decode cX6_isOneWord 44 = .ok (.iinc 2 1, 3) := by decide +kernel
theorem dX6_isOneWord_47 : decode cX6_isOneWord 47 = .ok (.goto (-27), 3) := by decide +kernel
theorem dX6_isOneWord_50 : decode cX6_isOneWord 50 = .ok (.iconst 1, 1) := by decide +kernel
theorem dX6_isOneWord_51 : decode cX6_isOneWord 51 = .ok (.ireturn, 1) := by decide +kernel
set_option maxRecDepth 20000 in
theorem ggX6_faultIndex_X6_faultReason : GoodIn wsX6_faultIndex wsX6_faultReason := goodIn_r _ [6, 7, 1, 8, 9, 10, 11, 12, 13, 14, 15, 16, 5, 17, 18, 19, 20, 21, 22, 23, 24, 25, 26, 27] (by decide +kernel) (by decide +kernel)
set_option maxRecDepth 20000 in
theorem gX6_faultIndex_X6_faultReason : GoodIn wsX6_faultIndex (wsV RX6 36 RX6 yX6_faultReason wsX6_faultReason) := goodIn_app (goodIn_of _ (by decide +kernel)) ggX6_faultIndex_X6_faultReason
theorem dX6_faultIndex_0 : decode cX6_faultIndex 0 = .ok (.iconst 0, 1) := by decide +kernel
theorem dX6_faultIndex_1 : decode cX6_faultIndex 1 = .ok (.istore_n 1, 1) := by decide +kernel
theorem dX6_faultIndex_2 : decode cX6_faultIndex 2 = .ok (.iload_n 1, 1) := by decide +kernel
theorem dX6_faultIndex_3 : decode cX6_faultIndex 3 = .ok (.aload_n 0, 1) := by decide +kernel
theorem dX6_faultIndex_4 : decode cX6_faultIndex 4 = .ok (.getfield 20, 3) := by decide +kernel
theorem dX6_faultIndex_7 : decode cX6_faultIndex 7 = .ok (.if_icmp .ge 19, 3) := by decide +kernel
theorem dX6_faultIndex_10 : decode cX6_faultIndex 10 = .ok (.aload_n 0, 1) := by decide +kernel
theorem dX6_faultIndex_11 : decode cX6_faultIndex 11 = .ok (.iload_n 1, 1) := by decide +kernel
theorem dX6_faultIndex_12 : decode cX6_faultIndex 12 = .ok (.invokevirtual 36, 3) := by decide +kernel
theorem dX6_faultIndex_15 : decode cX6_faultIndex 15 = .ok (.ifCond .eq 5, 3) := by decide +kernel
theorem dX6_faultIndex_18 : decode cX6_faultIndex 18 = .ok (.iload_n 1, 1) := by decide +kernel
theorem dX6_faultIndex_19 : decode cX6_faultIndex 19 = .ok (.ireturn, 1) := by decide +kernel
theorem dX6_faultIndex_20 : decode cX6_faultIndex 20 = .ok (.iinc 1 1, 3) := by decide +kernel
theorem dX6_faultIndex_23 : decode cX6_faultIndex 23 = .ok (.goto (-21), 3) := by decide +kernel
theorem dX6_faultIndex_26 : decode cX6_faultIndex 26 = .ok (.iconst (-1), 1) := by decide +kernel
theorem dX6_faultIndex_27 : decode cX6_faultIndex 27 = .ok (.ireturn, 1) := by decide +kernel
set_option maxRecDepth 20000 in
theorem ggX6_faultReason_X3_at : GoodIn wsX6_faultReason wsX3_at := goodIn_r _ [7, 8, 23] (by decide +kernel) (by decide +kernel)
set_option maxRecDepth 20000 in
theorem gX6_faultReason_X3_at : GoodIn wsX6_faultReason (wsV RX6 24 RX3 yX3_at wsX3_at) := goodIn_app (goodIn_of _ (by decide +kernel)) ggX6_faultReason_X3_at
set_option maxRecDepth 20000 in
theorem ggX6_faultReason_X6_lettersAhead : GoodIn wsX6_faultReason wsX6_lettersAhead := goodIn_r _ [13, 1, 3, 4, 5, 6, 7, 8, 14, 15, 16, 21, 22, 23] (by decide +kernel) (by decide +kernel)
set_option maxRecDepth 20000 in
theorem gX6_faultReason_X6_lettersAhead : GoodIn wsX6_faultReason (wsV RX6 39 RX6 yX6_lettersAhead wsX6_lettersAhead) := goodIn_app (goodIn_of _ (by decide +kernel)) ggX6_faultReason_X6_lettersAhead
set_option maxRecDepth 20000 in
theorem ggX6_faultReason_X8_isLetter : GoodIn wsX6_faultReason wsX8_isLetter := goodIn_r _ [16] (by decide +kernel) (by decide +kernel)
set_option maxRecDepth 20000 in
theorem gX6_faultReason_X8_isLetter_n32 : GoodIn wsX6_faultReason (wsX8_isLetter) := ggX6_faultReason_X8_isLetter
set_option maxRecDepth 20000 in
theorem ggX6_faultReason_X6_wordsAhead : GoodIn wsX6_faultReason wsX6_wordsAhead := goodIn_r _ [20, 1, 3, 4, 5, 6, 7, 8, 14, 15, 16, 21, 22, 23] (by decide +kernel) (by decide +kernel)
set_option maxRecDepth 20000 in
theorem gX6_faultReason_X6_wordsAhead : GoodIn wsX6_faultReason (wsV RX6 42 RX6 yX6_wordsAhead wsX6_wordsAhead) := goodIn_app (goodIn_of _ (by decide +kernel)) ggX6_faultReason_X6_wordsAhead
theorem dX6_faultReason_0 : decode cX6_faultReason 0 = .ok (.aload_n 0, 1) := by decide +kernel
theorem dX6_faultReason_1 : decode cX6_faultReason 1 = .ok (.getfield 14, 3) := by decide +kernel
theorem dX6_faultReason_4 : decode cX6_faultReason 4 = .ok (.iload_n 1, 1) := by decide +kernel
theorem dX6_faultReason_5 : decode cX6_faultReason 5 = .ok (.invokevirtual 24, 3) := by decide +kernel
theorem dX6_faultReason_8 : decode cX6_faultReason 8 = .ok (.istore_n 2, 1) := by decide +kernel
theorem dX6_faultReason_9 : decode cX6_faultReason 9 = .ok (.iload_n 2, 1) := by decide +kernel
theorem dX6_faultReason_10 : decode cX6_faultReason 10 = .ok (.bipush 32, 2) := by decide +kernel
theorem dX6_faultReason_12 : decode cX6_faultReason 12 = .ok (.if_icmp .ne 37, 3) := by decide +kernel
theorem dX6_faultReason_15 : decode cX6_faultReason 15 = .ok (.aload_n 0, 1) := by decide +kernel
theorem dX6_faultReason_16 : decode cX6_faultReason 16 = .ok (.iload_n 1, 1) := by decide +kernel
theorem dX6_faultReason_17 : decode cX6_faultReason 17 = .ok (.invokevirtual 39, 3) := by decide +kernel
theorem dX6_faultReason_20 : decode cX6_faultReason 20 = .ok (.ifCond .le 7, 3) := by decide +kernel
theorem dX6_faultReason_23 : decode cX6_faultReason 23 = .ok (.iconst 1, 1) := by decide +kernel
theorem dX6_faultReason_24 : decode cX6_faultReason 24 = .ok (.goto 4, 3) := by decide +kernel
theorem dX6_faultReason_27 : decode cX6_faultReason 27 = .ok (.iconst 0, 1) := by decide +kernel
theorem dX6_faultReason_28 : decode cX6_faultReason 28 = .ok (.istore_n 3, 1) := by decide +kernel
theorem dX6_faultReason_29 : decode cX6_faultReason 29 = .ok (.iload_n 3, 1) := by decide +kernel
theorem dX6_faultReason_30 : decode cX6_faultReason 30 = .ok (.ifCond .eq 17, 3) := by decide +kernel
theorem dX6_faultReason_33 : decode cX6_faultReason 33 = .ok (.iload_n 1, 1) := by decide +kernel
theorem dX6_faultReason_34 : decode cX6_faultReason 34 = .ok (.aload_n 0, 1) := by decide +kernel
theorem dX6_faultReason_35 : decode cX6_faultReason 35 = .ok (.getfield 20, 3) := by decide +kernel
theorem dX6_faultReason_38 : decode cX6_faultReason 38 = .ok (.iconst 1, 1) := by decide +kernel
theorem dX6_faultReason_39 : decode cX6_faultReason 39 = .ok (.isub, 1) := by decide +kernel
theorem dX6_faultReason_40 : decode cX6_faultReason 40 = .ok (.if_icmp .ge 7, 3) := by decide +kernel
theorem dX6_faultReason_43 : decode cX6_faultReason 43 = .ok (.iconst 0, 1) := by decide +kernel
theorem dX6_faultReason_44 : decode cX6_faultReason 44 = .ok (.goto 4, 3) := by decide +kernel
theorem dX6_faultReason_47 : decode cX6_faultReason 47 = .ok (.iconst 2, 1) := by decide +kernel
theorem dX6_faultReason_48 : decode cX6_faultReason 48 = .ok (.ireturn, 1) := by decide +kernel
theorem dX6_faultReason_49 : decode cX6_faultReason 49 = .ok (.iload_n 2, 1) := by decide +kernel
theorem dX6_faultReason_50 : decode cX6_faultReason 50 = .ok (.invokestatic 32, 3) := by decide +kernel
theorem dX6_faultReason_53 : decode cX6_faultReason 53 = .ok (.ifCond .ne 5, 3) := by decide +kernel
theorem dX6_faultReason_56 : decode cX6_faultReason 56 = .ok (.iconst 1, 1) := by decide +kernel
theorem dX6_faultReason_57 : decode cX6_faultReason 57 = .ok (.ireturn, 1) := by decide +kernel
theorem dX6_faultReason_58 : decode cX6_faultReason 58 = .ok (.aload_n 0, 1) := by decide +kernel
theorem dX6_faultReason_59 : decode cX6_faultReason 59 = .ok (.iload_n 1, 1) := by decide +kernel
theorem dX6_faultReason_60 : decode cX6_faultReason 60 = .ok (.invokevirtual 39, 3) := by decide +kernel
theorem dX6_faultReason_63 : decode cX6_faultReason 63 = .ok (.istore_n 3, 1) := by decide +kernel
theorem dX6_faultReason_64 : decode cX6_faultReason 64 = .ok (.iload_n 3, 1) := by decide +kernel
theorem dX6_faultReason_65 : decode cX6_faultReason 65 = .ok (.bipush 12, 2) := by decide +kernel
theorem dX6_faultReason_67 : decode cX6_faultReason 67 = .ok (.if_icmp .lt 5, 3) := by decide +kernel
theorem dX6_faultReason_70 : decode cX6_faultReason 70 = .ok (.iconst 3, 1) := by decide +kernel
theorem dX6_faultReason_71 : decode cX6_faultReason 71 = .ok (.ireturn, 1) := by decide +kernel
theorem dX6_faultReason_72 : decode cX6_faultReason 72 = .ok (.iload_n 3, 1) := by decide +kernel
theorem dX6_faultReason_73 : decode cX6_faultReason 73 = .ok (.ifCond .ne 17, 3) := by decide +kernel
theorem dX6_faultReason_76 : decode cX6_faultReason 76 = .ok (.aload_n 0, 1) := by decide +kernel
theorem dX6_faultReason_77 : decode cX6_faultReason 77 = .ok (.iload_n 1, 1) := by decide +kernel
theorem dX6_faultReason_78 : decode cX6_faultReason 78 = .ok (.invokevirtual 42, 3) := by decide +kernel
theorem dX6_faultReason_81 : decode cX6_faultReason 81 = .ok (.bipush 40, 2) := by decide +kernel
theorem dX6_faultReason_83 : decode cX6_faultReason 83 = .ok (.if_icmp .lt 7, 3) := by decide +kernel
theorem dX6_faultReason_86 : decode cX6_faultReason 86 = .ok (.iconst 4, 1) := by decide +kernel
theorem dX6_faultReason_87 : decode cX6_faultReason 87 = .ok (.goto 4, 3) := by decide +kernel
theorem dX6_faultReason_90 : decode cX6_faultReason 90 = .ok (.iconst 0, 1) := by decide +kernel
theorem dX6_faultReason_91 : decode cX6_faultReason 91 = .ok (.ireturn, 1) := by decide +kernel
set_option maxRecDepth 20000 in
theorem ggX6_lettersAhead_X3_at : GoodIn wsX6_lettersAhead wsX3_at := goodIn_r _ [6, 7, 13] (by decide +kernel) (by decide +kernel)
set_option maxRecDepth 20000 in
theorem gX6_lettersAhead_X3_at : GoodIn wsX6_lettersAhead (wsV RX6 24 RX3 yX3_at wsX3_at) := goodIn_app (goodIn_of _ (by decide +kernel)) ggX6_lettersAhead_X3_at
set_option maxRecDepth 20000 in
theorem ggX6_lettersAhead_X8_isLetter : GoodIn wsX6_lettersAhead wsX8_isLetter := goodIn_r _ [10] (by decide +kernel) (by decide +kernel)
set_option maxRecDepth 20000 in
theorem gX6_lettersAhead_X8_isLetter_n32 : GoodIn wsX6_lettersAhead (wsX8_isLetter) := ggX6_lettersAhead_X8_isLetter
theorem dX6_lettersAhead_0 : decode cX6_lettersAhead 0 = .ok (.iconst 0, 1) := by decide +kernel
theorem dX6_lettersAhead_1 : decode cX6_lettersAhead 1 = .ok (.istore_n 2, 1) := by decide +kernel
theorem dX6_lettersAhead_2 : decode cX6_lettersAhead 2 = .ok (.iload_n 2, 1) := by decide +kernel
theorem dX6_lettersAhead_3 : decode cX6_lettersAhead 3 = .ok (.bipush 12, 2) := by decide +kernel
theorem dX6_lettersAhead_5 : decode cX6_lettersAhead 5 = .ok (.if_icmp .ge 27, 3) := by decide +kernel
theorem dX6_lettersAhead_8 : decode cX6_lettersAhead 8 = .ok (.aload_n 0, 1) := by decide +kernel
theorem dX6_lettersAhead_9 : decode cX6_lettersAhead 9 = .ok (.getfield 14, 3) := by decide +kernel
theorem dX6_lettersAhead_12 : decode cX6_lettersAhead 12 = .ok (.iload_n 1, 1) := by decide +kernel
theorem dX6_lettersAhead_13 : decode cX6_lettersAhead 13 = .ok (.iconst 1, 1) := by decide +kernel
theorem dX6_lettersAhead_14 : decode cX6_lettersAhead 14 = .ok (.isub, 1) := by decide +kernel
theorem dX6_lettersAhead_15 : decode cX6_lettersAhead 15 = .ok (.iload_n 2, 1) := by decide +kernel
theorem dX6_lettersAhead_16 : decode cX6_lettersAhead 16 = .ok (.isub, 1) := by decide +kernel
theorem dX6_lettersAhead_17 : decode cX6_lettersAhead 17 = .ok (.invokevirtual 24, 3) := by decide +kernel
theorem dX6_lettersAhead_20 : decode cX6_lettersAhead 20 = .ok (.invokestatic 32, 3) := by decide +kernel
theorem dX6_lettersAhead_23 : decode cX6_lettersAhead 23 = .ok (.ifCond .eq 9, 3) := by decide +kernel
theorem dX6_lettersAhead_26 : decode cX6_lettersAhead 26 = .ok (.iinc 2 1, 3) := by decide +kernel
theorem dX6_lettersAhead_29 : decode cX6_lettersAhead 29 = .ok (.goto (-27), 3) := by decide +kernel
theorem dX6_lettersAhead_32 : decode cX6_lettersAhead 32 = .ok (.iload_n 2, 1) := by decide +kernel
theorem dX6_lettersAhead_33 : decode cX6_lettersAhead 33 = .ok (.ireturn, 1) := by decide +kernel
set_option maxRecDepth 20000 in
theorem ggX6_wordsAhead_X3_at : GoodIn wsX6_wordsAhead wsX3_at := goodIn_r _ [6, 7, 13] (by decide +kernel) (by decide +kernel)
set_option maxRecDepth 20000 in
theorem gX6_wordsAhead_X3_at : GoodIn wsX6_wordsAhead (wsV RX6 24 RX3 yX3_at wsX3_at) := goodIn_app (goodIn_of _ (by decide +kernel)) ggX6_wordsAhead_X3_at
set_option maxRecDepth 20000 in
theorem ggX6_wordsAhead_X8_isLetter : GoodIn wsX6_wordsAhead wsX8_isLetter := goodIn_r _ [10] (by decide +kernel) (by decide +kernel)
set_option maxRecDepth 20000 in
theorem gX6_wordsAhead_X8_isLetter_n32 : GoodIn wsX6_wordsAhead (wsX8_isLetter) := ggX6_wordsAhead_X8_isLetter
theorem dX6_wordsAhead_0 : decode cX6_wordsAhead 0 = .ok (.iconst 0, 1) := by decide +kernel
theorem dX6_wordsAhead_1 : decode cX6_wordsAhead 1 = .ok (.istore_n 2, 1) := by decide +kernel
theorem dX6_wordsAhead_2 : decode cX6_wordsAhead 2 = .ok (.iconst 0, 1) := by decide +kernel
theorem dX6_wordsAhead_3 : decode cX6_wordsAhead 3 = .ok (.istore_n 3, 1) := by decide +kernel
theorem dX6_wordsAhead_4 : decode cX6_wordsAhead 4 = .ok (.iload_n 3, 1) := by decide +kernel
theorem dX6_wordsAhead_5 : decode cX6_wordsAhead 5 = .ok (.iload_n 1, 1) := by decide +kernel
theorem dX6_wordsAhead_6 : decode cX6_wordsAhead 6 = .ok (.if_icmp .ge 42, 3) := by decide +kernel
theorem dX6_wordsAhead_9 : decode cX6_wordsAhead 9 = .ok (.aload_n 0, 1) := by decide +kernel
theorem dX6_wordsAhead_10 : decode cX6_wordsAhead 10 = .ok (.getfield 14, 3) := by decide +kernel
theorem dX6_wordsAhead_13 : decode cX6_wordsAhead 13 = .ok (.iload_n 3, 1) := by decide +kernel
theorem dX6_wordsAhead_14 : decode cX6_wordsAhead 14 = .ok (.invokevirtual 24, 3) := by decide +kernel
theorem dX6_wordsAhead_17 : decode cX6_wordsAhead 17 = .ok (.invokestatic 32, 3) := by decide +kernel
theorem dX6_wordsAhead_20 : decode cX6_wordsAhead 20 = .ok (.ifCond .eq 22, 3) := by decide +kernel
theorem dX6_wordsAhead_23 : decode cX6_wordsAhead 23 = .ok (.aload_n 0, 1) := by decide +kernel
theorem dX6_wordsAhead_24 : decode cX6_wordsAhead 24 = .ok (.getfield 14, 3) := by decide +kernel
theorem dX6_wordsAhead_27 : decode cX6_wordsAhead 27 = .ok (.iload_n 3, 1) := by decide +kernel
theorem dX6_wordsAhead_28 : decode cX6_wordsAhead 28 = .ok (.iconst 1, 1) := by decide +kernel
theorem dX6_wordsAhead_29 : decode cX6_wordsAhead 29 = .ok (.isub, 1) := by decide +kernel
theorem dX6_wordsAhead_30 : decode cX6_wordsAhead 30 = .ok (.invokevirtual 24, 3) := by decide +kernel
theorem dX6_wordsAhead_33 : decode cX6_wordsAhead 33 = .ok (.invokestatic 32, 3) := by decide +kernel
theorem dX6_wordsAhead_36 : decode cX6_wordsAhead 36 = .ok (.ifCond .ne 6, 3) := by decide +kernel
theorem dX6_wordsAhead_39 : decode cX6_wordsAhead 39 = .ok (.iinc 2 1, 3) := by decide +kernel
theorem dX6_wordsAhead_42 : decode cX6_wordsAhead 42 = .ok (.iinc 3 1, 3) := by decide +kernel
theorem dX6_wordsAhead_45 : decode cX6_wordsAhead 45 = .ok (.goto (-41), 3) := by decide +kernel
theorem dX6_wordsAhead_48 : decode cX6_wordsAhead 48 = .ok (.iload_n 2, 1) := by decide +kernel
theorem dX6_wordsAhead_49 : decode cX6_wordsAhead 49 = .ok (.ireturn, 1) := by decide +kernel
set_option maxRecDepth 20000 in
theorem ggX7_init_X3_init : GoodIn wsX7_init wsX3_init := goodIn_r _ [14, 15, 2, 3, 16, 17, 18, 19, 20, 21, 27] (by decide +kernel) (by decide +kernel)
set_option maxRecDepth 20000 in
theorem gX7_init_X3_init : GoodIn wsX7_init (wsX3_init) := ggX7_init_X3_init
theorem dX7_init_0 : decode cX7_init 0 = .ok (.aload_n 0, 1) := by decide +kernel
theorem dX7_init_1 : decode cX7_init 1 = .ok (.invokespecial 1, 3) := by decide +kernel
theorem dX7_init_4 : decode cX7_init 4 = .ok (.aload_n 0, 1) := by decide +kernel
theorem dX7_init_5 : decode cX7_init 5 = .ok (.iload_n 1, 1) := by decide +kernel
theorem dX7_init_6 : decode cX7_init 6 = .ok (.putfield 7, 3) := by decide +kernel
theorem dX7_init_9 : decode cX7_init 9 = .ok (.aload_n 0, 1) := by decide +kernel
theorem dX7_init_10 : decode cX7_init 10 = .ok (.iload_n 2, 1) := by decide +kernel
theorem dX7_init_11 : decode cX7_init 11 = .ok (.putfield 13, 3) := by decide +kernel
theorem dX7_init_14 : decode cX7_init 14 = .ok (.aload_n 0, 1) := by decide +kernel
theorem dX7_init_15 : decode cX7_init 15 = .ok (.new 16, 3) := by decide +kernel
theorem dX7_init_18 : decode cX7_init 18 = .ok (.dup, 1) := by decide +kernel
theorem dX7_init_19 : decode cX7_init 19 = .ok (.iload_n 1, 1) := by decide +kernel
theorem dX7_init_20 : decode cX7_init 20 = .ok (.iload_n 2, 1) := by decide +kernel
theorem dX7_init_21 : decode cX7_init 21 = .ok (.imul, 1) := by decide +kernel
theorem dX7_init_22 : decode cX7_init 22 = .ok (.invokespecial 18, 3) := by decide +kernel
theorem dX7_init_25 : decode cX7_init 25 = .ok (.putfield 21, 3) := by decide +kernel
theorem dX7_init_28 : decode cX7_init 28 = .ok (.aload_n 0, 1) := by decide +kernel
theorem dX7_init_29 : decode cX7_init 29 = .ok (.new 16, 3) := by decide +kernel
theorem dX7_init_32 : decode cX7_init 32 = .ok (.dup, 1) := by decide +kernel
theorem dX7_init_33 : decode cX7_init 33 = .ok (.iload_n 1, 1) := by decide +kernel
theorem dX7_init_34 : decode cX7_init 34 = .ok (.invokespecial 18, 3) := by decide +kernel
theorem dX7_init_37 : decode cX7_init 37 = .ok (.putfield 25, 3) := by decide +kernel
theorem dX7_init_40 : decode cX7_init 40 = .ok (.aload_n 0, 1) := by decide +kernel
theorem dX7_init_41 : decode cX7_init 41 = .ok (.iconst 0, 1) := by decide +kernel
theorem dX7_init_42 : decode cX7_init 42 = .ok (.putfield 28, 3) := by decide +kernel
theorem dX7_init_45 : decode cX7_init 45 = .ok (.return_, 1) := by decide +kernel
theorem dX7_size_0 : decode cX7_size 0 = .ok (.aload_n 0, 1) := by decide +kernel
theorem dX7_size_1 : decode cX7_size 1 = .ok (.getfield 28, 3) := by decide +kernel
theorem dX7_size_4 : decode cX7_size 4 = .ok (.ireturn, 1) := by decide +kernel
theorem dX7_has_0 : decode cX7_has 0 = .ok (.iload_n 1, 1) := by decide +kernel
theorem dX7_has_1 : decode cX7_has 1 = .ok (.ifCond .lt 15, 3) := by decide +kernel
theorem dX7_has_4 : decode cX7_has 4 = .ok (.iload_n 1, 1) := by decide +kernel
theorem dX7_has_5 : decode cX7_has 5 = .ok (.aload_n 0, 1) := by decide +kernel
theorem dX7_has_6 : decode cX7_has 6 = .ok (.getfield 28, 3) := by decide +kernel
theorem dX7_has_9 : decode cX7_has 9 = .ok (.if_icmp .ge 7, 3) := by decide +kernel
theorem dX7_has_12 : decode cX7_has 12 = .ok (.iconst 1, 1) := by decide +kernel
theorem dX7_has_13 : decode cX7_has 13 = .ok (.goto 4, 3) := by decide +kernel
theorem dX7_has_16 : decode cX7_has 16 = .ok (.iconst 0, 1) := by decide +kernel
theorem dX7_has_17 : decode cX7_has 17 = .ok (.ireturn, 1) := by decide +kernel
theorem dX7_isFull_0 : decode cX7_isFull 0 = .ok (.aload_n 0, 1) := by decide +kernel
theorem dX7_isFull_1 : decode cX7_isFull 1 = .ok (.getfield 28, 3) := by decide +kernel
theorem dX7_isFull_4 : decode cX7_isFull 4 = .ok (.aload_n 0, 1) := by decide +kernel
theorem dX7_isFull_5 : decode cX7_isFull 5 = .ok (.getfield 7, 3) := by decide +kernel
theorem dX7_isFull_8 : decode cX7_isFull 8 = .ok (.if_icmp .lt 7, 3) := by decide +kernel
theorem dX7_isFull_11 : decode cX7_isFull 11 = .ok (.iconst 1, 1) := by decide +kernel
theorem dX7_isFull_12 : decode cX7_isFull 12 = .ok (.goto 4, 3) := by decide +kernel
theorem dX7_isFull_15 : decode cX7_isFull 15 = .ok (.iconst 0, 1) := by decide +kernel
theorem dX7_isFull_16 : decode cX7_isFull 16 = .ok (.ireturn, 1) := by decide +kernel
theorem dX7_greatestLength_0 : decode cX7_greatestLength 0 = .ok (.aload_n 0, 1) := by decide +kernel
theorem dX7_greatestLength_1 : decode cX7_greatestLength 1 = .ok (.getfield 13, 3) := by decide +kernel
theorem dX7_greatestLength_4 : decode cX7_greatestLength 4 = .ok (.ireturn, 1) := by decide +kernel
set_option maxRecDepth 20000 in
theorem ggX7_lengthOf_X3_at : GoodIn wsX7_lengthOf wsX3_at := goodIn_r _ [6, 7, 13] (by decide +kernel) (by decide +kernel)
set_option maxRecDepth 20000 in
theorem gX7_lengthOf_X3_at : GoodIn wsX7_lengthOf (wsV RX7 31 RX3 yX3_at wsX3_at) := goodIn_app (goodIn_of _ (by decide +kernel)) ggX7_lengthOf_X3_at
theorem dX7_lengthOf_0 : decode cX7_lengthOf 0 = .ok (.aload_n 0, 1) := by decide +kernel
theorem dX7_lengthOf_1 : decode cX7_lengthOf 1 = .ok (.getfield 25, 3) := by decide +kernel
theorem dX7_lengthOf_4 : decode cX7_lengthOf 4 = .ok (.iload_n 1, 1) := by decide +kernel
theorem dX7_lengthOf_5 : decode cX7_lengthOf 5 = .ok (.invokevirtual 31, 3) := by decide +kernel
theorem dX7_lengthOf_8 : decode cX7_lengthOf 8 = .ok (.ireturn, 1) := by decide +kernel
set_option maxRecDepth 20000 in
theorem ggX7_letterOf_X3_at : GoodIn wsX7_letterOf wsX3_at := goodIn_r _ [7, 8, 14] (by decide +kernel) (by decide +kernel)
set_option maxRecDepth 20000 in
theorem gX7_letterOf_X3_at : GoodIn wsX7_letterOf (wsV RX7 31 RX3 yX3_at wsX3_at) := goodIn_app (goodIn_of _ (by decide +kernel)) ggX7_letterOf_X3_at
theorem dX7_letterOf_0 : decode cX7_letterOf 0 = .ok (.aload_n 0, 1) := by decide +kernel
theorem dX7_letterOf_1 : decode cX7_letterOf 1 = .ok (.getfield 21, 3) := by decide +kernel
theorem dX7_letterOf_4 : decode cX7_letterOf 4 = .ok (.iload_n 1, 1) := by decide +kernel
theorem dX7_letterOf_5 : decode cX7_letterOf 5 = .ok (.aload_n 0, 1) := by decide +kernel
theorem dX7_letterOf_6 : decode cX7_letterOf 6 = .ok (.getfield 13, 3) := by decide +kernel
theorem dX7_letterOf_9 : decode cX7_letterOf 9 = .ok (.imul, 1) := by decide +kernel
theorem dX7_letterOf_10 : decode cX7_letterOf 10 = .ok (.iload_n 2, 1) := by decide +kernel
theorem dX7_letterOf_11 : decode cX7_letterOf 11 = .ok (.iadd, 1) := by decide +kernel
theorem dX7_letterOf_12 : decode cX7_letterOf 12 = .ok (.invokevirtual 31, 3) := by decide +kernel
theorem dX7_letterOf_15 : decode cX7_letterOf 15 = .ok (.ireturn, 1) := by decide +kernel
set_option maxRecDepth 20000 in
theorem ggX7_widthOf_X3_at : GoodIn wsX7_widthOf wsX3_at := goodIn_r _ [8, 9, 15] (by decide +kernel) (by decide +kernel)
set_option maxRecDepth 20000 in
theorem gX7_widthOf_X3_at : GoodIn wsX7_widthOf (wsV RX7 31 RX3 yX3_at wsX3_at) := goodIn_app (goodIn_of _ (by decide +kernel)) ggX7_widthOf_X3_at
theorem dX7_widthOf_0 : decode cX7_widthOf 0 = .ok (.iload_n 1, 1) := by decide +kernel
theorem dX7_widthOf_1 : decode cX7_widthOf 1 = .ok (.aload_n 0, 1) := by decide +kernel
theorem dX7_widthOf_2 : decode cX7_widthOf 2 = .ok (.getfield 13, 3) := by decide +kernel
theorem dX7_widthOf_5 : decode cX7_widthOf 5 = .ok (.imul, 1) := by decide +kernel
theorem dX7_widthOf_6 : decode cX7_widthOf 6 = .ok (.istore_n 3, 1) := by decide +kernel
theorem dX7_widthOf_7 : decode cX7_widthOf 7 = .ok (.iload_n 3, 1) := by decide +kernel
theorem dX7_widthOf_8 : decode cX7_widthOf 8 = .ok (.aload_n 0, 1) := by decide +kernel
theorem dX7_widthOf_9 : decode cX7_widthOf 9 = .ok (.getfield 25, 3) := by decide +kernel
theorem dX7_widthOf_12 : decode cX7_widthOf 12 = .ok (.iload_n 1, 1) := by decide +kernel
theorem dX7_widthOf_13 : decode cX7_widthOf 13 = .ok (.invokevirtual 31, 3) := by decide +kernel
theorem dX7_widthOf_16 : decode cX7_widthOf 16 = .ok (.iadd, 1) := by decide +kernel
theorem dX7_widthOf_17 : decode cX7_widthOf 17 = .ok (.istore 4, 2) := by decide +kernel
theorem dX7_widthOf_19 : decode cX7_widthOf 19 = .ok (.iconst 0, 1) := by decide +kernel
theorem dX7_widthOf_20 : decode cX7_widthOf 20 = .ok (.istore 5, 2) := by decide +kernel
theorem dX7_widthOf_22 : decode cX7_widthOf 22 = .ok (.iload_n 3, 1) := by decide +kernel
theorem dX7_widthOf_23 : decode cX7_widthOf 23 = .ok (.istore 6, 2) := by decide +kernel
theorem dX7_widthOf_25 : decode cX7_widthOf 25 = .ok (.iload 6, 2) := by decide +kernel
theorem dX7_widthOf_27 : decode cX7_widthOf 27 = .ok (.iload 4, 2) := by decide +kernel
theorem dX7_widthOf_29 : decode cX7_widthOf 29 = .ok (.if_icmp .ge 30, 3) := by decide +kernel
theorem dX7_widthOf_32 : decode cX7_widthOf 32 = .ok (.iload 5, 2) := by decide +kernel
theorem dX7_widthOf_34 : decode cX7_widthOf 34 = .ok (.aload_n 2, 1) := by decide +kernel
theorem dX7_widthOf_35 : decode cX7_widthOf 35 = .ok (.aload_n 0, 1) := by decide +kernel
theorem dX7_widthOf_36 : decode cX7_widthOf 36 = .ok (.getfield 21, 3) := by decide +kernel
theorem dX7_widthOf_39 : decode cX7_widthOf 39 = .ok (.iload 6, 2) := by decide +kernel
theorem dX7_widthOf_41 : decode cX7_widthOf 41 = .ok (.invokevirtual 31, 3) := by decide +kernel
theorem dX7_widthOf_44 : decode cX7_widthOf 44 = .ok (.bipush 97, 2) := by decide +kernel
theorem dX7_widthOf_46 : decode cX7_widthOf 46 = .ok (.isub, 1) := by decide +kernel
theorem dX7_widthOf_47 : decode cX7_widthOf 47 = .ok (.invokevirtual 31, 3) := by decide +kernel
theorem dX7_widthOf_50 : decode cX7_widthOf 50 = .ok (.iadd, 1) := by decide +kernel
theorem dX7_widthOf_51 : decode cX7_widthOf 51 = .ok (.istore 5, 2) := by decide +kernel
theorem dX7_widthOf_53 : decode cX7_widthOf 53 = .ok (.iinc 6 1, 3) := by decide +kernel
theorem dX7_widthOf_56 : decode cX7_widthOf 56 = .ok (.goto (-31), 3) := by decide +kernel
theorem dX7_widthOf_59 : decode cX7_widthOf 59 = .ok (.iload 5, 2) := by decide +kernel
theorem dX7_widthOf_61 : decode cX7_widthOf 61 = .ok (.ireturn, 1) := by decide +kernel
set_option maxRecDepth 20000 in
theorem ggX7_hasWord_X7_isWord : GoodIn wsX7_hasWord wsX7_isWord := goodIn_r _ [6, 7, 8, 9, 5, 10, 11, 12, 13, 14, 15, 16, 17, 18, 19, 20, 21, 22, 23, 24, 25, 26, 27, 28, 29, 30, 31, 32, 33, 34, 35, 36, 37, 38, 39, 40, 41, 42, 43] (by decide +kernel) (by decide +kernel)
set_option maxRecDepth 20000 in
theorem gX7_hasWord_X7_isWord : GoodIn wsX7_hasWord (wsV RX7 35 RX7 yX7_isWord wsX7_isWord) := goodIn_app (goodIn_of _ (by decide +kernel)) ggX7_hasWord_X7_isWord
theorem dX7_hasWord_0 : decode cX7_hasWord 0 = .ok (.iconst 0, 1) := by decide +kernel
theorem dX7_hasWord_1 : decode cX7_hasWord 1 = .ok (.istore_n 2, 1) := by decide +kernel
theorem dX7_hasWord_2 : decode cX7_hasWord 2 = .ok (.iload_n 2, 1) := by decide +kernel
theorem dX7_hasWord_3 : decode cX7_hasWord 3 = .ok (.aload_n 0, 1) := by decide +kernel
theorem dX7_hasWord_4 : decode cX7_hasWord 4 = .ok (.getfield 28, 3) := by decide +kernel
theorem dX7_hasWord_7 : decode cX7_hasWord 7 = .ok (.if_icmp .ge 20, 3) := by decide +kernel
theorem dX7_hasWord_10 : decode cX7_hasWord 10 = .ok (.aload_n 0, 1) := by decide +kernel
theorem dX7_hasWord_11 : decode cX7_hasWord 11 = .ok (.iload_n 2, 1) := by decide +kernel
theorem dX7_hasWord_12 : decode cX7_hasWord 12 = .ok (.aload_n 1, 1) := by decide +kernel
theorem dX7_hasWord_13 : decode cX7_hasWord 13 = .ok (.invokevirtual 35, 3) := by decide +kernel
theorem dX7_hasWord_16 : decode cX7_hasWord 16 = .ok (.ifCond .eq 5, 3) := by decide +kernel
theorem dX7_hasWord_19 : decode cX7_hasWord 19 = .ok (.iconst 1, 1) := by decide +kernel
theorem dX7_hasWord_20 : decode cX7_hasWord 20 = .ok (.ireturn, 1) := by decide +kernel
theorem dX7_hasWord_21 : decode cX7_hasWord 21 = .ok (.iinc 2 1, 3) := by decide +kernel
theorem dX7_hasWord_24 : decode cX7_hasWord 24 = .ok (.goto (-22), 3) := by decide +kernel
theorem dX7_hasWord_27 : decode cX7_hasWord 27 = .ok (.iconst 0, 1) := by decide +kernel
theorem dX7_hasWord_28 : decode cX7_hasWord 28 = .ok (.ireturn, 1) := by decide +kernel
set_option maxRecDepth 20000 in
theorem ggX7_isWord_X7_lengthOf : GoodIn wsX7_isWord wsX7_lengthOf := goodIn_r _ [5, 6, 7, 8, 9, 10, 11, 12, 31, 32, 33, 34, 35, 36] (by decide +kernel) (by decide +kernel)
set_option maxRecDepth 20000 in
theorem gX7_isWord_X7_lengthOf : GoodIn wsX7_isWord (wsV RX7 39 RX7 yX7_lengthOf wsX7_lengthOf) := goodIn_app (goodIn_of _ (by decide +kernel)) ggX7_isWord_X7_lengthOf
set_option maxRecDepth 20000 in
theorem ggX7_isWord_X6_size : GoodIn wsX7_isWord wsX6_size := goodIn_r _ [17, 18, 37, 38] (by decide +kernel) (by decide +kernel)
set_option maxRecDepth 20000 in
theorem gX7_isWord_X6_size : GoodIn wsX7_isWord (wsV RX7 42 RX6 yX6_size wsX6_size) := goodIn_app (goodIn_of _ (by decide +kernel)) ggX7_isWord_X6_size
set_option maxRecDepth 20000 in
theorem ggX7_isWord_X7_letterOf : GoodIn wsX7_isWord wsX7_letterOf := goodIn_r _ [22, 23, 24, 7, 8, 9, 10, 11, 12, 31, 32, 33, 34, 35, 36] (by decide +kernel) (by decide +kernel)
set_option maxRecDepth 20000 in
theorem gX7_isWord_X7_letterOf : GoodIn wsX7_isWord (wsV RX7 47 RX7 yX7_letterOf wsX7_letterOf) := goodIn_app (goodIn_of _ (by decide +kernel)) ggX7_isWord_X7_letterOf
set_option maxRecDepth 20000 in
theorem ggX7_isWord_X6_at : GoodIn wsX7_isWord wsX6_at := goodIn_r _ [28, 29, 30, 8, 9, 10, 11, 12, 37, 38, 36] (by decide +kernel) (by decide +kernel)
set_option maxRecDepth 20000 in
theorem gX7_isWord_X6_at : GoodIn wsX7_isWord (wsV RX7 51 RX6 yX6_at wsX6_at) := goodIn_app (goodIn_of _ (by decide +kernel)) ggX7_isWord_X6_at
theorem dX7_isWord_0 : decode cX7_isWord 0 = .ok (.aload_n 0, 1) := by decide +kernel
theorem dX7_isWord_1 : decode cX7_isWord 1 = .ok (.iload_n 1, 1) := by decide +kernel
theorem dX7_isWord_2 : decode cX7_isWord 2 = .ok (.invokevirtual 39, 3) := by decide +kernel
theorem dX7_isWord_5 : decode cX7_isWord 5 = .ok (.aload_n 2, 1) := by decide +kernel
theorem dX7_isWord_6 : decode cX7_isWord 6 = .ok (.invokevirtual 42, 3) := by decide +kernel
theorem dX7_isWord_9 : decode cX7_isWord 9 = .ok (.if_icmp .eq 5, 3) := by decide +kernel
theorem dX7_isWord_12 : decode cX7_isWord 12 = .ok (.iconst 0, 1) := by decide +kernel
theorem dX7_isWord_13 : decode cX7_isWord 13 = .ok (.ireturn, 1) := by decide +kernel
theorem dX7_isWord_14 : decode cX7_isWord 14 = .ok (.iconst 0, 1) := by decide +kernel
theorem dX7_isWord_15 : decode cX7_isWord 15 = .ok (.istore_n 3, 1) := by decide +kernel
theorem dX7_isWord_16 : decode cX7_isWord 16 = .ok (.iload_n 3, 1) := by decide +kernel
theorem dX7_isWord_17 : decode cX7_isWord 17 = .ok (.aload_n 2, 1) := by decide +kernel
theorem dX7_isWord_18 : decode cX7_isWord 18 = .ok (.invokevirtual 42, 3) := by decide +kernel
theorem dX7_isWord_21 : decode cX7_isWord 21 = .ok (.if_icmp .ge 25, 3) := by decide +kernel
theorem dX7_isWord_24 : decode cX7_isWord 24 = .ok (.aload_n 0, 1) := by decide +kernel
theorem dX7_isWord_25 : decode cX7_isWord 25 = .ok (.iload_n 1, 1) := by decide +kernel
theorem dX7_isWord_26 : decode cX7_isWord 26 = .ok (.iload_n 3, 1) := by decide +kernel
theorem dX7_isWord_27 : decode cX7_isWord 27 = .ok (.invokevirtual 47, 3) := by decide +kernel
theorem dX7_isWord_30 : decode cX7_isWord 30 = .ok (.aload_n 2, 1) := by decide +kernel
theorem dX7_isWord_31 : decode cX7_isWord 31 = .ok (.iload_n 3, 1) := by decide +kernel
theorem dX7_isWord_32 : decode cX7_isWord 32 = .ok (.invokevirtual 51, 3) := by decide +kernel
theorem dX7_isWord_35 : decode cX7_isWord 35 = .ok (.if_icmp .eq 5, 3) := by decide +kernel
theorem dX7_isWord_38 : decode cX7_isWord 38 = .ok (.iconst 0, 1) := by decide +kernel
theorem dX7_isWord_39 : decode cX7_isWord 39 = .ok (.ireturn, 1) := by decide +kernel
theorem dX7_isWord_40 : decode cX7_isWord 40 = .ok (.iinc 3 1, 3) := by decide +kernel
theorem dX7_isWord_43 : decode cX7_isWord 43 = .ok (.goto (-27), 3) := by decide +kernel
theorem dX7_isWord_46 : decode cX7_isWord 46 = .ok (.iconst 1, 1) := by decide +kernel
theorem dX7_isWord_47 : decode cX7_isWord 47 = .ok (.ireturn, 1) := by decide +kernel
theorem dX7_empty_0 : decode cX7_empty 0 = .ok (.aload_n 0, 1) := by decide +kernel
theorem dX7_empty_1 : decode cX7_empty 1 = .ok (.iconst 0, 1) := by decide +kernel
theorem dX7_empty_2 : decode cX7_empty 2 = .ok (.putfield 28, 3) := by decide +kernel
theorem dX7_empty_5 : decode cX7_empty 5 = .ok (.return_, 1) := by decide +kernel
set_option maxRecDepth 20000 in
theorem ggX7_addWordsOf_X6_size : GoodIn wsX7_addWordsOf wsX6_size := goodIn_r _ [5, 6, 44, 45] (by decide +kernel) (by decide +kernel)
set_option maxRecDepth 20000 in
theorem gX7_addWordsOf_X6_size : GoodIn wsX7_addWordsOf (wsV RX7 42 RX6 yX6_size wsX6_size) := goodIn_app (goodIn_of _ (by decide +kernel)) ggX7_addWordsOf_X6_size
set_option maxRecDepth 20000 in
theorem ggX7_addWordsOf_X6_at : GoodIn wsX7_addWordsOf wsX6_at := goodIn_r _ [10, 11, 12, 13, 14, 15, 16, 17, 44, 45, 46] (by decide +kernel) (by decide +kernel)
set_option maxRecDepth 20000 in
theorem gX7_addWordsOf_X6_at : GoodIn wsX7_addWordsOf (wsV RX7 51 RX6 yX6_at wsX6_at) := goodIn_app (goodIn_of _ (by decide +kernel)) ggX7_addWordsOf_X6_at
set_option maxRecDepth 20000 in
theorem ggX7_addWordsOf_X8_isLetter : GoodIn wsX7_addWordsOf wsX8_isLetter := goodIn_r _ [20] (by decide +kernel) (by decide +kernel)
set_option maxRecDepth 20000 in
theorem gX7_addWordsOf_X8_isLetter_n52 : GoodIn wsX7_addWordsOf (wsX8_isLetter) := ggX7_addWordsOf_X8_isLetter
set_option maxRecDepth 20000 in
theorem ggX7_addWordsOf_X7_beginWord : GoodIn wsX7_addWordsOf wsX7_beginWord := goodIn_r _ [25, 26, 27, 28, 29, 30, 31, 15, 32, 17, 47, 48, 49, 50, 51, 46] (by decide +kernel) (by decide +kernel)
set_option maxRecDepth 20000 in
theorem gX7_addWordsOf_X7_beginWord : GoodIn wsX7_addWordsOf (wsV RX7 58 RX7 yX7_beginWord wsX7_beginWord) := goodIn_app (goodIn_of _ (by decide +kernel)) ggX7_addWordsOf_X7_beginWord
set_option maxRecDepth 20000 in
theorem ggX7_addWordsOf_X7_addLetter : GoodIn wsX7_addWordsOf wsX7_addLetter := goodIn_r _ [36, 26, 37, 38, 28, 39, 40, 41, 24, 42, 43, 13, 14, 15, 16, 17, 29, 30, 31, 32, 47, 48, 49, 50, 51, 46] (by decide +kernel) (by decide +kernel)
set_option maxRecDepth 20000 in
theorem gX7_addWordsOf_X7_addLetter : GoodIn wsX7_addWordsOf (wsV RX7 61 RX7 yX7_addLetter wsX7_addLetter) := goodIn_app (goodIn_of _ (by decide +kernel)) ggX7_addWordsOf_X7_addLetter
theorem dX7_addWordsOf_0 : decode cX7_addWordsOf 0 = .ok (.iconst 0, 1) := by decide +kernel
theorem dX7_addWordsOf_1 : decode cX7_addWordsOf 1 = .ok (.istore_n 2, 1) := by decide +kernel
theorem dX7_addWordsOf_2 : decode cX7_addWordsOf 2 = .ok (.iconst 0, 1) := by decide +kernel
theorem dX7_addWordsOf_3 : decode cX7_addWordsOf 3 = .ok (.istore_n 3, 1) := by decide +kernel
theorem dX7_addWordsOf_4 : decode cX7_addWordsOf 4 = .ok (.iload_n 3, 1) := by decide +kernel
theorem dX7_addWordsOf_5 : decode cX7_addWordsOf 5 = .ok (.aload_n 1, 1) := by decide +kernel
theorem dX7_addWordsOf_6 : decode cX7_addWordsOf 6 = .ok (.invokevirtual 42, 3) := by decide +kernel
theorem dX7_addWordsOf_9 : decode cX7_addWordsOf 9 = .ok (.if_icmp .ge 44, 3) := by decide +kernel
theorem dX7_addWordsOf_12 : decode cX7_addWordsOf 12 = .ok (.aload_n 1, 1) := by decide +kernel
theorem dX7_addWordsOf_13 : decode cX7_addWordsOf 13 = .ok (.iload_n 3, 1) := by decide +kernel
theorem dX7_addWordsOf_14 : decode cX7_addWordsOf 14 = .ok (.invokevirtual 51, 3) := by decide +kernel
theorem dX7_addWordsOf_17 : decode cX7_addWordsOf 17 = .ok (.invokestatic 52, 3) := by decide +kernel
theorem dX7_addWordsOf_20 : decode cX7_addWordsOf 20 = .ok (.ifCond .ne 8, 3) := by decide +kernel
theorem dX7_addWordsOf_23 : decode cX7_addWordsOf 23 = .ok (.iconst 0, 1) := by decide +kernel
theorem dX7_addWordsOf_24 : decode cX7_addWordsOf 24 = .ok (.istore_n 2, 1) := by decide +kernel
theorem dX7_addWordsOf_25 : decode cX7_addWordsOf 25 = .ok (.goto 22, 3) := by decide +kernel
theorem dX7_addWordsOf_28 : decode cX7_addWordsOf 28 = .ok (.iload_n 2, 1) := by decide +kernel
theorem dX7_addWordsOf_29 : decode cX7_addWordsOf 29 = .ok (.ifCond .ne 7, 3) := by decide +kernel
theorem dX7_addWordsOf_32 : decode cX7_addWordsOf 32 = .ok (.aload_n 0, 1) := by decide +kernel
theorem dX7_addWordsOf_33 : decode cX7_addWordsOf 33 = .ok (.invokevirtual 58, 3) := by decide +kernel
theorem dX7_addWordsOf_36 : decode cX7_addWordsOf 36 = .ok (.iconst 1, 1) := by decide +kernel
theorem dX7_addWordsOf_37 : decode cX7_addWordsOf 37 = .ok (.istore_n 2, 1) := by decide +kernel
theorem dX7_addWordsOf_38 : decode cX7_addWordsOf 38 = .ok (.aload_n 0, 1) := by decide +kernel
theorem dX7_addWordsOf_39 : decode cX7_addWordsOf 39 = .ok (.aload_n 1, 1) := by decide +kernel
theorem dX7_addWordsOf_40 : decode cX7_addWordsOf 40 = .ok (.iload_n 3, 1) := by decide +kernel
theorem dX7_addWordsOf_41 : decode cX7_addWordsOf 41 = .ok (.invokevirtual 51, 3) := by decide +kernel
theorem dX7_addWordsOf_44 : decode cX7_addWordsOf 44 = .ok (.invokevirtual 61, 3) := by decide +kernel
theorem dX7_addWordsOf_47 : decode cX7_addWordsOf 47 = .ok (.iinc 3 1, 3) := by decide +kernel
theorem dX7_addWordsOf_50 : decode cX7_addWordsOf 50 = .ok (.goto (-46), 3) := by decide +kernel
theorem dX7_addWordsOf_53 : decode cX7_addWordsOf 53 = .ok (.return_, 1) := by decide +kernel
set_option maxRecDepth 20000 in
theorem ggX7_beginWord_X3_put : GoodIn wsX7_beginWord wsX3_put := goodIn_r _ [8, 9, 15] (by decide +kernel) (by decide +kernel)
set_option maxRecDepth 20000 in
theorem gX7_beginWord_X3_put : GoodIn wsX7_beginWord (wsV RX7 64 RX3 yX3_put wsX3_put) := goodIn_app (goodIn_of _ (by decide +kernel)) ggX7_beginWord_X3_put
theorem dX7_beginWord_0 : decode cX7_beginWord 0 = .ok (.aload_n 0, 1) := by decide +kernel
theorem dX7_beginWord_1 : decode cX7_beginWord 1 = .ok (.getfield 28, 3) := by decide +kernel
theorem dX7_beginWord_4 : decode cX7_beginWord 4 = .ok (.aload_n 0, 1) := by decide +kernel
theorem dX7_beginWord_5 : decode cX7_beginWord 5 = .ok (.getfield 7, 3) := by decide +kernel
theorem dX7_beginWord_8 : decode cX7_beginWord 8 = .ok (.if_icmp .ge 25, 3) := by decide +kernel
theorem dX7_beginWord_11 : decode cX7_beginWord 11 = .ok (.aload_n 0, 1) := by decide +kernel
theorem dX7_beginWord_12 : decode cX7_beginWord 12 = .ok (.getfield 25, 3) := by decide +kernel
theorem dX7_beginWord_15 : decode cX7_beginWord 15 = .ok (.aload_n 0, 1) := by decide +kernel
theorem dX7_beginWord_16 : decode cX7_beginWord 16 = .ok (.getfield 28, 3) := by decide +kernel
theorem dX7_beginWord_19 : decode cX7_beginWord 19 = .ok (.iconst 0, 1) := by decide +kernel
theorem dX7_beginWord_20 : decode cX7_beginWord 20 = .ok (.invokevirtual 64, 3) := by decide +kernel
theorem dX7_beginWord_23 : decode cX7_beginWord 23 = .ok (.aload_n 0, 1) := by decide +kernel
theorem dX7_beginWord_24 : decode cX7_beginWord 24 = .ok (.dup, 1) := by decide +kernel
theorem dX7_beginWord_25 : decode cX7_beginWord 25 = .ok (.getfield 28, 3) := by decide +kernel
theorem dX7_beginWord_28 : decode cX7_beginWord 28 = .ok (.iconst 1, 1) := by decide +kernel
theorem dX7_beginWord_29 : decode cX7_beginWord 29 = .ok (.iadd, 1) := by decide +kernel
theorem dX7_beginWord_30 : decode cX7_beginWord 30 = .ok (.putfield 28, 3) := by decide +kernel
theorem dX7_beginWord_33 : decode cX7_beginWord 33 = .ok (.return_, 1) := by decide +kernel
set_option maxRecDepth 20000 in
theorem ggX7_addLetter_X7_lengthOf : GoodIn wsX7_addLetter wsX7_lengthOf := goodIn_r _ [9, 4, 10, 11, 12, 13, 14, 15, 20, 21, 22, 23, 24, 25] (by decide +kernel) (by decide +kernel)
set_option maxRecDepth 20000 in
theorem gX7_addLetter_X7_lengthOf : GoodIn wsX7_addLetter (wsV RX7 39 RX7 yX7_lengthOf wsX7_lengthOf) := goodIn_app (goodIn_of _ (by decide +kernel)) ggX7_addLetter_X7_lengthOf
set_option maxRecDepth 20000 in
theorem ggX7_addLetter_X3_put : GoodIn wsX7_addLetter wsX3_put := goodIn_r _ [19, 15, 25] (by decide +kernel) (by decide +kernel)
set_option maxRecDepth 20000 in
theorem gX7_addLetter_X3_put : GoodIn wsX7_addLetter (wsV RX7 64 RX3 yX3_put wsX3_put) := goodIn_app (goodIn_of _ (by decide +kernel)) ggX7_addLetter_X3_put
theorem dX7_addLetter_0 : decode cX7_addLetter 0 = .ok (.aload_n 0, 1) := by decide +kernel
theorem dX7_addLetter_1 : decode cX7_addLetter 1 = .ok (.getfield 28, 3) := by decide +kernel
theorem dX7_addLetter_4 : decode cX7_addLetter 4 = .ok (.iconst 1, 1) := by decide +kernel
theorem dX7_addLetter_5 : decode cX7_addLetter 5 = .ok (.isub, 1) := by decide +kernel
theorem dX7_addLetter_6 : decode cX7_addLetter 6 = .ok (.istore_n 2, 1) := by decide +kernel
theorem dX7_addLetter_7 : decode cX7_addLetter 7 = .ok (.aload_n 0, 1) := by decide +kernel
theorem dX7_addLetter_8 : decode cX7_addLetter 8 = .ok (.iload_n 2, 1) := by decide +kernel
theorem dX7_addLetter_9 : decode cX7_addLetter 9 = .ok (.invokevirtual 39, 3) := by decide +kernel
theorem dX7_addLetter_12 : decode cX7_addLetter 12 = .ok (.istore_n 3, 1) := by decide +kernel
theorem dX7_addLetter_13 : decode cX7_addLetter 13 = .ok (.iload_n 2, 1) := by decide +kernel
theorem dX7_addLetter_14 : decode cX7_addLetter 14 = .ok (.ifCond .lt 38, 3) := by decide +kernel
theorem dX7_addLetter_17 : decode cX7_addLetter 17 = .ok (.iload_n 3, 1) := by decide +kernel
theorem dX7_addLetter_18 : decode cX7_addLetter 18 = .ok (.aload_n 0, 1) := by decide +kernel
theorem dX7_addLetter_19 : decode cX7_addLetter 19 = .ok (.getfield 13, 3) := by decide +kernel
theorem dX7_addLetter_22 : decode cX7_addLetter 22 = .ok (.if_icmp .ge 30, 3) := by decide +kernel
theorem dX7_addLetter_25 : decode cX7_addLetter 25 = .ok (.aload_n 0, 1) := by decide +kernel
theorem dX7_addLetter_26 : decode cX7_addLetter 26 = .ok (.getfield 21, 3) := by decide +kernel
theorem dX7_addLetter_29 : decode cX7_addLetter 29 = .ok (.iload_n 2, 1) := by decide +kernel
theorem dX7_addLetter_30 : decode cX7_addLetter 30 = .ok (.aload_n 0, 1) := by decide +kernel
theorem dX7_addLetter_31 : decode cX7_addLetter 31 = .ok (.getfield 13, 3) := by decide +kernel
theorem dX7_addLetter_34 : decode cX7_addLetter 34 = .ok (.imul, 1) := by decide +kernel
theorem dX7_addLetter_35 : decode cX7_addLetter 35 = .ok (.iload_n 3, 1) := by decide +kernel
theorem dX7_addLetter_36 : decode cX7_addLetter 36 = .ok (.iadd, 1) := by decide +kernel
theorem dX7_addLetter_37 : decode cX7_addLetter 37 = .ok (.iload_n 1, 1) := by decide +kernel
theorem dX7_addLetter_38 : decode cX7_addLetter 38 = .ok (.invokevirtual 64, 3) := by decide +kernel
theorem dX7_addLetter_41 : decode cX7_addLetter 41 = .ok (.aload_n 0, 1) := by decide +kernel
theorem dX7_addLetter_42 : decode cX7_addLetter 42 = .ok (.getfield 25, 3) := by decide +kernel
theorem dX7_addLetter_45 : decode cX7_addLetter 45 = .ok (.iload_n 2, 1) := by decide +kernel
theorem dX7_addLetter_46 : decode cX7_addLetter 46 = .ok (.iload_n 3, 1) := by decide +kernel
theorem dX7_addLetter_47 : decode cX7_addLetter 47 = .ok (.iconst 1, 1) := by decide +kernel
theorem dX7_addLetter_48 : decode cX7_addLetter 48 = .ok (.iadd, 1) := by decide +kernel
theorem dX7_addLetter_49 : decode cX7_addLetter 49 = .ok (.invokevirtual 64, 3) := by decide +kernel
theorem dX7_addLetter_52 : decode cX7_addLetter 52 = .ok (.return_, 1) := by decide +kernel
set_option maxRecDepth 20000 in
theorem ggX7_remove_X7_has : GoodIn wsX7_remove wsX7_has := goodIn_r _ [9, 1, 28, 29, 30, 31, 32] (by decide +kernel) (by decide +kernel)
set_option maxRecDepth 20000 in
theorem gX7_remove_X7_has : GoodIn wsX7_remove (wsV RX7 68 RX7 yX7_has wsX7_has) := goodIn_app (goodIn_of _ (by decide +kernel)) ggX7_remove_X7_has
set_option maxRecDepth 20000 in
theorem ggX7_remove_X7_lengthOf : GoodIn wsX7_remove wsX7_lengthOf := goodIn_r _ [13, 2, 14, 15, 16, 17, 18, 19, 28, 29, 30, 31, 32, 33] (by decide +kernel) (by decide +kernel)
set_option maxRecDepth 20000 in
theorem gX7_remove_X7_lengthOf : GoodIn wsX7_remove (wsV RX7 39 RX7 yX7_lengthOf wsX7_lengthOf) := goodIn_app (goodIn_of _ (by decide +kernel)) ggX7_remove_X7_lengthOf
set_option maxRecDepth 20000 in
theorem ggX7_remove_X3_put : GoodIn wsX7_remove wsX3_put := goodIn_r _ [23, 19, 33] (by decide +kernel) (by decide +kernel)
set_option maxRecDepth 20000 in
theorem gX7_remove_X3_put : GoodIn wsX7_remove (wsV RX7 64 RX3 yX3_put wsX3_put) := goodIn_app (goodIn_of _ (by decide +kernel)) ggX7_remove_X3_put
set_option maxRecDepth 20000 in
theorem ggX7_remove_X7_letterOf : GoodIn wsX7_remove wsX7_letterOf := goodIn_r _ [27, 4, 3, 14, 15, 16, 17, 18, 19, 28, 29, 30, 31, 32, 33] (by decide +kernel) (by decide +kernel)
set_option maxRecDepth 20000 in
theorem gX7_remove_X7_letterOf : GoodIn wsX7_remove (wsV RX7 47 RX7 yX7_letterOf wsX7_letterOf) := goodIn_app (goodIn_of _ (by decide +kernel)) ggX7_remove_X7_letterOf
theorem dX7_remove_0 : decode cX7_remove 0 = .ok (.aload_n 0, 1) := by decide +kernel
theorem dX7_remove_1 : decode cX7_remove 1 = .ok (.iload_n 1, 1) := by decide +kernel
theorem dX7_remove_2 : decode cX7_remove 2 = .ok (.invokevirtual 68, 3) := by decide +kernel
theorem dX7_remove_5 : decode cX7_remove 5 = .ok (.ifCond .ne 4, 3) := by decide +kernel
theorem dX7_remove_8 : decode cX7_remove 8 = .ok (.return_, 1) := by decide +kernel
theorem dX7_remove_9 : decode cX7_remove 9 = .ok (.iload_n 1, 1) := by decide +kernel
theorem dX7_remove_10 : decode cX7_remove 10 = .ok (.istore_n 2, 1) := by decide +kernel
theorem dX7_remove_11 : decode cX7_remove 11 = .ok (.iload_n 2, 1) := by decide +kernel
theorem dX7_remove_12 : decode cX7_remove 12 = .ok (.aload_n 0, 1) := by decide +kernel
theorem dX7_remove_13 : decode cX7_remove 13 = .ok (.getfield 28, 3) := by decide +kernel
theorem dX7_remove_16 : decode cX7_remove 16 = .ok (.iconst 1, 1) := by decide +kernel
theorem dX7_remove_17 : decode cX7_remove 17 = .ok (.isub, 1) := by decide +kernel
theorem dX7_remove_18 : decode cX7_remove 18 = .ok (.if_icmp .ge 63, 3) := by decide +kernel
theorem dX7_remove_21 : decode cX7_remove 21 = .ok (.aload_n 0, 1) := by decide +kernel
theorem dX7_remove_22 : decode cX7_remove 22 = .ok (.getfield 25, 3) := by decide +kernel
theorem dX7_remove_25 : decode cX7_remove 25 = .ok (.iload_n 2, 1) := by decide +kernel
theorem dX7_remove_26 : decode cX7_remove 26 = .ok (.aload_n 0, 1) := by decide +kernel
theorem dX7_remove_27 : decode cX7_remove 27 = .ok (.iload_n 2, 1) := by decide +kernel
theorem dX7_remove_28 : decode cX7_remove 28 = .ok (.iconst 1, 1) := by decide +kernel
theorem dX7_remove_29 : decode cX7_remove 29 = .ok (.iadd, 1) := by decide +kernel
theorem dX7_remove_30 : decode cX7_remove 30 = .ok (.invokevirtual 39, 3) := by decide +kernel
theorem dX7_remove_33 : decode cX7_remove 33 = .ok (.invokevirtual 64, 3) := by decide +kernel
theorem dX7_remove_36 : decode cX7_remove 36 = .ok (.iconst 0, 1) := by decide +kernel
theorem dX7_remove_37 : decode cX7_remove 37 = .ok (.istore_n 3, 1) := by decide +kernel
theorem dX7_remove_38 : decode cX7_remove 38 = .ok (.iload_n 3, 1) := by decide +kernel
theorem dX7_remove_39 : decode cX7_remove 39 = .ok (.aload_n 0, 1) := by decide +kernel
theorem dX7_remove_40 : decode cX7_remove 40 = .ok (.getfield 13, 3) := by decide +kernel
theorem dX7_remove_43 : decode cX7_remove 43 = .ok (.if_icmp .ge 32, 3) := by decide +kernel
theorem dX7_remove_46 : decode cX7_remove 46 = .ok (.aload_n 0, 1) := by decide +kernel
theorem dX7_remove_47 : decode cX7_remove 47 = .ok (.getfield 21, 3) := by decide +kernel
theorem dX7_remove_50 : decode cX7_remove 50 = .ok (.iload_n 2, 1) := by decide +kernel
theorem dX7_remove_51 : decode cX7_remove 51 = .ok (.aload_n 0, 1) := by decide +kernel
theorem dX7_remove_52 : decode cX7_remove 52 = .ok (.getfield 13, 3) := by decide +kernel
theorem dX7_remove_55 : decode cX7_remove 55 = .ok (.imul, 1) := by decide +kernel
theorem dX7_remove_56 : decode cX7_remove 56 = .ok (.iload_n 3, 1) := by decide +kernel
theorem dX7_remove_57 : decode cX7_remove 57 = .ok (.iadd, 1) := by decide +kernel
theorem dX7_remove_58 : decode cX7_remove 58 = .ok (.aload_n 0, 1) := by decide +kernel
theorem dX7_remove_59 : decode cX7_remove 59 = .ok (.iload_n 2, 1) := by decide +kernel
theorem dX7_remove_60 : decode cX7_remove 60 = .ok (.iconst 1, 1) := by decide +kernel
theorem dX7_remove_61 : decode cX7_remove 61 = .ok (.iadd, 1) := by decide +kernel
theorem dX7_remove_62 : decode cX7_remove 62 = .ok (.iload_n 3, 1) := by decide +kernel
theorem dX7_remove_63 : decode cX7_remove 63 = .ok (.invokevirtual 47, 3) := by decide +kernel
theorem dX7_remove_66 : decode cX7_remove 66 = .ok (.invokevirtual 64, 3) := by decide +kernel
theorem dX7_remove_69 : decode cX7_remove 69 = .ok (.iinc 3 1, 3) := by decide +kernel
theorem dX7_remove_72 : decode cX7_remove 72 = .ok (.goto (-34), 3) := by decide +kernel
theorem dX7_remove_75 : decode cX7_remove 75 = .ok (.iinc 2 1, 3) := by decide +kernel
theorem dX7_remove_78 : decode cX7_remove 78 = .ok (.goto (-67), 3) := by decide +kernel
theorem dX7_remove_81 : decode cX7_remove 81 = .ok (.aload_n 0, 1) := by decide +kernel
theorem dX7_remove_82 : decode cX7_remove 82 = .ok (.dup, 1) := by decide +kernel
theorem dX7_remove_83 : decode cX7_remove 83 = .ok (.getfield 28, 3) := by decide +kernel
theorem dX7_remove_86 : decode cX7_remove 86 = .ok (.iconst 1, 1) := by decide +kernel
theorem dX7_remove_87 : decode cX7_remove 87 = .ok (.isub, 1) := by decide +kernel
theorem dX7_remove_88 : decode cX7_remove 88 = .ok (.putfield 28, 3) := by decide +kernel
theorem dX7_remove_91 : decode cX7_remove 91 = .ok (.return_, 1) := by decide +kernel
set_option maxRecDepth 20000 in
theorem ggX7_copyFrom_X3_copyFrom : GoodIn wsX7_copyFrom wsX3_copyFrom := goodIn_r _ [13, 14, 15, 6, 7, 8, 16, 17, 18, 19, 25] (by decide +kernel) (by decide +kernel)
set_option maxRecDepth 20000 in
theorem gX7_copyFrom_X3_copyFrom : GoodIn wsX7_copyFrom (wsV RX7 71 RX3 yX3_copyFrom wsX3_copyFrom) := goodIn_app (goodIn_of _ (by decide +kernel)) ggX7_copyFrom_X3_copyFrom
theorem dX7_copyFrom_0 : decode cX7_copyFrom 0 = .ok (.aload_n 0, 1) := by decide +kernel
theorem dX7_copyFrom_1 : decode cX7_copyFrom 1 = .ok (.getfield 21, 3) := by decide +kernel
theorem dX7_copyFrom_4 : decode cX7_copyFrom 4 = .ok (.aload_n 1, 1) := by decide +kernel
theorem dX7_copyFrom_5 : decode cX7_copyFrom 5 = .ok (.getfield 21, 3) := by decide +kernel
theorem dX7_copyFrom_8 : decode cX7_copyFrom 8 = .ok (.invokevirtual 71, 3) := by decide +kernel
theorem dX7_copyFrom_11 : decode cX7_copyFrom 11 = .ok (.aload_n 0, 1) := by decide +kernel
theorem dX7_copyFrom_12 : decode cX7_copyFrom 12 = .ok (.getfield 25, 3) := by decide +kernel
theorem dX7_copyFrom_15 : decode cX7_copyFrom 15 = .ok (.aload_n 1, 1) := by decide +kernel
theorem dX7_copyFrom_16 : decode cX7_copyFrom 16 = .ok (.getfield 25, 3) := by decide +kernel
theorem dX7_copyFrom_19 : decode cX7_copyFrom 19 = .ok (.invokevirtual 71, 3) := by decide +kernel
theorem dX7_copyFrom_22 : decode cX7_copyFrom 22 = .ok (.aload_n 0, 1) := by decide +kernel
theorem dX7_copyFrom_23 : decode cX7_copyFrom 23 = .ok (.aload_n 0, 1) := by decide +kernel
theorem dX7_copyFrom_24 : decode cX7_copyFrom 24 = .ok (.getfield 7, 3) := by decide +kernel
theorem dX7_copyFrom_27 : decode cX7_copyFrom 27 = .ok (.aload_n 1, 1) := by decide +kernel
theorem dX7_copyFrom_28 : decode cX7_copyFrom 28 = .ok (.getfield 28, 3) := by decide +kernel
theorem dX7_copyFrom_31 : decode cX7_copyFrom 31 = .ok (.invokestatic 75, 3) := by decide +kernel
theorem dX7_copyFrom_34 : decode cX7_copyFrom 34 = .ok (.putfield 28, 3) := by decide +kernel
theorem dX7_copyFrom_37 : decode cX7_copyFrom 37 = .ok (.return_, 1) := by decide +kernel
set_option maxRecDepth 20000 in
theorem ggX8_init_X6_init : GoodIn wsX8_init wsX6_init := goodIn_r _ [31, 32, 2, 3, 33, 34, 35, 36, 37, 38, 39, 40, 41, 42, 43, 44, 45, 46, 47, 155, 123, 124] (by decide +kernel) (by decide +kernel)
set_option maxRecDepth 20000 in
theorem gX8_init_X6_init : GoodIn wsX8_init (wsX6_init) := ggX8_init_X6_init
set_option maxRecDepth 20000 in
theorem ggX8_init_X5_init : GoodIn wsX8_init wsX5_init := goodIn_r _ [50, 51, 2, 3, 52, 53, 54, 55, 56, 57, 58, 34, 35, 59, 60, 61, 62, 63, 64, 65, 66, 67, 68, 69, 70, 71, 39, 40, 41, 42, 43, 44, 45, 46, 47, 72, 73, 74, 75, 76, 77, 78, 79, 80, 156, 157, 158, 159, 160, 132, 133, 134, 135, 136, 155] (by decide +kernel) (by decide +kernel)
set_option maxRecDepth 20000 in
theorem gX8_init_X5_init : GoodIn wsX8_init (wsX5_init) := ggX8_init_X5_init
set_option maxRecDepth 20000 in
theorem ggX8_init_X2_init : GoodIn wsX8_init wsX2_init := goodIn_r _ [83, 84, 2, 3, 85, 86, 9, 10, 87, 88, 49, 50, 51, 52, 53, 54, 55, 56, 57, 58, 34, 35, 59, 60, 61, 62, 63, 64, 65, 66, 67, 68, 69, 70, 71, 39, 40, 41, 42, 43, 44, 45, 46, 47, 72, 73, 74, 75, 76, 77, 78, 79, 80, 137, 138, 132, 133, 134, 135, 136, 156, 157, 158, 159, 160, 155] (by decide +kernel) (by decide +kernel)
set_option maxRecDepth 20000 in
theorem gX8_init_X2_init : GoodIn wsX8_init (wsX2_init) := ggX8_init_X2_init
set_option maxRecDepth 20000 in
theorem ggX8_init_X1_init : GoodIn wsX8_init wsX1_init := goodIn_r _ [91, 92, 2, 3, 93, 34, 35, 94, 95, 96, 97, 98, 99, 39, 40, 41, 42, 43, 44, 45, 46, 47, 155, 139, 140, 141, 142, 143] (by decide +kernel) (by decide +kernel)
set_option maxRecDepth 20000 in
theorem gX8_init_X1_init : GoodIn wsX8_init (wsX1_init) := ggX8_init_X1_init
set_option maxRecDepth 20000 in
theorem ggX8_init_X0_init : GoodIn wsX8_init wsX0_init := goodIn_r _ [102, 103, 2, 3, 104, 105, 34, 35, 106, 107, 39, 40, 41, 42, 43, 44, 45, 46, 47, 144, 145, 155] (by decide +kernel) (by decide +kernel)
set_option maxRecDepth 20000 in
theorem gX8_init_X0_init : GoodIn wsX8_init (wsX0_init) := ggX8_init_X0_init
set_option maxRecDepth 20000 in
theorem ggX8_init_X4_init : GoodIn wsX8_init wsX4_init := goodIn_r _ [110, 111, 2, 3, 112, 113, 114, 34, 35, 115, 116, 117, 118, 119, 120, 121, 122, 39, 40, 41, 42, 43, 44, 45, 46, 47, 146, 147, 148, 149, 150, 151, 152, 153, 154, 155] (by decide +kernel) (by decide +kernel)
set_option maxRecDepth 20000 in
theorem gX8_init_X4_init : GoodIn wsX8_init (wsX4_init) := ggX8_init_X4_init
theorem dX8_init_0 : decode cX8_init 0 = .ok (.aload_n 0, 1) := by decide +kernel
theorem dX8_init_1 : decode cX8_init 1 = .ok (.invokespecial 3, 3) := by decide +kernel
theorem dX8_init_4 : decode cX8_init 4 = .ok (.aload_n 0, 1) := by decide +kernel
theorem dX8_init_5 : decode cX8_init 5 = .ok (.new 9, 3) := by decide +kernel
theorem dX8_init_8 : decode cX8_init 8 = .ok (.dup, 1) := by decide +kernel
theorem dX8_init_9 : decode cX8_init 9 = .ok (.invokespecial 11, 3) := by decide +kernel
theorem dX8_init_12 : decode cX8_init 12 = .ok (.putfield 12, 3) := by decide +kernel
theorem dX8_init_15 : decode cX8_init 15 = .ok (.aload_n 0, 1) := by decide +kernel
theorem dX8_init_16 : decode cX8_init 16 = .ok (.new 16, 3) := by decide +kernel
theorem dX8_init_19 : decode cX8_init 19 = .ok (.dup, 1) := by decide +kernel
theorem dX8_init_20 : decode cX8_init 20 = .ok (.invokespecial 18, 3) := by decide +kernel
theorem dX8_init_23 : decode cX8_init 23 = .ok (.putfield 19, 3) := by decide +kernel
theorem dX8_init_26 : decode cX8_init 26 = .ok (.aload_n 0, 1) := by decide +kernel
theorem dX8_init_27 : decode cX8_init 27 = .ok (.new 23, 3) := by decide +kernel
theorem dX8_init_30 : decode cX8_init 30 = .ok (.dup, 1) := by decide +kernel
theorem dX8_init_31 : decode cX8_init 31 = .ok (.invokespecial 25, 3) := by decide +kernel
theorem dX8_init_34 : decode cX8_init 34 = .ok (.putfield 26, 3) := by decide +kernel
theorem dX8_init_37 : decode cX8_init 37 = .ok (.aload_n 0, 1) := by decide +kernel
theorem dX8_init_38 : decode cX8_init 38 = .ok (.new 30, 3) := by decide +kernel
theorem dX8_init_41 : decode cX8_init 41 = .ok (.dup, 1) := by decide +kernel
theorem dX8_init_42 : decode cX8_init 42 = .ok (.invokespecial 32, 3) := by decide +kernel
theorem dX8_init_45 : decode cX8_init 45 = .ok (.putfield 33, 3) := by decide +kernel
theorem dX8_init_48 : decode cX8_init 48 = .ok (.aload_n 0, 1) := by decide +kernel
theorem dX8_init_49 : decode cX8_init 49 = .ok (.new 37, 3) := by decide +kernel
theorem dX8_init_52 : decode cX8_init 52 = .ok (.dup, 1) := by decide +kernel
theorem dX8_init_53 : decode cX8_init 53 = .ok (.aload_n 0, 1) := by decide +kernel
theorem dX8_init_54 : decode cX8_init 54 = .ok (.getfield 33, 3) := by decide +kernel
theorem dX8_init_57 : decode cX8_init 57 = .ok (.invokespecial 39, 3) := by decide +kernel
theorem dX8_init_60 : decode cX8_init 60 = .ok (.putfield 42, 3) := by decide +kernel
theorem dX8_init_63 : decode cX8_init 63 = .ok (.aload_n 0, 1) := by decide +kernel
theorem dX8_init_64 : decode cX8_init 64 = .ok (.new 37, 3) := by decide +kernel
theorem dX8_init_67 : decode cX8_init 67 = .ok (.dup, 1) := by decide +kernel
theorem dX8_init_68 : decode cX8_init 68 = .ok (.aload_n 0, 1) := by decide +kernel
theorem dX8_init_69 : decode cX8_init 69 = .ok (.getfield 33, 3) := by decide +kernel
theorem dX8_init_72 : decode cX8_init 72 = .ok (.invokespecial 39, 3) := by decide +kernel
theorem dX8_init_75 : decode cX8_init 75 = .ok (.putfield 46, 3) := by decide +kernel
theorem dX8_init_78 : decode cX8_init 78 = .ok (.aload_n 0, 1) := by decide +kernel
theorem dX8_init_79 : decode cX8_init 79 = .ok (.new 49, 3) := by decide +kernel
theorem dX8_init_82 : decode cX8_init 82 = .ok (.dup, 1) := by decide +kernel
theorem dX8_init_83 : decode cX8_init 83 = .ok (.aload_n 0, 1) := by decide +kernel
theorem dX8_init_84 : decode cX8_init 84 = .ok (.getfield 19, 3) := by decide +kernel
theorem dX8_init_87 : decode cX8_init 87 = .ok (.aload_n 0, 1) := by decide +kernel
theorem dX8_init_88 : decode cX8_init 88 = .ok (.getfield 33, 3) := by decide +kernel
theorem dX8_init_91 : decode cX8_init 91 = .ok (.invokespecial 51, 3) := by decide +kernel
theorem dX8_init_94 : decode cX8_init 94 = .ok (.putfield 54, 3) := by decide +kernel
theorem dX8_init_97 : decode cX8_init 97 = .ok (.return_, 1) := by decide +kernel
set_option maxRecDepth 20000 in
theorem ggX8_type_X6_size : GoodIn wsX8_type wsX6_size := goodIn_r _ [6, 7, 26, 27] (by decide +kernel) (by decide +kernel)
set_option maxRecDepth 20000 in
theorem gX8_type_X6_size : GoodIn wsX8_type (wsV RX8 58 RX6 yX6_size wsX6_size) := goodIn_app (goodIn_of _ (by decide +kernel)) ggX8_type_X6_size
set_option maxRecDepth 20000 in
theorem ggX8_type_X6_append : GoodIn wsX8_type wsX6_append := goodIn_r _ [11, 7, 12, 13, 14, 15, 16, 17, 18, 26, 27, 28] (by decide +kernel) (by decide +kernel)
set_option maxRecDepth 20000 in
theorem gX8_type_X6_append : GoodIn wsX8_type (wsV RX8 62 RX6 yX6_append wsX6_append) := goodIn_app (goodIn_of _ (by decide +kernel)) ggX8_type_X6_append
theorem dX8_type_0 : decode cX8_type 0 = .ok (.iload_n 1, 1) := by decide +kernel
theorem dX8_type_1 : decode cX8_type 1 = .ok (.bipush 32, 2) := by decide +kernel
theorem dX8_type_3 : decode cX8_type 3 = .ok (.if_icmp .lt 9, 3) := by decide +kernel
theorem dX8_type_6 : decode cX8_type 6 = .ok (.iload_n 1, 1) := by decide +kernel
theorem dX8_type_7 : decode cX8_type 7 = .ok (.bipush 126, 2) := by decide +kernel
theorem dX8_type_9 : decode cX8_type 9 = .ok (.if_icmp .le 6, 3) := by decide +kernel
theorem dX8_type_12 : decode cX8_type 12 = .ok (.bipush (-11), 2) := by decide +kernel
theorem dX8_type_14 : decode cX8_type 14 = .ok (.ireturn, 1) := by decide +kernel
theorem dX8_type_15 : decode cX8_type 15 = .ok (.aload_n 0, 1) := by decide +kernel
theorem dX8_type_16 : decode cX8_type 16 = .ok (.getfield 12, 3) := by decide +kernel
theorem dX8_type_19 : decode cX8_type 19 = .ok (.invokevirtual 58, 3) := by decide +kernel
theorem dX8_type_22 : decode cX8_type 22 = .ok (.sipush 200, 3) := by decide +kernel
theorem dX8_type_25 : decode cX8_type 25 = .ok (.if_icmp .lt 6, 3) := by decide +kernel
theorem dX8_type_28 : decode cX8_type 28 = .ok (.bipush (-13), 2) := by decide +kernel
theorem dX8_type_30 : decode cX8_type 30 = .ok (.ireturn, 1) := by decide +kernel
theorem dX8_type_31 : decode cX8_type 31 = .ok (.aload_n 0, 1) := by decide +kernel
theorem dX8_type_32 : decode cX8_type 32 = .ok (.getfield 12, 3) := by decide +kernel
theorem dX8_type_35 : decode cX8_type 35 = .ok (.iload_n 1, 1) := by decide +kernel
theorem dX8_type_36 : decode cX8_type 36 = .ok (.invokevirtual 62, 3) := by decide +kernel
theorem dX8_type_39 : decode cX8_type 39 = .ok (.aload_n 0, 1) := by decide +kernel
theorem dX8_type_40 : decode cX8_type 40 = .ok (.getfield 12, 3) := by decide +kernel
theorem dX8_type_43 : decode cX8_type 43 = .ok (.invokevirtual 58, 3) := by decide +kernel
theorem dX8_type_46 : decode cX8_type 46 = .ok (.ireturn, 1) := by decide +kernel
set_option maxRecDepth 20000 in
theorem ggX8_clearText_X6_size : GoodIn wsX8_clearText wsX6_size := goodIn_r _ [6, 7, 19, 20] (by decide +kernel) (by decide +kernel)
set_option maxRecDepth 20000 in
theorem gX8_clearText_X6_size : GoodIn wsX8_clearText (wsV RX8 58 RX6 yX6_size wsX6_size) := goodIn_app (goodIn_of _ (by decide +kernel)) ggX8_clearText_X6_size
set_option maxRecDepth 20000 in
theorem ggX8_clearText_X6_empty : GoodIn wsX8_clearText wsX6_empty := goodIn_r _ [11, 7, 19, 20] (by decide +kernel) (by decide +kernel)
set_option maxRecDepth 20000 in
theorem gX8_clearText_X6_empty : GoodIn wsX8_clearText (wsV RX8 66 RX6 yX6_empty wsX6_empty) := goodIn_app (goodIn_of _ (by decide +kernel)) ggX8_clearText_X6_empty
