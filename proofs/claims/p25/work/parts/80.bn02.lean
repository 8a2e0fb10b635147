theorem dX4_hideWords_93 : decode cX4_hideWords 93 = .ok (.aload_n 0, 1) := by decide +kernel
theorem dX4_hideWords_94 : decode cX4_hideWords 94 = .ok (.getfield 9, 3) := by decide +kernel
theorem dX4_hideWords_97 : decode cX4_hideWords 97 = .ok (.getfield 77, 3) := by decide +kernel
theorem dX4_hideWords_100 : decode cX4_hideWords 100 = .ok (.invokevirtual 80, 3) := by decide +kernel
theorem dX4_hideWords_103 : decode cX4_hideWords 103 = .ok (.invokevirtual 73, 3) := by decide +kernel
theorem dX4_hideWords_106 : decode cX4_hideWords 106 = .ok (.iinc 1 1, 3) := by decide +kernel
theorem dX4_hideWords_109 : decode cX4_hideWords 109 = .ok (.goto (-107), 3) := by decide +kernel
theorem dX4_hideWords_112 : decode cX4_hideWords 112 = .ok (.return_, 1) := by decide +kernel
set_option maxRecDepth 20000 in
theorem ggX4_flow_X3_at : GoodIn wsX4_flow wsX3_at := goodIn_r _ [11, 12, 63] (by decide +kernel) (by decide +kernel)
set_option maxRecDepth 20000 in
theorem gX4_flow_X3_at : GoodIn wsX4_flow (wsV RX4 87 RX3 yX3_at wsX3_at) := goodIn_app (goodIn_of _ (by decide +kernel)) ggX4_flow_X3_at
set_option maxRecDepth 20000 in
theorem ggX4_flow_X7_size : GoodIn wsX4_flow wsX7_size := goodIn_r _ [17, 18, 64, 65, 66, 67, 68] (by decide +kernel) (by decide +kernel)
set_option maxRecDepth 20000 in
theorem gX4_flow_X7_size : GoodIn wsX4_flow (wsV RX4 53 RX7 yX7_size wsX7_size) := goodIn_app (goodIn_of _ (by decide +kernel)) ggX4_flow_X7_size
set_option maxRecDepth 20000 in
theorem ggX4_flow_X4_widthUnder : GoodIn wsX4_flow wsX4_widthUnder := goodIn_r _ [23, 24, 25, 26, 22, 27, 28, 7, 8, 9, 10, 11, 12, 29, 30, 31, 32, 33, 34, 35, 36, 37, 38, 39, 40, 41, 42, 43, 44, 49, 50, 51, 52, 53, 54, 55, 56, 57, 63, 69, 70] (by decide +kernel) (by decide +kernel)
set_option maxRecDepth 20000 in
theorem gX4_flow_X4_widthUnder : GoodIn wsX4_flow (wsV RX4 90 RX4 yX4_widthUnder wsX4_widthUnder) := goodIn_app (goodIn_of _ (by decide +kernel)) ggX4_flow_X4_widthUnder
set_option maxRecDepth 20000 in
theorem ggX4_flow_X3_put : GoodIn wsX4_flow wsX3_put := goodIn_r _ [48, 12, 63] (by decide +kernel) (by decide +kernel)
set_option maxRecDepth 20000 in
theorem gX4_flow_X3_put : GoodIn wsX4_flow (wsV RX4 73 RX3 yX3_put wsX3_put) := goodIn_app (goodIn_of _ (by decide +kernel)) ggX4_flow_X3_put
theorem dX4_flow_0 : decode cX4_flow 0 = .ok (.aload_n 0, 1) := by decide +kernel
theorem dX4_flow_1 : decode cX4_flow 1 = .ok (.getfield 9, 3) := by decide +kernel
theorem dX4_flow_4 : decode cX4_flow 4 = .ok (.getfield 84, 3) := by decide +kernel
theorem dX4_flow_7 : decode cX4_flow 7 = .ok (.iconst 3, 1) := by decide +kernel
theorem dX4_flow_8 : decode cX4_flow 8 = .ok (.invokevirtual 87, 3) := by decide +kernel
theorem dX4_flow_11 : decode cX4_flow 11 = .ok (.istore_n 2, 1) := by decide +kernel
theorem dX4_flow_12 : decode cX4_flow 12 = .ok (.aload_n 0, 1) := by decide +kernel
theorem dX4_flow_13 : decode cX4_flow 13 = .ok (.getfield 9, 3) := by decide +kernel
theorem dX4_flow_16 : decode cX4_flow 16 = .ok (.getfield 84, 3) := by decide +kernel
theorem dX4_flow_19 : decode cX4_flow 19 = .ok (.iconst 4, 1) := by decide +kernel
theorem dX4_flow_20 : decode cX4_flow 20 = .ok (.invokevirtual 87, 3) := by decide +kernel
theorem dX4_flow_23 : decode cX4_flow 23 = .ok (.istore_n 3, 1) := by decide +kernel
theorem dX4_flow_24 : decode cX4_flow 24 = .ok (.iconst 0, 1) := by decide +kernel
theorem dX4_flow_25 : decode cX4_flow 25 = .ok (.istore 4, 2) := by decide +kernel
theorem dX4_flow_27 : decode cX4_flow 27 = .ok (.aload_n 0, 1) := by decide +kernel
theorem dX4_flow_28 : decode cX4_flow 28 = .ok (.iconst 0, 1) := by decide +kernel
theorem dX4_flow_29 : decode cX4_flow 29 = .ok (.putfield 43, 3) := by decide +kernel
theorem dX4_flow_32 : decode cX4_flow 32 = .ok (.iconst 0, 1) := by decide +kernel
theorem dX4_flow_33 : decode cX4_flow 33 = .ok (.istore 5, 2) := by decide +kernel
theorem dX4_flow_35 : decode cX4_flow 35 = .ok (.iload 5, 2) := by decide +kernel
theorem dX4_flow_37 : decode cX4_flow 37 = .ok (.aload_n 0, 1) := by decide +kernel
theorem dX4_flow_38 : decode cX4_flow 38 = .ok (.getfield 9, 3) := by decide +kernel
theorem dX4_flow_41 : decode cX4_flow 41 = .ok (.getfield 47, 3) := by decide +kernel
theorem dX4_flow_44 : decode cX4_flow 44 = .ok (.invokevirtual 53, 3) := by decide +kernel
theorem dX4_flow_47 : decode cX4_flow 47 = .ok (.if_icmp .ge 110, 3) := by decide +kernel
theorem dX4_flow_50 : decode cX4_flow 50 = .ok (.aload_n 0, 1) := by decide +kernel
theorem dX4_flow_51 : decode cX4_flow 51 = .ok (.aload_n 1, 1) := by decide +kernel
theorem dX4_flow_52 : decode cX4_flow 52 = .ok (.iload 5, 2) := by decide +kernel
theorem dX4_flow_54 : decode cX4_flow 54 = .ok (.invokevirtual 90, 3) := by decide +kernel
theorem dX4_flow_57 : decode cX4_flow 57 = .ok (.istore 6, 2) := by decide +kernel
theorem dX4_flow_59 : decode cX4_flow 59 = .ok (.iload 4, 2) := by decide +kernel
theorem dX4_flow_61 : decode cX4_flow 61 = .ok (.iload_n 2, 1) := by decide +kernel
theorem dX4_flow_62 : decode cX4_flow 62 = .ok (.iadd, 1) := by decide +kernel
theorem dX4_flow_63 : decode cX4_flow 63 = .ok (.istore 7, 2) := by decide +kernel
theorem dX4_flow_65 : decode cX4_flow 65 = .ok (.aload_n 0, 1) := by decide +kernel
theorem dX4_flow_66 : decode cX4_flow 66 = .ok (.getfield 43, 3) := by decide +kernel
theorem dX4_flow_69 : decode cX4_flow 69 = .ok (.ifCond .eq 12, 3) := by decide +kernel
theorem dX4_flow_72 : decode cX4_flow 72 = .ok (.iload 7, 2) := by decide +kernel
theorem dX4_flow_74 : decode cX4_flow 74 = .ok (.iload 6, 2) := by decide +kernel
theorem dX4_flow_76 : decode cX4_flow 76 = .ok (.iadd, 1) := by decide +kernel
theorem dX4_flow_77 : decode cX4_flow 77 = .ok (.iload_n 3, 1) := by decide +kernel
theorem dX4_flow_78 : decode cX4_flow 78 = .ok (.if_icmp .le 29, 3) := by decide +kernel
theorem dX4_flow_81 : decode cX4_flow 81 = .ok (.aload_n 0, 1) := by decide +kernel
theorem dX4_flow_82 : decode cX4_flow 82 = .ok (.getfield 40, 3) := by decide +kernel
theorem dX4_flow_85 : decode cX4_flow 85 = .ok (.aload_n 0, 1) := by decide +kernel
theorem dX4_flow_86 : decode cX4_flow 86 = .ok (.getfield 43, 3) := by decide +kernel
theorem dX4_flow_89 : decode cX4_flow 89 = .ok (.iload 5, 2) := by decide +kernel
theorem dX4_flow_91 : decode cX4_flow 91 = .ok (.invokevirtual 73, 3) := by decide +kernel
theorem dX4_flow_94 : decode cX4_flow 94 = .ok (.aload_n 0, 1) := by decide +kernel
theorem dX4_flow_95 : decode cX4_flow 95 = .ok (.dup, 1) := by decide +kernel
theorem dX4_flow_96 : decode cX4_flow 96 = .ok (.getfield 43, 3) := by decide +kernel
theorem dX4_flow_99 : decode cX4_flow 99 = .ok (.iconst 1, 1) := by decide +kernel
theorem dX4_flow_100 : decode cX4_flow 100 = .ok (.iadd, 1) := by decide +kernel
theorem dX4_flow_101 : decode cX4_flow 101 = .ok (.putfield 43, 3) := by decide +kernel
theorem dX4_flow_104 : decode cX4_flow 104 = .ok (.iconst 0, 1) := by decide +kernel
theorem dX4_flow_105 : decode cX4_flow 105 = .ok (.istore 7, 2) := by decide +kernel
theorem dX4_flow_107 : decode cX4_flow 107 = .ok (.iload 7, 2) := by decide +kernel
theorem dX4_flow_109 : decode cX4_flow 109 = .ok (.iload 6, 2) := by decide +kernel
theorem dX4_flow_111 : decode cX4_flow 111 = .ok (.iadd, 1) := by decide +kernel
theorem dX4_flow_112 : decode cX4_flow 112 = .ok (.istore 4, 2) := by decide +kernel
theorem dX4_flow_114 : decode cX4_flow 114 = .ok (.aload_n 0, 1) := by decide +kernel
theorem dX4_flow_115 : decode cX4_flow 115 = .ok (.getfield 31, 3) := by decide +kernel
theorem dX4_flow_118 : decode cX4_flow 118 = .ok (.iload 5, 2) := by decide +kernel
theorem dX4_flow_120 : decode cX4_flow 120 = .ok (.iload 6, 2) := by decide +kernel
theorem dX4_flow_122 : decode cX4_flow 122 = .ok (.invokevirtual 73, 3) := by decide +kernel
theorem dX4_flow_125 : decode cX4_flow 125 = .ok (.aload_n 0, 1) := by decide +kernel
theorem dX4_flow_126 : decode cX4_flow 126 = .ok (.getfield 34, 3) := by decide +kernel
theorem dX4_flow_129 : decode cX4_flow 129 = .ok (.iload 5, 2) := by decide +kernel
theorem dX4_flow_131 : decode cX4_flow 131 = .ok (.aload_n 0, 1) := by decide +kernel
theorem dX4_flow_132 : decode cX4_flow 132 = .ok (.getfield 43, 3) := by decide +kernel
theorem dX4_flow_135 : decode cX4_flow 135 = .ok (.iconst 1, 1) := by decide +kernel
theorem dX4_flow_136 : decode cX4_flow 136 = .ok (.isub, 1) := by decide +kernel
theorem dX4_flow_137 : decode cX4_flow 137 = .ok (.invokevirtual 73, 3) := by decide +kernel
theorem dX4_flow_140 : decode cX4_flow 140 = .ok (.aload_n 0, 1) := by decide +kernel
theorem dX4_flow_141 : decode cX4_flow 141 = .ok (.getfield 37, 3) := by decide +kernel
theorem dX4_flow_144 : decode cX4_flow 144 = .ok (.iload 5, 2) := by decide +kernel
theorem dX4_flow_146 : decode cX4_flow 146 = .ok (.iload 7, 2) := by decide +kernel
theorem dX4_flow_148 : decode cX4_flow 148 = .ok (.invokevirtual 73, 3) := by decide +kernel
theorem dX4_flow_151 : decode cX4_flow 151 = .ok (.iinc 5 1, 3) := by decide +kernel
theorem dX4_flow_154 : decode cX4_flow 154 = .ok (.goto (-119), 3) := by decide +kernel
theorem dX4_flow_157 : decode cX4_flow 157 = .ok (.return_, 1) := by decide +kernel
set_option maxRecDepth 20000 in
theorem ggX4_widthUnder_X4_isHidden : GoodIn wsX4_widthUnder wsX4_isHidden := goodIn_r _ [5, 6, 7, 8, 9, 10, 11, 12, 29, 30, 31, 32, 33, 34, 35, 36, 37, 38] (by decide +kernel) (by decide +kernel)
set_option maxRecDepth 20000 in
theorem gX4_widthUnder_X4_isHidden : GoodIn wsX4_widthUnder (wsV RX4 94 RX4 yX4_isHidden wsX4_isHidden) := goodIn_app (goodIn_of _ (by decide +kernel)) ggX4_widthUnder_X4_isHidden
set_option maxRecDepth 20000 in
theorem ggX4_widthUnder_X4_formOf : GoodIn wsX4_widthUnder wsX4_formOf := goodIn_r _ [16, 6, 7, 8, 9, 10, 11, 12, 29, 30, 31, 32, 33, 34, 35, 36, 37, 38] (by decide +kernel) (by decide +kernel)
set_option maxRecDepth 20000 in
theorem gX4_widthUnder_X4_formOf : GoodIn wsX4_widthUnder (wsV RX4 98 RX4 yX4_formOf wsX4_formOf) := goodIn_app (goodIn_of _ (by decide +kernel)) ggX4_widthUnder_X4_formOf
set_option maxRecDepth 20000 in
theorem ggX4_widthUnder_X0_widthOf : GoodIn wsX4_widthUnder wsX0_widthOf := goodIn_r _ [21, 22, 23, 8, 9, 10, 11, 12, 39, 40, 38] (by decide +kernel) (by decide +kernel)
set_option maxRecDepth 20000 in
theorem gX4_widthUnder_X0_widthOf : GoodIn wsX4_widthUnder (wsV RX4 101 RX0 yX0_widthOf wsX0_widthOf) := goodIn_app (goodIn_of _ (by decide +kernel)) ggX4_widthUnder_X0_widthOf
set_option maxRecDepth 20000 in
theorem ggX4_widthUnder_X4_ownWidthOf : GoodIn wsX4_widthUnder wsX4_ownWidthOf := goodIn_r _ [27, 28, 7, 8, 9, 10, 11, 12, 29, 30, 31, 32, 33, 34, 35, 36, 37, 38] (by decide +kernel) (by decide +kernel)
set_option maxRecDepth 20000 in
theorem gX4_widthUnder_X4_ownWidthOf : GoodIn wsX4_widthUnder (wsV RX4 105 RX4 yX4_ownWidthOf wsX4_ownWidthOf) := goodIn_app (goodIn_of _ (by decide +kernel)) ggX4_widthUnder_X4_ownWidthOf
theorem dX4_widthUnder_0 : decode cX4_widthUnder 0 = .ok (.aload_n 0, 1) := by decide +kernel
theorem dX4_widthUnder_1 : decode cX4_widthUnder 1 = .ok (.iload_n 2, 1) := by decide +kernel
theorem dX4_widthUnder_2 : decode cX4_widthUnder 2 = .ok (.invokevirtual 94, 3) := by decide +kernel
theorem dX4_widthUnder_5 : decode cX4_widthUnder 5 = .ok (.ifCond .eq 15, 3) := by decide +kernel
theorem dX4_widthUnder_8 : decode cX4_widthUnder 8 = .ok (.aload_n 1, 1) := by decide +kernel
theorem dX4_widthUnder_9 : decode cX4_widthUnder 9 = .ok (.aload_n 0, 1) := by decide +kernel
theorem dX4_widthUnder_10 : decode cX4_widthUnder 10 = .ok (.iload_n 2, 1) := by decide +kernel
theorem dX4_widthUnder_11 : decode cX4_widthUnder 11 = .ok (.invokevirtual 98, 3) := by decide +kernel
theorem dX4_widthUnder_14 : decode cX4_widthUnder 14 = .ok (.invokevirtual 101, 3) := by decide +kernel
theorem dX4_widthUnder_17 : decode cX4_widthUnder 17 = .ok (.goto 8, 3) := by decide +kernel
theorem dX4_widthUnder_20 : decode cX4_widthUnder 20 = .ok (.aload_n 0, 1) := by decide +kernel
theorem dX4_widthUnder_21 : decode cX4_widthUnder 21 = .ok (.iload_n 2, 1) := by decide +kernel
theorem dX4_widthUnder_22 : decode cX4_widthUnder 22 = .ok (.invokevirtual 105, 3) := by decide +kernel
theorem dX4_widthUnder_25 : decode cX4_widthUnder 25 = .ok (.ireturn, 1) := by decide +kernel
set_option maxRecDepth 20000 in
theorem ggX4_formOf_X3_at : GoodIn wsX4_formOf wsX3_at := goodIn_r _ [6, 7, 17] (by decide +kernel) (by decide +kernel)
set_option maxRecDepth 20000 in
theorem gX4_formOf_X3_at : GoodIn wsX4_formOf (wsV RX4 87 RX3 yX3_at wsX3_at) := goodIn_app (goodIn_of _ (by decide +kernel)) ggX4_formOf_X3_at
theorem dX4_formOf_0 : decode cX4_formOf 0 = .ok (.aload_n 0, 1) := by decide +kernel
theorem dX4_formOf_1 : decode cX4_formOf 1 = .ok (.getfield 24, 3) := by decide +kernel
theorem dX4_formOf_4 : decode cX4_formOf 4 = .ok (.iload_n 1, 1) := by decide +kernel
theorem dX4_formOf_5 : decode cX4_formOf 5 = .ok (.invokevirtual 87, 3) := by decide +kernel
theorem dX4_formOf_8 : decode cX4_formOf 8 = .ok (.ireturn, 1) := by decide +kernel
set_option maxRecDepth 20000 in
theorem ggX4_isHidden_X3_at : GoodIn wsX4_isHidden wsX3_at := goodIn_r _ [6, 7, 17] (by decide +kernel) (by decide +kernel)
set_option maxRecDepth 20000 in
theorem gX4_isHidden_X3_at : GoodIn wsX4_isHidden (wsV RX4 87 RX3 yX3_at wsX3_at) := goodIn_app (goodIn_of _ (by decide +kernel)) ggX4_isHidden_X3_at
theorem dX4_isHidden_0 : decode cX4_isHidden 0 = .ok (.aload_n 0, 1) := by decide +kernel
theorem dX4_isHidden_1 : decode cX4_isHidden 1 = .ok (.getfield 24, 3) := by decide +kernel
theorem dX4_isHidden_4 : decode cX4_isHidden 4 = .ok (.iload_n 1, 1) := by decide +kernel
theorem dX4_isHidden_5 : decode cX4_isHidden 5 = .ok (.invokevirtual 87, 3) := by decide +kernel
theorem dX4_isHidden_8 : decode cX4_isHidden 8 = .ok (.iconst (-1), 1) := by decide +kernel
theorem dX4_isHidden_9 : decode cX4_isHidden 9 = .ok (.if_icmp .eq 7, 3) := by decide +kernel
theorem dX4_isHidden_12 : decode cX4_isHidden 12 = .ok (.iconst 1, 1) := by decide +kernel
theorem dX4_isHidden_13 : decode cX4_isHidden 13 = .ok (.goto 4, 3) := by decide +kernel
theorem dX4_isHidden_16 : decode cX4_isHidden 16 = .ok (.iconst 0, 1) := by decide +kernel
theorem dX4_isHidden_17 : decode cX4_isHidden 17 = .ok (.ireturn, 1) := by decide +kernel
set_option maxRecDepth 20000 in
theorem ggX4_ownWidthOf_X3_at : GoodIn wsX4_ownWidthOf wsX3_at := goodIn_r _ [6, 7, 17] (by decide +kernel) (by decide +kernel)
set_option maxRecDepth 20000 in
theorem gX4_ownWidthOf_X3_at : GoodIn wsX4_ownWidthOf (wsV RX4 87 RX3 yX3_at wsX3_at) := goodIn_app (goodIn_of _ (by decide +kernel)) ggX4_ownWidthOf_X3_at
theorem dX4_ownWidthOf_0 : decode cX4_ownWidthOf 0 = .ok (.aload_n 0, 1) := by decide +kernel
theorem dX4_ownWidthOf_1 : decode cX4_ownWidthOf 1 = .ok (.getfield 28, 3) := by decide +kernel
theorem dX4_ownWidthOf_4 : decode cX4_ownWidthOf 4 = .ok (.iload_n 1, 1) := by decide +kernel
theorem dX4_ownWidthOf_5 : decode cX4_ownWidthOf 5 = .ok (.invokevirtual 87, 3) := by decide +kernel
theorem dX4_ownWidthOf_8 : decode cX4_ownWidthOf 8 = .ok (.ireturn, 1) := by decide +kernel
set_option maxRecDepth 20000 in
theorem ggX4_shownWidthOf_X3_at : GoodIn wsX4_shownWidthOf wsX3_at := goodIn_r _ [6, 7, 17] (by decide +kernel) (by decide +kernel)
set_option maxRecDepth 20000 in
theorem gX4_shownWidthOf_X3_at : GoodIn wsX4_shownWidthOf (wsV RX4 87 RX3 yX3_at wsX3_at) := goodIn_app (goodIn_of _ (by decide +kernel)) ggX4_shownWidthOf_X3_at
theorem dX4_shownWidthOf_0 : decode cX4_shownWidthOf 0 = .ok (.aload_n 0, 1) := by decide +kernel
theorem dX4_shownWidthOf_1 : decode cX4_shownWidthOf 1 = .ok (.getfield 31, 3) := by decide +kernel
theorem dX4_shownWidthOf_4 : decode cX4_shownWidthOf 4 = .ok (.iload_n 1, 1) := by decide +kernel
theorem dX4_shownWidthOf_5 : decode cX4_shownWidthOf 5 = .ok (.invokevirtual 87, 3) := by decide +kernel
theorem dX4_shownWidthOf_8 : decode cX4_shownWidthOf 8 = .ok (.ireturn, 1) := by decide +kernel
set_option maxRecDepth 20000 in
theorem ggX4_lineOf_X3_at : GoodIn wsX4_lineOf wsX3_at := goodIn_r _ [6, 7, 17] (by decide +kernel) (by decide +kernel)
set_option maxRecDepth 20000 in
theorem gX4_lineOf_X3_at : GoodIn wsX4_lineOf (wsV RX4 87 RX3 yX3_at wsX3_at) := goodIn_app (goodIn_of _ (by decide +kernel)) ggX4_lineOf_X3_at
theorem dX4_lineOf_0 : decode cX4_lineOf 0 = .ok (.aload_n 0, 1) := by decide +kernel
theorem dX4_lineOf_1 : decode cX4_lineOf 1 = .ok (.getfield 34, 3) := by decide +kernel
theorem dX4_lineOf_4 : decode cX4_lineOf 4 = .ok (.iload_n 1, 1) := by decide +kernel
theorem dX4_lineOf_5 : decode cX4_lineOf 5 = .ok (.invokevirtual 87, 3) := by decide +kernel
theorem dX4_lineOf_8 : decode cX4_lineOf 8 = .ok (.ireturn, 1) := by decide +kernel
set_option maxRecDepth 20000 in
theorem ggX4_placeOf_X3_at : GoodIn wsX4_placeOf wsX3_at := goodIn_r _ [6, 7, 17] (by decide +kernel) (by decide +kernel)
set_option maxRecDepth 20000 in
theorem gX4_placeOf_X3_at : GoodIn wsX4_placeOf (wsV RX4 87 RX3 yX3_at wsX3_at) := goodIn_app (goodIn_of _ (by decide +kernel)) ggX4_placeOf_X3_at
theorem dX4_placeOf_0 : decode cX4_placeOf 0 = .ok (.aload_n 0, 1) := by decide +kernel
theorem dX4_placeOf_1 : decode cX4_placeOf 1 = .ok (.getfield 37, 3) := by decide +kernel
theorem dX4_placeOf_4 : decode cX4_placeOf 4 = .ok (.iload_n 1, 1) := by decide +kernel
theorem dX4_placeOf_5 : decode cX4_placeOf 5 = .ok (.invokevirtual 87, 3) := by decide +kernel
theorem dX4_placeOf_8 : decode cX4_placeOf 8 = .ok (.ireturn, 1) := by decide +kernel
theorem dX4_lineCount_0 : decode cX4_lineCount 0 = .ok (.aload_n 0, 1) := by decide +kernel
theorem dX4_lineCount_1 : decode cX4_lineCount 1 = .ok (.getfield 43, 3) := by decide +kernel
theorem dX4_lineCount_4 : decode cX4_lineCount 4 = .ok (.ireturn, 1) := by decide +kernel
theorem dX4_hasLine_0 : decode cX4_hasLine 0 = .ok (.iload_n 1, 1) := by decide +kernel
theorem dX4_hasLine_1 : decode cX4_hasLine 1 = .ok (.ifCond .lt 15, 3) := by decide +kernel
theorem dX4_hasLine_4 : decode cX4_hasLine 4 = .ok (.iload_n 1, 1) := by decide +kernel
theorem dX4_hasLine_5 : decode cX4_hasLine 5 = .ok (.aload_n 0, 1) := by decide +kernel
theorem dX4_hasLine_6 : decode cX4_hasLine 6 = .ok (.getfield 43, 3) := by decide +kernel
theorem dX4_hasLine_9 : decode cX4_hasLine 9 = .ok (.if_icmp .ge 7, 3) := by decide +kernel
theorem dX4_hasLine_12 : decode cX4_hasLine 12 = .ok (.iconst 1, 1) := by decide +kernel
theorem dX4_hasLine_13 : decode cX4_hasLine 13 = .ok (.goto 4, 3) := by decide +kernel
theorem dX4_hasLine_16 : decode cX4_hasLine 16 = .ok (.iconst 0, 1) := by decide +kernel
theorem dX4_hasLine_17 : decode cX4_hasLine 17 = .ok (.ireturn, 1) := by decide +kernel
set_option maxRecDepth 20000 in
theorem ggX4_firstWordOf_X3_at : GoodIn wsX4_firstWordOf wsX3_at := goodIn_r _ [6, 7, 17] (by decide +kernel) (by decide +kernel)
set_option maxRecDepth 20000 in
theorem gX4_firstWordOf_X3_at : GoodIn wsX4_firstWordOf (wsV RX4 87 RX3 yX3_at wsX3_at) := goodIn_app (goodIn_of _ (by decide +kernel)) ggX4_firstWordOf_X3_at
theorem dX4_firstWordOf_0 : decode cX4_firstWordOf 0 = .ok (.aload_n 0, 1) := by decide +kernel
theorem dX4_firstWordOf_1 : decode cX4_firstWordOf 1 = .ok (.getfield 40, 3) := by decide +kernel
theorem dX4_firstWordOf_4 : decode cX4_firstWordOf 4 = .ok (.iload_n 1, 1) := by decide +kernel
theorem dX4_firstWordOf_5 : decode cX4_firstWordOf 5 = .ok (.invokevirtual 87, 3) := by decide +kernel
theorem dX4_firstWordOf_8 : decode cX4_firstWordOf 8 = .ok (.ireturn, 1) := by decide +kernel
set_option maxRecDepth 20000 in
theorem ggX4_firstWordBehind_X3_at : GoodIn wsX4_firstWordBehind wsX3_at := goodIn_r _ [8, 9, 30] (by decide +kernel) (by decide +kernel)
set_option maxRecDepth 20000 in
theorem gX4_firstWordBehind_X3_at : GoodIn wsX4_firstWordBehind (wsV RX4 87 RX3 yX3_at wsX3_at) := goodIn_app (goodIn_of _ (by decide +kernel)) ggX4_firstWordBehind_X3_at
set_option maxRecDepth 20000 in
theorem ggX4_firstWordBehind_X7_size : GoodIn wsX4_firstWordBehind wsX7_size := goodIn_r _ [14, 15, 31, 32, 33, 34, 35] (by decide +kernel) (by decide +kernel)
set_option maxRecDepth 20000 in
theorem gX4_firstWordBehind_X7_size : GoodIn wsX4_firstWordBehind (wsV RX4 53 RX7 yX7_size wsX7_size) := goodIn_app (goodIn_of _ (by decide +kernel)) ggX4_firstWordBehind_X7_size
theorem dX4_firstWordBehind_0 : decode cX4_firstWordBehind 0 = .ok (.iload_n 1, 1) := by decide +kernel
theorem dX4_firstWordBehind_1 : decode cX4_firstWordBehind 1 = .ok (.iconst 1, 1) := by decide +kernel
theorem dX4_firstWordBehind_2 : decode cX4_firstWordBehind 2 = .ok (.iadd, 1) := by decide +kernel
theorem dX4_firstWordBehind_3 : decode cX4_firstWordBehind 3 = .ok (.aload_n 0, 1) := by decide +kernel
theorem dX4_firstWordBehind_4 : decode cX4_firstWordBehind 4 = .ok (.getfield 43, 3) := by decide +kernel
theorem dX4_firstWordBehind_7 : decode cX4_firstWordBehind 7 = .ok (.if_icmp .ge 16, 3) := by decide +kernel
theorem dX4_firstWordBehind_10 : decode cX4_firstWordBehind 10 = .ok (.aload_n 0, 1) := by decide +kernel
theorem dX4_firstWordBehind_11 : decode cX4_firstWordBehind 11 = .ok (.getfield 40, 3) := by decide +kernel
theorem dX4_firstWordBehind_14 : decode cX4_firstWordBehind 14 = .ok (.iload_n 1, 1) := by decide +kernel
theorem dX4_firstWordBehind_15 : decode cX4_firstWordBehind 15 = .ok (.iconst 1, 1) := by decide +kernel
theorem dX4_firstWordBehind_16 : decode cX4_firstWordBehind 16 = .ok (.iadd, 1) := by decide +kernel
theorem dX4_firstWordBehind_17 : decode cX4_firstWordBehind 17 = .ok (.invokevirtual 87, 3) := by decide +kernel
theorem dX4_firstWordBehind_20 : decode cX4_firstWordBehind 20 = .ok (.goto 13, 3) := by decide +kernel
theorem dX4_firstWordBehind_23 : decode cX4_firstWordBehind 23 = .ok (.aload_n 0, 1) := by decide +kernel
theorem dX4_firstWordBehind_24 : decode cX4_firstWordBehind 24 = .ok (.getfield 9, 3) := by decide +kernel
theorem dX4_firstWordBehind_27 : decode cX4_firstWordBehind 27 = .ok (.getfield 47, 3) := by decide +kernel
theorem dX4_firstWordBehind_30 : decode cX4_firstWordBehind 30 = .ok (.invokevirtual 53, 3) := by decide +kernel
theorem dX4_firstWordBehind_33 : decode cX4_firstWordBehind 33 = .ok (.ireturn, 1) := by decide +kernel
set_option maxRecDepth 20000 in
theorem ggX4_widthBetween_X4_shownWidthOf : GoodIn wsX4_widthBetween wsX4_shownWidthOf := goodIn_r _ [6, 7, 8, 9, 10, 11, 12, 13, 14, 15, 16, 17, 18, 19, 20, 21, 22, 28] (by decide +kernel) (by decide +kernel)
set_option maxRecDepth 20000 in
theorem gX4_widthBetween_X4_shownWidthOf : GoodIn wsX4_widthBetween (wsV RX4 108 RX4 yX4_shownWidthOf wsX4_shownWidthOf) := goodIn_app (goodIn_of _ (by decide +kernel)) ggX4_widthBetween_X4_shownWidthOf
set_option maxRecDepth 20000 in
theorem ggX4_widthBetween_X3_at : GoodIn wsX4_widthBetween wsX3_at := goodIn_r _ [12, 13, 28] (by decide +kernel) (by decide +kernel)
set_option maxRecDepth 20000 in
theorem gX4_widthBetween_X3_at : GoodIn wsX4_widthBetween (wsV RX4 87 RX3 yX3_at wsX3_at) := goodIn_app (goodIn_of _ (by decide +kernel)) ggX4_widthBetween_X3_at
theorem dX4_widthBetween_0 : decode cX4_widthBetween 0 = .ok (.iconst 0, 1) := by decide +kernel
theorem dX4_widthBetween_1 : decode cX4_widthBetween 1 = .ok (.istore_n 3, 1) := by decide +kernel
theorem dX4_widthBetween_2 : decode cX4_widthBetween 2 = .ok (.iload_n 1, 1) := by decide +kernel
theorem dX4_widthBetween_3 : decode cX4_widthBetween 3 = .ok (.istore 4, 2) := by decide +kernel
theorem dX4_widthBetween_5 : decode cX4_widthBetween 5 = .ok (.iload 4, 2) := by decide +kernel
theorem dX4_widthBetween_7 : decode cX4_widthBetween 7 = .ok (.iload_n 2, 1) := by decide +kernel
theorem dX4_widthBetween_8 : decode cX4_widthBetween 8 = .ok (.if_icmp .ge 38, 3) := by decide +kernel
theorem dX4_widthBetween_11 : decode cX4_widthBetween 11 = .ok (.iload_n 3, 1) := by decide +kernel
theorem dX4_widthBetween_12 : decode cX4_widthBetween 12 = .ok (.aload_n 0, 1) := by decide +kernel
theorem dX4_widthBetween_13 : decode cX4_widthBetween 13 = .ok (.iload 4, 2) := by decide +kernel
theorem dX4_widthBetween_15 : decode cX4_widthBetween 15 = .ok (.invokevirtual 108, 3) := by decide +kernel
theorem dX4_widthBetween_18 : decode cX4_widthBetween 18 = .ok (.iadd, 1) := by decide +kernel
theorem dX4_widthBetween_19 : decode cX4_widthBetween 19 = .ok (.istore_n 3, 1) := by decide +kernel
theorem dX4_widthBetween_20 : decode cX4_widthBetween 20 = .ok (.iload 4, 2) := by decide +kernel
theorem dX4_widthBetween_22 : decode cX4_widthBetween 22 = .ok (.iload_n 1, 1) := by decide +kernel
theorem dX4_widthBetween_23 : decode cX4_widthBetween 23 = .ok (.if_icmp .le 17, 3) := by decide +kernel
theorem dX4_widthBetween_26 : decode cX4_widthBetween 26 = .ok (.iload_n 3, 1) := by decide +kernel
theorem dX4_widthBetween_27 : decode cX4_widthBetween 27 = .ok (.aload_n 0, 1) := by decide +kernel
theorem dX4_widthBetween_28 : decode cX4_widthBetween 28 = .ok (.getfield 9, 3) := by decide +kernel
theorem dX4_widthBetween_31 : decode cX4_widthBetween 31 = .ok (.getfield 84, 3) := by decide +kernel
theorem dX4_widthBetween_34 : decode cX4_widthBetween 34 = .ok (.iconst 3, 1) := by decide +kernel
theorem dX4_widthBetween_35 : decode cX4_widthBetween 35 = .ok (.invokevirtual 87, 3) := by decide +kernel
theorem dX4_widthBetween_38 : decode cX4_widthBetween 38 = .ok (.iadd, 1) := by decide +kernel
theorem dX4_widthBetween_39 : decode cX4_widthBetween 39 = .ok (.istore_n 3, 1) := by decide +kernel
theorem dX4_widthBetween_40 : decode cX4_widthBetween 40 = .ok (.iinc 4 1, 3) := by decide +kernel
theorem dX4_widthBetween_43 : decode cX4_widthBetween 43 = .ok (.goto (-38), 3) := by decide +kernel
theorem dX4_widthBetween_46 : decode cX4_widthBetween 46 = .ok (.iload_n 3, 1) := by decide +kernel
theorem dX4_widthBetween_47 : decode cX4_widthBetween 47 = .ok (.ireturn, 1) := by decide +kernel
set_option maxRecDepth 20000 in
theorem ggX4_barsBetween_X4_isHidden : GoodIn wsX4_barsBetween wsX4_isHidden := goodIn_r _ [5, 6, 7, 8, 9, 10, 11, 12, 13, 14, 15, 16, 17, 18, 19, 20, 21, 22] (by decide +kernel) (by decide +kernel)
set_option maxRecDepth 20000 in
theorem gX4_barsBetween_X4_isHidden : GoodIn wsX4_barsBetween (wsV RX4 94 RX4 yX4_isHidden wsX4_isHidden) := goodIn_app (goodIn_of _ (by decide +kernel)) ggX4_barsBetween_X4_isHidden
theorem dX4_barsBetween_0 : decode cX4_barsBetween 0 = .ok (.iconst 0, 1) := by decide +kernel
theorem dX4_barsBetween_1 : decode cX4_barsBetween 1 = .ok (.istore_n 3, 1) := by decide +kernel
theorem dX4_barsBetween_2 : decode cX4_barsBetween 2 = .ok (.iload_n 1, 1) := by decide +kernel
theorem dX4_barsBetween_3 : decode cX4_barsBetween 3 = .ok (.istore 4, 2) := by decide +kernel
theorem dX4_barsBetween_5 : decode cX4_barsBetween 5 = .ok (.iload 4, 2) := by decide +kernel
theorem dX4_barsBetween_7 : decode cX4_barsBetween 7 = .ok (.iload_n 2, 1) := by decide +kernel
theorem dX4_barsBetween_8 : decode cX4_barsBetween 8 = .ok (.if_icmp .ge 21, 3) := by decide +kernel
theorem dX4_barsBetween_11 : decode cX4_barsBetween 11 = .ok (.aload_n 0, 1) := by decide +kernel
theorem dX4_barsBetween_12 : decode cX4_barsBetween 12 = .ok (.iload 4, 2) := by decide +kernel
theorem dX4_barsBetween_14 : decode cX4_barsBetween 14 = .ok (.invokevirtual 94, 3) := by decide +kernel
theorem dX4_barsBetween_17 : decode cX4_barsBetween 17 = .ok (.ifCond .eq 6, 3) := by decide +kernel
theorem dX4_barsBetween_20 : decode cX4_barsBetween 20 = .ok (.iinc 3 1, 3) := by decide +kernel
theorem dX4_barsBetween_23 : decode cX4_barsBetween 23 = .ok (.iinc 4 1, 3) := by decide +kernel
theorem dX4_barsBetween_26 : decode cX4_barsBetween 26 = .ok (.goto (-21), 3) := by decide +kernel
theorem dX4_barsBetween_29 : decode cX4_barsBetween 29 = .ok (.iload_n 3, 1) := by decide +kernel
theorem dX4_barsBetween_30 : decode cX4_barsBetween 30 = .ok (.ireturn, 1) := by decide +kernel
set_option maxRecDepth 20000 in
theorem ggX4_sumOfShownWidths_X7_size : GoodIn wsX4_sumOfShownWidths wsX7_size := goodIn_r _ [6, 7, 54, 55, 56, 57, 58] (by decide +kernel) (by decide +kernel)
set_option maxRecDepth 20000 in
theorem gX4_sumOfShownWidths_X7_size : GoodIn wsX4_sumOfShownWidths (wsV RX4 53 RX7 yX7_size wsX7_size) := goodIn_app (goodIn_of _ (by decide +kernel)) ggX4_sumOfShownWidths_X7_size
set_option maxRecDepth 20000 in
theorem ggX4_sumOfShownWidths_X4_widthUnder : GoodIn wsX4_sumOfShownWidths wsX4_widthUnder := goodIn_r _ [12, 13, 14, 15, 11, 16, 17, 18, 19, 20, 21, 22, 23, 24, 25, 26, 27, 28, 29, 30, 31, 32, 33, 34, 35, 36, 37, 38, 39, 40, 41, 42, 43, 44, 45, 46, 47, 48, 59, 60, 61] (by decide +kernel) (by decide +kernel)
set_option maxRecDepth 20000 in
theorem gX4_sumOfShownWidths_X4_widthUnder : GoodIn wsX4_sumOfShownWidths (wsV RX4 90 RX4 yX4_widthUnder wsX4_widthUnder) := goodIn_app (goodIn_of _ (by decide +kernel)) ggX4_sumOfShownWidths_X4_widthUnder
theorem dX4_sumOfShownWidths_0 : decode cX4_sumOfShownWidths 0 = .ok (.iconst 0, 1) := by decide +kernel
theorem dX4_sumOfShownWidths_1 : decode cX4_sumOfShownWidths 1 = .ok (.istore_n 2, 1) := by decide +kernel
theorem dX4_sumOfShownWidths_2 : decode cX4_sumOfShownWidths 2 = .ok (.iconst 0, 1) := by decide +kernel
theorem dX4_sumOfShownWidths_3 : decode cX4_sumOfShownWidths 3 = .ok (.istore_n 3, 1) := by decide +kernel
theorem dX4_sumOfShownWidths_4 : decode cX4_sumOfShownWidths 4 = .ok (.iload_n 3, 1) := by decide +kernel
theorem dX4_sumOfShownWidths_5 : decode cX4_sumOfShownWidths 5 = .ok (.aload_n 0, 1) := by decide +kernel
theorem dX4_sumOfShownWidths_6 : decode cX4_sumOfShownWidths 6 = .ok (.getfield 9, 3) := by decide +kernel
theorem dX4_sumOfShownWidths_9 : decode cX4_sumOfShownWidths 9 = .ok (.getfield 47, 3) := by decide +kernel
theorem dX4_sumOfShownWidths_12 : decode cX4_sumOfShownWidths 12 = .ok (.invokevirtual 53, 3) := by decide +kernel
theorem dX4_sumOfShownWidths_15 : decode cX4_sumOfShownWidths 15 = .ok (.if_icmp .ge 18, 3) := by decide +kernel
theorem dX4_sumOfShownWidths_18 : decode cX4_sumOfShownWidths 18 = .ok (.iload_n 2, 1) := by decide +kernel
theorem dX4_sumOfShownWidths_19 : decode cX4_sumOfShownWidths 19 = .ok (.aload_n 0, 1) := by decide +kernel
theorem dX4_sumOfShownWidths_20 : decode cX4_sumOfShownWidths 20 = .ok (.aload_n 1, 1) := by decide +kernel
theorem dX4_sumOfShownWidths_21 : decode cX4_sumOfShownWidths 21 = .ok (.iload_n 3, 1) := by decide +kernel
theorem dX4_sumOfShownWidths_22 : decode cX4_sumOfShownWidths 22 = .ok (.invokevirtual 90, 3) := by decide +kernel
theorem dX4_sumOfShownWidths_25 : decode cX4_sumOfShownWidths 25 = .ok (.iadd, 1) := by decide +kernel
theorem dX4_sumOfShownWidths_26 : decode cX4_sumOfShownWidths 26 = .ok (.istore_n 2, 1) := by decide +kernel
theorem dX4_sumOfShownWidths_27 : decode cX4_sumOfShownWidths 27 = .ok (.iinc 3 1, 3) := by decide +kernel
theorem dX4_sumOfShownWidths_30 : decode cX4_sumOfShownWidths 30 = .ok (.goto (-26), 3) := by decide +kernel
theorem dX4_sumOfShownWidths_33 : decode cX4_sumOfShownWidths 33 = .ok (.iload_n 2, 1) := by decide +kernel
theorem dX4_sumOfShownWidths_34 : decode cX4_sumOfShownWidths 34 = .ok (.ireturn, 1) := by decide +kernel
set_option maxRecDepth 20000 in
theorem ggX4_sumOfGaps_X7_size : GoodIn wsX4_sumOfGaps wsX7_size := goodIn_r _ [7, 8, 53, 54, 55, 56, 57] (by decide +kernel) (by decide +kernel)
set_option maxRecDepth 20000 in
theorem gX4_sumOfGaps_X7_size : GoodIn wsX4_sumOfGaps (wsV RX4 53 RX7 yX7_size wsX7_size) := goodIn_app (goodIn_of _ (by decide +kernel)) ggX4_sumOfGaps_X7_size
set_option maxRecDepth 20000 in
theorem ggX4_sumOfGaps_X4_isHidden : GoodIn wsX4_sumOfGaps wsX4_isHidden := goodIn_r _ [13, 14, 15, 16, 17, 18, 19, 20, 39, 40, 41, 42, 43, 44, 45, 46, 47, 58] (by decide +kernel) (by decide +kernel)
set_option maxRecDepth 20000 in
theorem gX4_sumOfGaps_X4_isHidden : GoodIn wsX4_sumOfGaps (wsV RX4 94 RX4 yX4_isHidden wsX4_isHidden) := goodIn_app (goodIn_of _ (by decide +kernel)) ggX4_sumOfGaps_X4_isHidden
set_option maxRecDepth 20000 in
theorem ggX4_sumOfGaps_X4_formOf : GoodIn wsX4_sumOfGaps wsX4_formOf := goodIn_r _ [24, 14, 15, 16, 17, 18, 19, 20, 39, 40, 41, 42, 43, 44, 45, 46, 47, 58] (by decide +kernel) (by decide +kernel)
set_option maxRecDepth 20000 in
theorem gX4_sumOfGaps_X4_formOf : GoodIn wsX4_sumOfGaps (wsV RX4 98 RX4 yX4_formOf wsX4_formOf) := goodIn_app (goodIn_of _ (by decide +kernel)) ggX4_sumOfGaps_X4_formOf
set_option maxRecDepth 20000 in
theorem ggX4_sumOfGaps_X0_widthOf : GoodIn wsX4_sumOfGaps wsX0_widthOf := goodIn_r _ [29, 30, 31, 16, 17, 18, 19, 20, 59, 60, 58] (by decide +kernel) (by decide +kernel)
set_option maxRecDepth 20000 in
theorem gX4_sumOfGaps_X0_widthOf : GoodIn wsX4_sumOfGaps (wsV RX4 101 RX0 yX0_widthOf wsX0_widthOf) := goodIn_app (goodIn_of _ (by decide +kernel)) ggX4_sumOfGaps_X0_widthOf
set_option maxRecDepth 20000 in
theorem ggX4_sumOfGaps_X1_widthOf : GoodIn wsX4_sumOfGaps wsX1_widthOf := goodIn_r _ [36, 37, 38, 16, 17, 18, 19, 20, 61, 62, 63, 64, 65, 58] (by decide +kernel) (by decide +kernel)
set_option maxRecDepth 20000 in
theorem gX4_sumOfGaps_X1_widthOf : GoodIn wsX4_sumOfGaps (wsV RX4 111 RX1 yX1_widthOf wsX1_widthOf) := goodIn_app (goodIn_of _ (by decide +kernel)) ggX4_sumOfGaps_X1_widthOf
theorem dX4_sumOfGaps_0 : decode cX4_sumOfGaps 0 = .ok (.iconst 0, 1) := by decide +kernel
theorem dX4_sumOfGaps_1 : decode cX4_sumOfGaps 1 = .ok (.istore_n 2, 1) := by decide +kernel
theorem dX4_sumOfGaps_2 : decode cX4_sumOfGaps 2 = .ok (.iconst 0, 1) := by decide +kernel
theorem dX4_sumOfGaps_3 : decode cX4_sumOfGaps 3 = .ok (.istore_n 3, 1) := by decide +kernel
theorem dX4_sumOfGaps_4 : decode cX4_sumOfGaps 4 = .ok (.iload_n 3, 1) := by decide +kernel
theorem dX4_sumOfGaps_5 : decode cX4_sumOfGaps 5 = .ok (.aload_n 0, 1) := by decide +kernel
