theorem dX9_lettersOf_40 : decode cX9_lettersOf 40 = .ok (.iadd, 1) := by decide +kernel
theorem dX9_lettersOf_41 : decode cX9_lettersOf 41 = .ok (.iaload, 1) := by decide +kernel
theorem dX9_lettersOf_42 : decode cX9_lettersOf 42 = .ok (.iload_n 2, 1) := by decide +kernel
theorem dX9_lettersOf_43 : decode cX9_lettersOf 43 = .ok (.iadd, 1) := by decide +kernel
theorem dX9_lettersOf_44 : decode cX9_lettersOf 44 = .ok (.ireturn, 1) := by decide +kernel
set_option maxRecDepth 20000 in
theorem ggX9_letterOf_X9_each : GoodIn wsX9_letterOf wsX9_each := goodIn_r _ [6, 1, 11, 12, 13, 14, 15, 16, 17, 18, 19, 20, 21, 22, 23, 24, 25] (by decide +kernel) (by decide +kernel)
set_option maxRecDepth 20000 in
theorem gX9_letterOf_X9_each : GoodIn wsX9_letterOf (wsV RX9 86 RX9 yX9_each wsX9_each) := goodIn_app (goodIn_of _ (by decide +kernel)) ggX9_letterOf_X9_each
set_option maxRecDepth 20000 in
theorem ggX9_letterOf_X9_endingAt : GoodIn wsX9_letterOf wsX9_endingAt := goodIn_r _ [10, 2, 3, 4, 5, 6, 1, 11, 12, 13, 14, 15, 16, 17, 18, 19, 20, 21, 22, 23, 24, 25] (by decide +kernel) (by decide +kernel)
set_option maxRecDepth 20000 in
theorem gX9_letterOf_X9_endingAt : GoodIn wsX9_letterOf (wsV RX9 89 RX9 yX9_endingAt wsX9_endingAt) := goodIn_app (goodIn_of _ (by decide +kernel)) ggX9_letterOf_X9_endingAt
theorem dX9_letterOf_0 : decode cX9_letterOf 0 = .ok (.sipush 554, 3) := by decide +kernel
theorem dX9_letterOf_3 : decode cX9_letterOf 3 = .ok (.bipush 9, 2) := by decide +kernel
theorem dX9_letterOf_5 : decode cX9_letterOf 5 = .ok (.iload_n 1, 1) := by decide +kernel
theorem dX9_letterOf_6 : decode cX9_letterOf 6 = .ok (.aload_n 0, 1) := by decide +kernel
theorem dX9_letterOf_7 : decode cX9_letterOf 7 = .ok (.invokevirtual 86, 3) := by decide +kernel
theorem dX9_letterOf_10 : decode cX9_letterOf 10 = .ok (.idiv, 1) := by decide +kernel
theorem dX9_letterOf_11 : decode cX9_letterOf 11 = .ok (.imul, 1) := by decide +kernel
theorem dX9_letterOf_12 : decode cX9_letterOf 12 = .ok (.iadd, 1) := by decide +kernel
theorem dX9_letterOf_13 : decode cX9_letterOf 13 = .ok (.istore_n 3, 1) := by decide +kernel
theorem dX9_letterOf_14 : decode cX9_letterOf 14 = .ok (.iload_n 2, 1) := by decide +kernel
theorem dX9_letterOf_15 : decode cX9_letterOf 15 = .ok (.aload_n 0, 1) := by decide +kernel
theorem dX9_letterOf_16 : decode cX9_letterOf 16 = .ok (.getfield 7, 3) := by decide +kernel
theorem dX9_letterOf_19 : decode cX9_letterOf 19 = .ok (.iload_n 3, 1) := by decide +kernel
theorem dX9_letterOf_20 : decode cX9_letterOf 20 = .ok (.iaload, 1) := by decide +kernel
theorem dX9_letterOf_21 : decode cX9_letterOf 21 = .ok (.if_icmp .ge 16, 3) := by decide +kernel
theorem dX9_letterOf_24 : decode cX9_letterOf 24 = .ok (.aload_n 0, 1) := by decide +kernel
theorem dX9_letterOf_25 : decode cX9_letterOf 25 = .ok (.getfield 7, 3) := by decide +kernel
theorem dX9_letterOf_28 : decode cX9_letterOf 28 = .ok (.iload_n 3, 1) := by decide +kernel
theorem dX9_letterOf_29 : decode cX9_letterOf 29 = .ok (.iconst 1, 1) := by decide +kernel
theorem dX9_letterOf_30 : decode cX9_letterOf 30 = .ok (.iadd, 1) := by decide +kernel
theorem dX9_letterOf_31 : decode cX9_letterOf 31 = .ok (.iload_n 2, 1) := by decide +kernel
theorem dX9_letterOf_32 : decode cX9_letterOf 32 = .ok (.iadd, 1) := by decide +kernel
theorem dX9_letterOf_33 : decode cX9_letterOf 33 = .ok (.iaload, 1) := by decide +kernel
theorem dX9_letterOf_34 : decode cX9_letterOf 34 = .ok (.goto 24, 3) := by decide +kernel
theorem dX9_letterOf_37 : decode cX9_letterOf 37 = .ok (.aload_n 0, 1) := by decide +kernel
theorem dX9_letterOf_38 : decode cX9_letterOf 38 = .ok (.getfield 7, 3) := by decide +kernel
theorem dX9_letterOf_41 : decode cX9_letterOf 41 = .ok (.aload_n 0, 1) := by decide +kernel
theorem dX9_letterOf_42 : decode cX9_letterOf 42 = .ok (.iload_n 1, 1) := by decide +kernel
theorem dX9_letterOf_43 : decode cX9_letterOf 43 = .ok (.invokevirtual 89, 3) := by decide +kernel
theorem dX9_letterOf_46 : decode cX9_letterOf 46 = .ok (.iconst 1, 1) := by decide +kernel
theorem dX9_letterOf_47 : decode cX9_letterOf 47 = .ok (.iadd, 1) := by decide +kernel
theorem dX9_letterOf_48 : decode cX9_letterOf 48 = .ok (.iload_n 2, 1) := by decide +kernel
theorem dX9_letterOf_49 : decode cX9_letterOf 49 = .ok (.iadd, 1) := by decide +kernel
theorem dX9_letterOf_50 : decode cX9_letterOf 50 = .ok (.aload_n 0, 1) := by decide +kernel
theorem dX9_letterOf_51 : decode cX9_letterOf 51 = .ok (.getfield 7, 3) := by decide +kernel
theorem dX9_letterOf_54 : decode cX9_letterOf 54 = .ok (.iload_n 3, 1) := by decide +kernel
theorem dX9_letterOf_55 : decode cX9_letterOf 55 = .ok (.iaload, 1) := by decide +kernel
theorem dX9_letterOf_56 : decode cX9_letterOf 56 = .ok (.isub, 1) := by decide +kernel
theorem dX9_letterOf_57 : decode cX9_letterOf 57 = .ok (.iaload, 1) := by decide +kernel
theorem dX9_letterOf_58 : decode cX9_letterOf 58 = .ok (.ireturn, 1) := by decide +kernel
theorem dX9_sorts_0 : decode cX9_sorts 0 = .ok (.iconst 0, 1) := by decide +kernel
theorem dX9_sorts_1 : decode cX9_sorts 1 = .ok (.istore_n 1, 1) := by decide +kernel
theorem dX9_sorts_2 : decode cX9_sorts 2 = .ok (.iload_n 1, 1) := by decide +kernel
theorem dX9_sorts_3 : decode cX9_sorts 3 = .ok (.aload_n 0, 1) := by decide +kernel
theorem dX9_sorts_4 : decode cX9_sorts 4 = .ok (.getfield 93, 3) := by decide +kernel
theorem dX9_sorts_7 : decode cX9_sorts 7 = .ok (.if_icmp .ge 64, 3) := by decide +kernel
theorem dX9_sorts_10 : decode cX9_sorts 10 = .ok (.iload_n 1, 1) := by decide +kernel
theorem dX9_sorts_11 : decode cX9_sorts 11 = .ok (.istore_n 2, 1) := by decide +kernel
theorem dX9_sorts_12 : decode cX9_sorts 12 = .ok (.iload_n 2, 1) := by decide +kernel
theorem dX9_sorts_13 : decode cX9_sorts 13 = .ok (.ifCond .le 45, 3) := by decide +kernel
theorem dX9_sorts_16 : decode cX9_sorts 16 = .ok (.aload_n 0, 1) := by decide +kernel
theorem dX9_sorts_17 : decode cX9_sorts 17 = .ok (.getfield 19, 3) := by decide +kernel
theorem dX9_sorts_20 : decode cX9_sorts 20 = .ok (.aload_n 0, 1) := by decide +kernel
theorem dX9_sorts_21 : decode cX9_sorts 21 = .ok (.getfield 25, 3) := by decide +kernel
theorem dX9_sorts_24 : decode cX9_sorts 24 = .ok (.iload_n 2, 1) := by decide +kernel
theorem dX9_sorts_25 : decode cX9_sorts 25 = .ok (.iconst 1, 1) := by decide +kernel
theorem dX9_sorts_26 : decode cX9_sorts 26 = .ok (.isub, 1) := by decide +kernel
theorem dX9_sorts_27 : decode cX9_sorts 27 = .ok (.iaload, 1) := by decide +kernel
theorem dX9_sorts_28 : decode cX9_sorts 28 = .ok (.iaload, 1) := by decide +kernel
theorem dX9_sorts_29 : decode cX9_sorts 29 = .ok (.aload_n 0, 1) := by decide +kernel
theorem dX9_sorts_30 : decode cX9_sorts 30 = .ok (.getfield 19, 3) := by decide +kernel
theorem dX9_sorts_33 : decode cX9_sorts 33 = .ok (.iload_n 1, 1) := by decide +kernel
theorem dX9_sorts_34 : decode cX9_sorts 34 = .ok (.iaload, 1) := by decide +kernel
theorem dX9_sorts_35 : decode cX9_sorts 35 = .ok (.if_icmp .le 23, 3) := by decide +kernel
theorem dX9_sorts_38 : decode cX9_sorts 38 = .ok (.aload_n 0, 1) := by decide +kernel
theorem dX9_sorts_39 : decode cX9_sorts 39 = .ok (.getfield 25, 3) := by decide +kernel
theorem dX9_sorts_42 : decode cX9_sorts 42 = .ok (.iload_n 2, 1) := by decide +kernel
theorem dX9_sorts_43 : decode cX9_sorts 43 = .ok (.aload_n 0, 1) := by decide +kernel
theorem dX9_sorts_44 : decode cX9_sorts 44 = .ok (.getfield 25, 3) := by decide +kernel
theorem dX9_sorts_47 : decode cX9_sorts 47 = .ok (.iload_n 2, 1) := by decide +kernel
theorem dX9_sorts_48 : decode cX9_sorts 48 = .ok (.iconst 1, 1) := by decide +kernel
theorem dX9_sorts_49 : decode cX9_sorts 49 = .ok (.isub, 1) := by decide +kernel
theorem dX9_sorts_50 : decode cX9_sorts 50 = .ok (.iaload, 1) := by decide +kernel
theorem dX9_sorts_51 : decode cX9_sorts 51 = .ok (.iastore, 1) := by decide +kernel
theorem dX9_sorts_52 : decode cX9_sorts 52 = .ok (.iinc 2 (-1), 3) := by decide +kernel
theorem dX9_sorts_55 : decode cX9_sorts 55 = .ok (.goto (-43), 3) := by decide +kernel
theorem dX9_sorts_58 : decode cX9_sorts 58 = .ok (.aload_n 0, 1) := by decide +kernel
theorem dX9_sorts_59 : decode cX9_sorts 59 = .ok (.getfield 25, 3) := by decide +kernel
theorem dX9_sorts_62 : decode cX9_sorts 62 = .ok (.iload_n 2, 1) := by decide +kernel
theorem dX9_sorts_63 : decode cX9_sorts 63 = .ok (.iload_n 1, 1) := by decide +kernel
theorem dX9_sorts_64 : decode cX9_sorts 64 = .ok (.iastore, 1) := by decide +kernel
theorem dX9_sorts_65 : decode cX9_sorts 65 = .ok (.iinc 1 1, 3) := by decide +kernel
theorem dX9_sorts_68 : decode cX9_sorts 68 = .ok (.goto (-66), 3) := by decide +kernel
theorem dX9_sorts_71 : decode cX9_sorts 71 = .ok (.return_, 1) := by decide +kernel
theorem dX9_endOfGroup_0 : decode cX9_endOfGroup 0 = .ok (.aload_n 0, 1) := by decide +kernel
theorem dX9_endOfGroup_1 : decode cX9_endOfGroup 1 = .ok (.getfield 7, 3) := by decide +kernel
theorem dX9_endOfGroup_4 : decode cX9_endOfGroup 4 = .ok (.iconst 5, 1) := by decide +kernel
theorem dX9_endOfGroup_5 : decode cX9_endOfGroup 5 = .ok (.iaload, 1) := by decide +kernel
theorem dX9_endOfGroup_6 : decode cX9_endOfGroup 6 = .ok (.istore_n 2, 1) := by decide +kernel
theorem dX9_endOfGroup_7 : decode cX9_endOfGroup 7 = .ok (.aload_n 0, 1) := by decide +kernel
theorem dX9_endOfGroup_8 : decode cX9_endOfGroup 8 = .ok (.getfield 93, 3) := by decide +kernel
theorem dX9_endOfGroup_11 : decode cX9_endOfGroup 11 = .ok (.iload_n 2, 1) := by decide +kernel
theorem dX9_endOfGroup_12 : decode cX9_endOfGroup 12 = .ok (.idiv, 1) := by decide +kernel
theorem dX9_endOfGroup_13 : decode cX9_endOfGroup 13 = .ok (.istore_n 3, 1) := by decide +kernel
theorem dX9_endOfGroup_14 : decode cX9_endOfGroup 14 = .ok (.iload_n 1, 1) := by decide +kernel
theorem dX9_endOfGroup_15 : decode cX9_endOfGroup 15 = .ok (.iload_n 2, 1) := by decide +kernel
theorem dX9_endOfGroup_16 : decode cX9_endOfGroup 16 = .ok (.idiv, 1) := by decide +kernel
theorem dX9_endOfGroup_17 : decode cX9_endOfGroup 17 = .ok (.istore 4, 2) := by decide +kernel
theorem dX9_endOfGroup_19 : decode cX9_endOfGroup 19 = .ok (.iload_n 3, 1) := by decide +kernel
theorem dX9_endOfGroup_20 : decode cX9_endOfGroup 20 = .ok (.ifCond .eq 11, 3) := by decide +kernel
theorem dX9_endOfGroup_23 : decode cX9_endOfGroup 23 = .ok (.iload 4, 2) := by decide +kernel
theorem dX9_endOfGroup_25 : decode cX9_endOfGroup 25 = .ok (.iload_n 3, 1) := by decide +kernel
theorem dX9_endOfGroup_26 : decode cX9_endOfGroup 26 = .ok (.iconst 1, 1) := by decide +kernel
theorem dX9_endOfGroup_27 : decode cX9_endOfGroup 27 = .ok (.isub, 1) := by decide +kernel
theorem dX9_endOfGroup_28 : decode cX9_endOfGroup 28 = .ok (.if_icmp .lt 12, 3) := by decide +kernel
theorem dX9_endOfGroup_31 : decode cX9_endOfGroup 31 = .ok (.aload_n 0, 1) := by decide +kernel
theorem dX9_endOfGroup_32 : decode cX9_endOfGroup 32 = .ok (.getfield 93, 3) := by decide +kernel
theorem dX9_endOfGroup_35 : decode cX9_endOfGroup 35 = .ok (.iconst 1, 1) := by decide +kernel
theorem dX9_endOfGroup_36 : decode cX9_endOfGroup 36 = .ok (.isub, 1) := by decide +kernel
theorem dX9_endOfGroup_37 : decode cX9_endOfGroup 37 = .ok (.goto 11, 3) := by decide +kernel
theorem dX9_endOfGroup_40 : decode cX9_endOfGroup 40 = .ok (.iload 4, 2) := by decide +kernel
theorem dX9_endOfGroup_42 : decode cX9_endOfGroup 42 = .ok (.iload_n 2, 1) := by decide +kernel
theorem dX9_endOfGroup_43 : decode cX9_endOfGroup 43 = .ok (.imul, 1) := by decide +kernel
theorem dX9_endOfGroup_44 : decode cX9_endOfGroup 44 = .ok (.iload_n 2, 1) := by decide +kernel
theorem dX9_endOfGroup_45 : decode cX9_endOfGroup 45 = .ok (.iadd, 1) := by decide +kernel
theorem dX9_endOfGroup_46 : decode cX9_endOfGroup 46 = .ok (.iconst 1, 1) := by decide +kernel
theorem dX9_endOfGroup_47 : decode cX9_endOfGroup 47 = .ok (.isub, 1) := by decide +kernel
theorem dX9_endOfGroup_48 : decode cX9_endOfGroup 48 = .ok (.ireturn, 1) := by decide +kernel
set_option maxRecDepth 20000 in
theorem ggX9_bars_X9_each : GoodIn wsX9_bars wsX9_each := goodIn_r _ [10, 1, 27, 28, 29, 30, 31, 32, 33, 34, 35, 36, 37, 38, 39, 40, 41] (by decide +kernel) (by decide +kernel)
set_option maxRecDepth 20000 in
theorem gX9_bars_X9_each : GoodIn wsX9_bars (wsV RX9 86 RX9 yX9_each wsX9_each) := goodIn_app (goodIn_of _ (by decide +kernel)) ggX9_bars_X9_each
set_option maxRecDepth 20000 in
theorem ggX9_bars_X9_widthAt : GoodIn wsX9_bars wsX9_widthAt := goodIn_r _ [14, 1, 27, 28, 29, 30, 31, 32, 33, 34, 35, 36, 37, 38, 39, 40, 41] (by decide +kernel) (by decide +kernel)
set_option maxRecDepth 20000 in
theorem gX9_bars_X9_widthAt : GoodIn wsX9_bars (wsV RX9 96 RX9 yX9_widthAt wsX9_widthAt) := goodIn_app (goodIn_of _ (by decide +kernel)) ggX9_bars_X9_widthAt
set_option maxRecDepth 20000 in
theorem ggX9_bars_X9_endingAt : GoodIn wsX9_bars wsX9_endingAt := goodIn_r _ [18, 6, 7, 8, 9, 10, 1, 27, 28, 29, 30, 31, 32, 33, 34, 35, 36, 37, 38, 39, 40, 41] (by decide +kernel) (by decide +kernel)
set_option maxRecDepth 20000 in
theorem gX9_bars_X9_endingAt : GoodIn wsX9_bars (wsV RX9 89 RX9 yX9_endingAt wsX9_endingAt) := goodIn_app (goodIn_of _ (by decide +kernel)) ggX9_bars_X9_endingAt
set_option maxRecDepth 20000 in
theorem ggX9_bars_X9_sorts : GoodIn wsX9_bars wsX9_sorts := goodIn_r _ [22, 2, 3, 5, 27, 28, 29, 30, 31, 32, 33, 34, 35, 36, 37, 38, 39, 40, 41] (by decide +kernel) (by decide +kernel)
set_option maxRecDepth 20000 in
theorem gX9_bars_X9_sorts : GoodIn wsX9_bars (wsV RX9 99 RX9 yX9_sorts wsX9_sorts) := goodIn_app (goodIn_of _ (by decide +kernel)) ggX9_bars_X9_sorts
set_option maxRecDepth 20000 in
theorem ggX9_bars_X9_endOfGroup : GoodIn wsX9_bars wsX9_endOfGroup := goodIn_r _ [26, 1, 2, 27, 28, 29, 30, 31, 32, 33, 34, 35, 36, 37, 38, 39, 40, 41] (by decide +kernel) (by decide +kernel)
set_option maxRecDepth 20000 in
theorem gX9_bars_X9_endOfGroup : GoodIn wsX9_bars (wsV RX9 102 RX9 yX9_endOfGroup wsX9_endOfGroup) := goodIn_app (goodIn_of _ (by decide +kernel)) ggX9_bars_X9_endOfGroup
theorem dX9_bars_0 : decode cX9_bars 0 = .ok (.aload_n 0, 1) := by decide +kernel
theorem dX9_bars_1 : decode cX9_bars 1 = .ok (.aload_n 0, 1) := by decide +kernel
theorem dX9_bars_2 : decode cX9_bars 2 = .ok (.getfield 7, 3) := by decide +kernel
theorem dX9_bars_5 : decode cX9_bars 5 = .ok (.iconst 1, 1) := by decide +kernel
theorem dX9_bars_6 : decode cX9_bars 6 = .ok (.iaload, 1) := by decide +kernel
theorem dX9_bars_7 : decode cX9_bars 7 = .ok (.aload_n 0, 1) := by decide +kernel
theorem dX9_bars_8 : decode cX9_bars 8 = .ok (.invokevirtual 86, 3) := by decide +kernel
theorem dX9_bars_11 : decode cX9_bars 11 = .ok (.imul, 1) := by decide +kernel
theorem dX9_bars_12 : decode cX9_bars 12 = .ok (.putfield 93, 3) := by decide +kernel
theorem dX9_bars_15 : decode cX9_bars 15 = .ok (.iconst 0, 1) := by decide +kernel
theorem dX9_bars_16 : decode cX9_bars 16 = .ok (.istore_n 3, 1) := by decide +kernel
theorem dX9_bars_17 : decode cX9_bars 17 = .ok (.iload_n 3, 1) := by decide +kernel
theorem dX9_bars_18 : decode cX9_bars 18 = .ok (.aload_n 0, 1) := by decide +kernel
theorem dX9_bars_19 : decode cX9_bars 19 = .ok (.getfield 93, 3) := by decide +kernel
theorem dX9_bars_22 : decode cX9_bars 22 = .ok (.if_icmp .ge 94, 3) := by decide +kernel
theorem dX9_bars_25 : decode cX9_bars 25 = .ok (.aload_n 0, 1) := by decide +kernel
theorem dX9_bars_26 : decode cX9_bars 26 = .ok (.sipush 554, 3) := by decide +kernel
theorem dX9_bars_29 : decode cX9_bars 29 = .ok (.bipush 9, 2) := by decide +kernel
theorem dX9_bars_31 : decode cX9_bars 31 = .ok (.iload_n 3, 1) := by decide +kernel
theorem dX9_bars_32 : decode cX9_bars 32 = .ok (.aload_n 0, 1) := by decide +kernel
theorem dX9_bars_33 : decode cX9_bars 33 = .ok (.invokevirtual 86, 3) := by decide +kernel
theorem dX9_bars_36 : decode cX9_bars 36 = .ok (.idiv, 1) := by decide +kernel
theorem dX9_bars_37 : decode cX9_bars 37 = .ok (.imul, 1) := by decide +kernel
theorem dX9_bars_38 : decode cX9_bars 38 = .ok (.iadd, 1) := by decide +kernel
theorem dX9_bars_39 : decode cX9_bars 39 = .ok (.invokevirtual 96, 3) := by decide +kernel
theorem dX9_bars_42 : decode cX9_bars 42 = .ok (.istore 4, 2) := by decide +kernel
theorem dX9_bars_44 : decode cX9_bars 44 = .ok (.aload_n 0, 1) := by decide +kernel
theorem dX9_bars_45 : decode cX9_bars 45 = .ok (.getfield 19, 3) := by decide +kernel
theorem dX9_bars_48 : decode cX9_bars 48 = .ok (.iload_n 3, 1) := by decide +kernel
theorem dX9_bars_49 : decode cX9_bars 49 = .ok (.iload_n 3, 1) := by decide +kernel
theorem dX9_bars_50 : decode cX9_bars 50 = .ok (.aload_n 0, 1) := by decide +kernel
theorem dX9_bars_51 : decode cX9_bars 51 = .ok (.invokevirtual 86, 3) := by decide +kernel
theorem dX9_bars_54 : decode cX9_bars 54 = .ok (.irem, 1) := by decide +kernel
theorem dX9_bars_55 : decode cX9_bars 55 = .ok (.ifCond .ne 8, 3) := by decide +kernel
theorem dX9_bars_58 : decode cX9_bars 58 = .ok (.iload 4, 2) := by decide +kernel
theorem dX9_bars_60 : decode cX9_bars 60 = .ok (.goto 15, 3) := by decide +kernel
theorem dX9_bars_63 : decode cX9_bars 63 = .ok (.iload 4, 2) := by decide +kernel
theorem dX9_bars_65 : decode cX9_bars 65 = .ok (.aload_n 0, 1) := by decide +kernel
theorem dX9_bars_66 : decode cX9_bars 66 = .ok (.aload_n 0, 1) := by decide +kernel
theorem dX9_bars_67 : decode cX9_bars 67 = .ok (.iload_n 3, 1) := by decide +kernel
theorem dX9_bars_68 : decode cX9_bars 68 = .ok (.invokevirtual 89, 3) := by decide +kernel
theorem dX9_bars_71 : decode cX9_bars 71 = .ok (.invokevirtual 96, 3) := by decide +kernel
theorem dX9_bars_74 : decode cX9_bars 74 = .ok (.iadd, 1) := by decide +kernel
theorem dX9_bars_75 : decode cX9_bars 75 = .ok (.iastore, 1) := by decide +kernel
theorem dX9_bars_76 : decode cX9_bars 76 = .ok (.aload_n 0, 1) := by decide +kernel
theorem dX9_bars_77 : decode cX9_bars 77 = .ok (.getfield 22, 3) := by decide +kernel
theorem dX9_bars_80 : decode cX9_bars 80 = .ok (.iload_n 3, 1) := by decide +kernel
theorem dX9_bars_81 : decode cX9_bars 81 = .ok (.iload_n 1, 1) := by decide +kernel
theorem dX9_bars_82 : decode cX9_bars 82 = .ok (.iconst 1, 1) := by decide +kernel
theorem dX9_bars_83 : decode cX9_bars 83 = .ok (.if_icmp .ne 20, 3) := by decide +kernel
theorem dX9_bars_86 : decode cX9_bars 86 = .ok (.aload_n 0, 1) := by decide +kernel
theorem dX9_bars_87 : decode cX9_bars 87 = .ok (.getfield 19, 3) := by decide +kernel
theorem dX9_bars_90 : decode cX9_bars 90 = .ok (.iload_n 3, 1) := by decide +kernel
theorem dX9_bars_91 : decode cX9_bars 91 = .ok (.iaload, 1) := by decide +kernel
theorem dX9_bars_92 : decode cX9_bars 92 = .ok (.iload_n 2, 1) := by decide +kernel
theorem dX9_bars_93 : decode cX9_bars 93 = .ok (.iadd, 1) := by decide +kernel
theorem dX9_bars_94 : decode cX9_bars 94 = .ok (.iconst 1, 1) := by decide +kernel
theorem dX9_bars_95 : decode cX9_bars 95 = .ok (.isub, 1) := by decide +kernel
theorem dX9_bars_96 : decode cX9_bars 96 = .ok (.iload_n 2, 1) := by decide +kernel
theorem dX9_bars_97 : decode cX9_bars 97 = .ok (.idiv, 1) := by decide +kernel
theorem dX9_bars_98 : decode cX9_bars 98 = .ok (.iload_n 2, 1) := by decide +kernel
theorem dX9_bars_99 : decode cX9_bars 99 = .ok (.imul, 1) := by decide +kernel
theorem dX9_bars_100 : decode cX9_bars 100 = .ok (.goto 9, 3) := by decide +kernel
theorem dX9_bars_103 : decode cX9_bars 103 = .ok (.aload_n 0, 1) := by decide +kernel
theorem dX9_bars_104 : decode cX9_bars 104 = .ok (.getfield 19, 3) := by decide +kernel
theorem dX9_bars_107 : decode cX9_bars 107 = .ok (.iload_n 3, 1) := by decide +kernel
theorem dX9_bars_108 : decode cX9_bars 108 = .ok (.iaload, 1) := by decide +kernel
theorem dX9_bars_109 : decode cX9_bars 109 = .ok (.iastore, 1) := by decide +kernel
theorem dX9_bars_110 : decode cX9_bars 110 = .ok (.iinc 3 1, 3) := by decide +kernel
theorem dX9_bars_113 : decode cX9_bars 113 = .ok (.goto (-96), 3) := by decide +kernel
theorem dX9_bars_116 : decode cX9_bars 116 = .ok (.iload_n 1, 1) := by decide +kernel
theorem dX9_bars_117 : decode cX9_bars 117 = .ok (.iconst 1, 1) := by decide +kernel
theorem dX9_bars_118 : decode cX9_bars 118 = .ok (.if_icmp .le 63, 3) := by decide +kernel
theorem dX9_bars_121 : decode cX9_bars 121 = .ok (.aload_n 0, 1) := by decide +kernel
theorem dX9_bars_122 : decode cX9_bars 122 = .ok (.invokevirtual 99, 3) := by decide +kernel
theorem dX9_bars_125 : decode cX9_bars 125 = .ok (.iconst 0, 1) := by decide +kernel
theorem dX9_bars_126 : decode cX9_bars 126 = .ok (.istore_n 3, 1) := by decide +kernel
theorem dX9_bars_127 : decode cX9_bars 127 = .ok (.iload_n 3, 1) := by decide +kernel
theorem dX9_bars_128 : decode cX9_bars 128 = .ok (.aload_n 0, 1) := by decide +kernel
theorem dX9_bars_129 : decode cX9_bars 129 = .ok (.getfield 93, 3) := by decide +kernel
theorem dX9_bars_132 : decode cX9_bars 132 = .ok (.if_icmp .ge 49, 3) := by decide +kernel
theorem dX9_bars_135 : decode cX9_bars 135 = .ok (.aload_n 0, 1) := by decide +kernel
theorem dX9_bars_136 : decode cX9_bars 136 = .ok (.getfield 22, 3) := by decide +kernel
theorem dX9_bars_139 : decode cX9_bars 139 = .ok (.aload_n 0, 1) := by decide +kernel
theorem dX9_bars_140 : decode cX9_bars 140 = .ok (.getfield 25, 3) := by decide +kernel
theorem dX9_bars_143 : decode cX9_bars 143 = .ok (.iload_n 3, 1) := by decide +kernel
theorem dX9_bars_144 : decode cX9_bars 144 = .ok (.iaload, 1) := by decide +kernel
theorem dX9_bars_145 : decode cX9_bars 145 = .ok (.aload_n 0, 1) := by decide +kernel
theorem dX9_bars_146 : decode cX9_bars 146 = .ok (.getfield 19, 3) := by decide +kernel
theorem dX9_bars_149 : decode cX9_bars 149 = .ok (.aload_n 0, 1) := by decide +kernel
theorem dX9_bars_150 : decode cX9_bars 150 = .ok (.getfield 25, 3) := by decide +kernel
theorem dX9_bars_153 : decode cX9_bars 153 = .ok (.iload_n 1, 1) := by decide +kernel
theorem dX9_bars_154 : decode cX9_bars 154 = .ok (.iconst 2, 1) := by decide +kernel
theorem dX9_bars_155 : decode cX9_bars 155 = .ok (.if_icmp .ne 11, 3) := by decide +kernel
theorem dX9_bars_158 : decode cX9_bars 158 = .ok (.aload_n 0, 1) := by decide +kernel
theorem dX9_bars_159 : decode cX9_bars 159 = .ok (.iload_n 3, 1) := by decide +kernel
theorem dX9_bars_160 : decode cX9_bars 160 = .ok (.invokevirtual 102, 3) := by decide +kernel
theorem dX9_bars_163 : decode cX9_bars 163 = .ok (.goto 9, 3) := by decide +kernel
theorem dX9_bars_166 : decode cX9_bars 166 = .ok (.aload_n 0, 1) := by decide +kernel
theorem dX9_bars_167 : decode cX9_bars 167 = .ok (.getfield 93, 3) := by decide +kernel
theorem dX9_bars_170 : decode cX9_bars 170 = .ok (.iconst 1, 1) := by decide +kernel
theorem dX9_bars_171 : decode cX9_bars 171 = .ok (.isub, 1) := by decide +kernel
theorem dX9_bars_172 : decode cX9_bars 172 = .ok (.iaload, 1) := by decide +kernel
theorem dX9_bars_173 : decode cX9_bars 173 = .ok (.iaload, 1) := by decide +kernel
theorem dX9_bars_174 : decode cX9_bars 174 = .ok (.iastore, 1) := by decide +kernel
theorem dX9_bars_175 : decode cX9_bars 175 = .ok (.iinc 3 1, 3) := by decide +kernel
theorem dX9_bars_178 : decode cX9_bars 178 = .ok (.goto (-51), 3) := by decide +kernel
theorem dX9_bars_181 : decode cX9_bars 181 = .ok (.return_, 1) := by decide +kernel
set_option maxRecDepth 20000 in
theorem ggX9_isForm_X9_lettersOf : GoodIn wsX9_isForm wsX9_lettersOf := goodIn_r _ [6, 1, 7, 8, 9, 5, 10, 11, 12, 13, 14, 19, 20, 21, 22, 23, 24, 25, 26, 27, 28, 29, 30, 31, 32, 33] (by decide +kernel) (by decide +kernel)
set_option maxRecDepth 20000 in
theorem gX9_isForm_X9_lettersOf : GoodIn wsX9_isForm (wsV RX9 105 RX9 yX9_lettersOf wsX9_lettersOf) := goodIn_app (goodIn_of _ (by decide +kernel)) ggX9_isForm_X9_lettersOf
set_option maxRecDepth 20000 in
theorem ggX9_isForm_X9_letterOf : GoodIn wsX9_isForm wsX9_letterOf := goodIn_r _ [18, 1, 7, 8, 9, 5, 10, 11, 12, 13, 14, 19, 20, 21, 22, 23, 24, 25, 26, 27, 28, 29, 30, 31, 32, 33] (by decide +kernel) (by decide +kernel)
set_option maxRecDepth 20000 in
theorem gX9_isForm_X9_letterOf : GoodIn wsX9_isForm (wsV RX9 108 RX9 yX9_letterOf wsX9_letterOf) := goodIn_app (goodIn_of _ (by decide +kernel)) ggX9_isForm_X9_letterOf
theorem dX9_isForm_0 : decode cX9_isForm 0 = .ok (.bipush 34, 2) := by decide +kernel
theorem dX9_isForm_2 : decode cX9_isForm 2 = .ok (.bipush 13, 2) := by decide +kernel
theorem dX9_isForm_4 : decode cX9_isForm 4 = .ok (.iload_n 1, 1) := by decide +kernel
theorem dX9_isForm_5 : decode cX9_isForm 5 = .ok (.imul, 1) := by decide +kernel
theorem dX9_isForm_6 : decode cX9_isForm 6 = .ok (.iadd, 1) := by decide +kernel
theorem dX9_isForm_7 : decode cX9_isForm 7 = .ok (.istore_n 3, 1) := by decide +kernel
theorem dX9_isForm_8 : decode cX9_isForm 8 = .ok (.aload_n 0, 1) := by decide +kernel
theorem dX9_isForm_9 : decode cX9_isForm 9 = .ok (.getfield 7, 3) := by decide +kernel
theorem dX9_isForm_12 : decode cX9_isForm 12 = .ok (.iload_n 3, 1) := by decide +kernel
theorem dX9_isForm_13 : decode cX9_isForm 13 = .ok (.iaload, 1) := by decide +kernel
theorem dX9_isForm_14 : decode cX9_isForm 14 = .ok (.aload_n 0, 1) := by decide +kernel
theorem dX9_isForm_15 : decode cX9_isForm 15 = .ok (.iload_n 2, 1) := by decide +kernel
theorem dX9_isForm_16 : decode cX9_isForm 16 = .ok (.invokevirtual 105, 3) := by decide +kernel
theorem dX9_isForm_19 : decode cX9_isForm 19 = .ok (.if_icmp .ne 7, 3) := by decide +kernel
theorem dX9_isForm_22 : decode cX9_isForm 22 = .ok (.iconst 1, 1) := by decide +kernel
theorem dX9_isForm_23 : decode cX9_isForm 23 = .ok (.goto 4, 3) := by decide +kernel
theorem dX9_isForm_26 : decode cX9_isForm 26 = .ok (.iconst 0, 1) := by decide +kernel
theorem dX9_isForm_27 : decode cX9_isForm 27 = .ok (.istore 4, 2) := by decide +kernel
theorem dX9_isForm_29 : decode cX9_isForm 29 = .ok (.iconst 0, 1) := by decide +kernel
theorem dX9_isForm_30 : decode cX9_isForm 30 = .ok (.istore 5, 2) := by decide +kernel
theorem dX9_isForm_32 : decode cX9_isForm 32 = .ok (.iload 5, 2) := by decide +kernel
theorem dX9_isForm_34 : decode cX9_isForm 34 = .ok (.aload_n 0, 1) := by decide +kernel
theorem dX9_isForm_35 : decode cX9_isForm 35 = .ok (.getfield 7, 3) := by decide +kernel
theorem dX9_isForm_38 : decode cX9_isForm 38 = .ok (.iload_n 3, 1) := by decide +kernel
theorem dX9_isForm_39 : decode cX9_isForm 39 = .ok (.iaload, 1) := by decide +kernel
theorem dX9_isForm_40 : decode cX9_isForm 40 = .ok (.if_icmp .ge 42, 3) := by decide +kernel
theorem dX9_isForm_43 : decode cX9_isForm 43 = .ok (.iload 4, 2) := by decide +kernel
theorem dX9_isForm_45 : decode cX9_isForm 45 = .ok (.ifCond .eq 37, 3) := by decide +kernel
theorem dX9_isForm_48 : decode cX9_isForm 48 = .ok (.aload_n 0, 1) := by decide +kernel
theorem dX9_isForm_49 : decode cX9_isForm 49 = .ok (.getfield 7, 3) := by decide +kernel
theorem dX9_isForm_52 : decode cX9_isForm 52 = .ok (.iload_n 3, 1) := by decide +kernel
theorem dX9_isForm_53 : decode cX9_isForm 53 = .ok (.iconst 1, 1) := by decide +kernel
theorem dX9_isForm_54 : decode cX9_isForm 54 = .ok (.iadd, 1) := by decide +kernel
theorem dX9_isForm_55 : decode cX9_isForm 55 = .ok (.iload 5, 2) := by decide +kernel
theorem dX9_isForm_57 : decode cX9_isForm 57 = .ok (.iadd, 1) := by decide +kernel
theorem dX9_isForm_58 : decode cX9_isForm 58 = .ok (.iaload, 1) := by decide +kernel
theorem dX9_isForm_59 : decode cX9_isForm 59 = .ok (.aload_n 0, 1) := by decide +kernel
theorem dX9_isForm_60 : decode cX9_isForm 60 = .ok (.iload_n 2, 1) := by decide +kernel
theorem dX9_isForm_61 : decode cX9_isForm 61 = .ok (.iload 5, 2) := by decide +kernel
theorem dX9_isForm_63 : decode cX9_isForm 63 = .ok (.invokevirtual 108, 3) := by decide +kernel
theorem dX9_isForm_66 : decode cX9_isForm 66 = .ok (.if_icmp .ne 7, 3) := by decide +kernel
theorem dX9_isForm_69 : decode cX9_isForm 69 = .ok (.iconst 1, 1) := by decide +kernel
theorem dX9_isForm_70 : decode cX9_isForm 70 = .ok (.goto 4, 3) := by decide +kernel
theorem dX9_isForm_73 : decode cX9_isForm 73 = .ok (.iconst 0, 1) := by decide +kernel
theorem dX9_isForm_74 : decode cX9_isForm 74 = .ok (.istore 4, 2) := by decide +kernel
theorem dX9_isForm_76 : decode cX9_isForm 76 = .ok (.iinc 5 1, 3) := by decide +kernel
theorem dX9_isForm_79 : decode cX9_isForm 79 = .ok (.goto (-47), 3) := by decide +kernel
theorem dX9_isForm_82 : decode cX9_isForm 82 = .ok (.iload 4, 2) := by decide +kernel
theorem dX9_isForm_84 : decode cX9_isForm 84 = .ok (.ireturn, 1) := by decide +kernel
set_option maxRecDepth 20000 in
theorem ggX9_lays_X9_bars : GoodIn wsX9_lays wsX9_bars := goodIn_r _ [13, 2, 4, 14, 6, 15, 16, 17, 18, 12, 19, 20, 21, 22, 23, 24, 25, 26, 27, 28, 29, 30, 31, 32, 33, 34, 35, 48, 49, 50, 51, 52, 53, 54, 55, 56, 57, 58, 59, 60, 61, 62] (by decide +kernel) (by decide +kernel)
set_option maxRecDepth 20000 in
theorem gX9_lays_X9_bars : GoodIn wsX9_lays (wsV RX9 112 RX9 yX9_bars wsX9_bars) := goodIn_app (goodIn_of _ (by decide +kernel)) ggX9_lays_X9_bars
set_option maxRecDepth 20000 in
theorem ggX9_lays_X9_isForm : GoodIn wsX9_lays wsX9_isForm := goodIn_r _ [39, 2, 40, 41, 42, 12, 43, 16, 17, 18, 19, 24, 25, 26, 27, 44, 45, 46, 47, 48, 49, 50, 51, 52, 53, 54, 55, 56, 57, 58, 59, 60, 61, 62] (by decide +kernel) (by decide +kernel)
set_option maxRecDepth 20000 in
theorem gX9_lays_X9_isForm : GoodIn wsX9_lays (wsV RX9 119 RX9 yX9_isForm wsX9_isForm) := goodIn_app (goodIn_of _ (by decide +kernel)) ggX9_lays_X9_isForm
set_option maxRecDepth 20000 in
theorem ggX9_lays_X9_widthAt : GoodIn wsX9_lays wsX9_widthAt := goodIn_r _ [23, 2, 48, 49, 50, 51, 52, 53, 54, 55, 56, 57, 58, 59, 60, 61, 62] (by decide +kernel) (by decide +kernel)
set_option maxRecDepth 20000 in
theorem gX9_lays_X9_widthAt : GoodIn wsX9_lays (wsV RX9 96 RX9 yX9_widthAt wsX9_widthAt) := goodIn_app (goodIn_of _ (by decide +kernel)) ggX9_lays_X9_widthAt
theorem dX9_lays_0 : decode cX9_lays 0 = .ok (.aload_n 0, 1) := by decide +kernel
theorem dX9_lays_1 : decode cX9_lays 1 = .ok (.iload_n 1, 1) := by decide +kernel
theorem dX9_lays_2 : decode cX9_lays 2 = .ok (.iload_n 2, 1) := by decide +kernel
theorem dX9_lays_3 : decode cX9_lays 3 = .ok (.invokevirtual 112, 3) := by decide +kernel
theorem dX9_lays_6 : decode cX9_lays 6 = .ok (.aload_n 0, 1) := by decide +kernel
theorem dX9_lays_7 : decode cX9_lays 7 = .ok (.iconst 0, 1) := by decide +kernel
theorem dX9_lays_8 : decode cX9_lays 8 = .ok (.putfield 116, 3) := by decide +kernel
theorem dX9_lays_11 : decode cX9_lays 11 = .ok (.iconst 0, 1) := by decide +kernel
theorem dX9_lays_12 : decode cX9_lays 12 = .ok (.istore_n 3, 1) := by decide +kernel
theorem dX9_lays_13 : decode cX9_lays 13 = .ok (.iconst 0, 1) := by decide +kernel
theorem dX9_lays_14 : decode cX9_lays 14 = .ok (.istore 4, 2) := by decide +kernel
theorem dX9_lays_16 : decode cX9_lays 16 = .ok (.iload 4, 2) := by decide +kernel
theorem dX9_lays_18 : decode cX9_lays 18 = .ok (.aload_n 0, 1) := by decide +kernel
theorem dX9_lays_19 : decode cX9_lays 19 = .ok (.getfield 7, 3) := by decide +kernel
theorem dX9_lays_22 : decode cX9_lays 22 = .ok (.iconst 0, 1) := by decide +kernel
theorem dX9_lays_23 : decode cX9_lays 23 = .ok (.iaload, 1) := by decide +kernel
theorem dX9_lays_24 : decode cX9_lays 24 = .ok (.if_icmp .ge 185, 3) := by decide +kernel
theorem dX9_lays_27 : decode cX9_lays 27 = .ok (.aload_n 0, 1) := by decide +kernel
theorem dX9_lays_28 : decode cX9_lays 28 = .ok (.getfield 28, 3) := by decide +kernel
theorem dX9_lays_31 : decode cX9_lays 31 = .ok (.iload 4, 2) := by decide +kernel
theorem dX9_lays_33 : decode cX9_lays 33 = .ok (.iconst (-1), 1) := by decide +kernel
theorem dX9_lays_34 : decode cX9_lays 34 = .ok (.iastore, 1) := by decide +kernel
theorem dX9_lays_35 : decode cX9_lays 35 = .ok (.aload_n 0, 1) := by decide +kernel
theorem dX9_lays_36 : decode cX9_lays 36 = .ok (.getfield 93, 3) := by decide +kernel
theorem dX9_lays_39 : decode cX9_lays 39 = .ok (.iconst 1, 1) := by decide +kernel
theorem dX9_lays_40 : decode cX9_lays 40 = .ok (.isub, 1) := by decide +kernel
theorem dX9_lays_41 : decode cX9_lays 41 = .ok (.istore 5, 2) := by decide +kernel
theorem dX9_lays_43 : decode cX9_lays 43 = .ok (.iload 5, 2) := by decide +kernel
theorem dX9_lays_45 : decode cX9_lays 45 = .ok (.ifCond .lt 39, 3) := by decide +kernel
theorem dX9_lays_48 : decode cX9_lays 48 = .ok (.aload_n 0, 1) := by decide +kernel
theorem dX9_lays_49 : decode cX9_lays 49 = .ok (.getfield 28, 3) := by decide +kernel
theorem dX9_lays_52 : decode cX9_lays 52 = .ok (.iload 4, 2) := by decide +kernel
theorem dX9_lays_54 : decode cX9_lays 54 = .ok (.aload_n 0, 1) := by decide +kernel
theorem dX9_lays_55 : decode cX9_lays 55 = .ok (.iload 4, 2) := by decide +kernel
theorem dX9_lays_57 : decode cX9_lays 57 = .ok (.iload 5, 2) := by decide +kernel
theorem dX9_lays_59 : decode cX9_lays 59 = .ok (.invokevirtual 119, 3) := by decide +kernel
theorem dX9_lays_62 : decode cX9_lays 62 = .ok (.ifCond .eq 8, 3) := by decide +kernel
theorem dX9_lays_65 : decode cX9_lays 65 = .ok (.iload 5, 2) := by decide +kernel
theorem dX9_lays_67 : decode cX9_lays 67 = .ok (.goto 10, 3) := by decide +kernel
theorem dX9_lays_70 : decode cX9_lays 70 = .ok (.aload_n 0, 1) := by decide +kernel
theorem dX9_lays_71 : decode cX9_lays 71 = .ok (.getfield 28, 3) := by decide +kernel
theorem dX9_lays_74 : decode cX9_lays 74 = .ok (.iload 4, 2) := by decide +kernel
theorem dX9_lays_76 : decode cX9_lays 76 = .ok (.iaload, 1) := by decide +kernel
theorem dX9_lays_77 : decode cX9_lays 77 = .ok (.iastore, 1) := by decide +kernel
theorem dX9_lays_78 : decode cX9_lays 78 = .ok (.iinc 5 (-1), 3) := by decide +kernel
theorem dX9_lays_81 : decode cX9_lays 81 = .ok (.goto (-38), 3) := by decide +kernel
theorem dX9_lays_84 : decode cX9_lays 84 = .ok (.aload_n 0, 1) := by decide +kernel
theorem dX9_lays_85 : decode cX9_lays 85 = .ok (.getfield 31, 3) := by decide +kernel
theorem dX9_lays_88 : decode cX9_lays 88 = .ok (.iload 4, 2) := by decide +kernel
theorem dX9_lays_90 : decode cX9_lays 90 = .ok (.aload_n 0, 1) := by decide +kernel
theorem dX9_lays_91 : decode cX9_lays 91 = .ok (.getfield 28, 3) := by decide +kernel
theorem dX9_lays_94 : decode cX9_lays 94 = .ok (.iload 4, 2) := by decide +kernel
theorem dX9_lays_96 : decode cX9_lays 96 = .ok (.iaload, 1) := by decide +kernel
theorem dX9_lays_97 : decode cX9_lays 97 = .ok (.ifCond .ge 18, 3) := by decide +kernel
theorem dX9_lays_100 : decode cX9_lays 100 = .ok (.aload_n 0, 1) := by decide +kernel
theorem dX9_lays_101 : decode cX9_lays 101 = .ok (.bipush 34, 2) := by decide +kernel
theorem dX9_lays_103 : decode cX9_lays 103 = .ok (.bipush 13, 2) := by decide +kernel
theorem dX9_lays_105 : decode cX9_lays 105 = .ok (.iload 4, 2) := by decide +kernel
theorem dX9_lays_107 : decode cX9_lays 107 = .ok (.imul, 1) := by decide +kernel
theorem dX9_lays_108 : decode cX9_lays 108 = .ok (.iadd, 1) := by decide +kernel
theorem dX9_lays_109 : decode cX9_lays 109 = .ok (.invokevirtual 96, 3) := by decide +kernel
theorem dX9_lays_112 : decode cX9_lays 112 = .ok (.goto 15, 3) := by decide +kernel
theorem dX9_lays_115 : decode cX9_lays 115 = .ok (.aload_n 0, 1) := by decide +kernel
theorem dX9_lays_116 : decode cX9_lays 116 = .ok (.getfield 22, 3) := by decide +kernel
theorem dX9_lays_119 : decode cX9_lays 119 = .ok (.aload_n 0, 1) := by decide +kernel
theorem dX9_lays_120 : decode cX9_lays 120 = .ok (.getfield 28, 3) := by decide +kernel
theorem dX9_lays_123 : decode cX9_lays 123 = .ok (.iload 4, 2) := by decide +kernel
theorem dX9_lays_125 : decode cX9_lays 125 = .ok (.iaload, 1) := by decide +kernel
theorem dX9_lays_126 : decode cX9_lays 126 = .ok (.iaload, 1) := by decide +kernel
theorem dX9_lays_127 : decode cX9_lays 127 = .ok (.iastore, 1) := by decide +kernel
theorem dX9_lays_128 : decode cX9_lays 128 = .ok (.iload 4, 2) := by decide +kernel
theorem dX9_lays_130 : decode cX9_lays 130 = .ok (.ifCond .eq 22, 3) := by decide +kernel
theorem dX9_lays_133 : decode cX9_lays 133 = .ok (.iload_n 3, 1) := by decide +kernel
theorem dX9_lays_134 : decode cX9_lays 134 = .ok (.aload_n 0, 1) := by decide +kernel
theorem dX9_lays_135 : decode cX9_lays 135 = .ok (.getfield 31, 3) := by decide +kernel
theorem dX9_lays_138 : decode cX9_lays 138 = .ok (.iload 4, 2) := by decide +kernel
theorem dX9_lays_140 : decode cX9_lays 140 = .ok (.iaload, 1) := by decide +kernel
theorem dX9_lays_141 : decode cX9_lays 141 = .ok (.iadd, 1) := by decide +kernel
theorem dX9_lays_142 : decode cX9_lays 142 = .ok (.aload_n 0, 1) := by decide +kernel
theorem dX9_lays_143 : decode cX9_lays 143 = .ok (.getfield 7, 3) := by decide +kernel
theorem dX9_lays_146 : decode cX9_lays 146 = .ok (.bipush 7, 2) := by decide +kernel
theorem dX9_lays_148 : decode cX9_lays 148 = .ok (.iaload, 1) := by decide +kernel
theorem dX9_lays_149 : decode cX9_lays 149 = .ok (.if_icmp .le 15, 3) := by decide +kernel
theorem dX9_lays_152 : decode cX9_lays 152 = .ok (.aload_n 0, 1) := by decide +kernel
theorem dX9_lays_153 : decode cX9_lays 153 = .ok (.dup, 1) := by decide +kernel
theorem dX9_lays_154 : decode cX9_lays 154 = .ok (.getfield 116, 3) := by decide +kernel
theorem dX9_lays_157 : decode cX9_lays 157 = .ok (.iconst 1, 1) := by decide +kernel
theorem dX9_lays_158 : decode cX9_lays 158 = .ok (.iadd, 1) := by decide +kernel
theorem dX9_lays_159 : decode cX9_lays 159 = .ok (.putfield 116, 3) := by decide +kernel
theorem dX9_lays_162 : decode cX9_lays 162 = .ok (.iconst 0, 1) := by decide +kernel
theorem dX9_lays_163 : decode cX9_lays 163 = .ok (.istore_n 3, 1) := by decide +kernel
theorem dX9_lays_164 : decode cX9_lays 164 = .ok (.aload_n 0, 1) := by decide +kernel
theorem dX9_lays_165 : decode cX9_lays 165 = .ok (.getfield 34, 3) := by decide +kernel
theorem dX9_lays_168 : decode cX9_lays 168 = .ok (.iload 4, 2) := by decide +kernel
theorem dX9_lays_170 : decode cX9_lays 170 = .ok (.aload_n 0, 1) := by decide +kernel
theorem dX9_lays_171 : decode cX9_lays 171 = .ok (.getfield 116, 3) := by decide +kernel
theorem dX9_lays_174 : decode cX9_lays 174 = .ok (.iconst 1, 1) := by decide +kernel
theorem dX9_lays_175 : decode cX9_lays 175 = .ok (.isub, 1) := by decide +kernel
theorem dX9_lays_176 : decode cX9_lays 176 = .ok (.iastore, 1) := by decide +kernel
theorem dX9_lays_177 : decode cX9_lays 177 = .ok (.aload_n 0, 1) := by decide +kernel
theorem dX9_lays_178 : decode cX9_lays 178 = .ok (.getfield 37, 3) := by decide +kernel
theorem dX9_lays_181 : decode cX9_lays 181 = .ok (.iload 4, 2) := by decide +kernel
theorem dX9_lays_183 : decode cX9_lays 183 = .ok (.iload_n 3, 1) := by decide +kernel
theorem dX9_lays_184 : decode cX9_lays 184 = .ok (.iastore, 1) := by decide +kernel
theorem dX9_lays_185 : decode cX9_lays 185 = .ok (.iload_n 3, 1) := by decide +kernel
theorem dX9_lays_186 : decode cX9_lays 186 = .ok (.aload_n 0, 1) := by decide +kernel
theorem dX9_lays_187 : decode cX9_lays 187 = .ok (.getfield 31, 3) := by decide +kernel
theorem dX9_lays_190 : decode cX9_lays 190 = .ok (.iload 4, 2) := by decide +kernel
theorem dX9_lays_192 : decode cX9_lays 192 = .ok (.iaload, 1) := by decide +kernel
theorem dX9_lays_193 : decode cX9_lays 193 = .ok (.aload_n 0, 1) := by decide +kernel
theorem dX9_lays_194 : decode cX9_lays 194 = .ok (.getfield 7, 3) := by decide +kernel
theorem dX9_lays_197 : decode cX9_lays 197 = .ok (.bipush 6, 2) := by decide +kernel
theorem dX9_lays_199 : decode cX9_lays 199 = .ok (.iaload, 1) := by decide +kernel
theorem dX9_lays_200 : decode cX9_lays 200 = .ok (.iadd, 1) := by decide +kernel
theorem dX9_lays_201 : decode cX9_lays 201 = .ok (.iadd, 1) := by decide +kernel
theorem dX9_lays_202 : decode cX9_lays 202 = .ok (.istore_n 3, 1) := by decide +kernel
theorem dX9_lays_203 : decode cX9_lays 203 = .ok (.iinc 4 1, 3) := by decide +kernel
theorem dX9_lays_206 : decode cX9_lays 206 = .ok (.goto (-190), 3) := by decide +kernel
theorem dX9_lays_209 : decode cX9_lays 209 = .ok (.return_, 1) := by decide +kernel
set_option maxRecDepth 20000 in
theorem ggX9_laysNow_X9_lays : GoodIn wsX9_laysNow wsX9_lays := goodIn_r _ [6, 7, 1, 8, 9, 10, 11, 12, 13, 14, 15, 16, 5, 17, 18, 19, 20, 21, 22, 23, 24, 25, 26, 27, 28, 29, 30, 31, 32, 33, 34, 35, 36, 37, 38, 39, 40, 41, 42, 43, 44, 45, 46, 47, 48, 49, 50, 51, 52, 53, 54, 55, 56, 57, 58, 59, 60, 61, 62, 63, 64, 65, 66] (by decide +kernel) (by decide +kernel)
set_option maxRecDepth 20000 in
theorem gX9_laysNow_X9_lays : GoodIn wsX9_laysNow (wsV RX9 122 RX9 yX9_lays wsX9_lays) := goodIn_app (goodIn_of _ (by decide +kernel)) ggX9_laysNow_X9_lays
theorem dX9_laysNow_0 : decode cX9_laysNow 0 = .ok (.aload_n 0, 1) := by decide +kernel
theorem dX9_laysNow_1 : decode cX9_laysNow 1 = .ok (.aload_n 0, 1) := by decide +kernel
theorem dX9_laysNow_2 : decode cX9_laysNow 2 = .ok (.getfield 7, 3) := by decide +kernel
theorem dX9_laysNow_5 : decode cX9_laysNow 5 = .ok (.iconst 3, 1) := by decide +kernel
theorem dX9_laysNow_6 : decode cX9_laysNow 6 = .ok (.iaload, 1) := by decide +kernel
theorem dX9_laysNow_7 : decode cX9_laysNow 7 = .ok (.aload_n 0, 1) := by decide +kernel
theorem dX9_laysNow_8 : decode cX9_laysNow 8 = .ok (.getfield 7, 3) := by decide +kernel
theorem dX9_laysNow_11 : decode cX9_laysNow 11 = .ok (.iconst 4, 1) := by decide +kernel
theorem dX9_laysNow_12 : decode cX9_laysNow 12 = .ok (.iaload, 1) := by decide +kernel
theorem dX9_laysNow_13 : decode cX9_laysNow 13 = .ok (.invokevirtual 122, 3) := by decide +kernel
theorem dX9_laysNow_16 : decode cX9_laysNow 16 = .ok (.return_, 1) := by decide +kernel
set_option maxRecDepth 20000 in
theorem ggX9_namesUnder_X9_each : GoodIn wsX9_namesUnder wsX9_each := goodIn_r _ [7, 8, 9, 10, 11, 12, 13, 14, 15, 16, 17, 18, 19, 20, 21, 22, 23] (by decide +kernel) (by decide +kernel)
set_option maxRecDepth 20000 in
theorem gX9_namesUnder_X9_each : GoodIn wsX9_namesUnder (wsV RX9 86 RX9 yX9_each wsX9_each) := goodIn_app (goodIn_of _ (by decide +kernel)) ggX9_namesUnder_X9_each
theorem dX9_namesUnder_0 : decode cX9_namesUnder 0 = .ok (.iconst 0, 1) := by decide +kernel
theorem dX9_namesUnder_1 : decode cX9_namesUnder 1 = .ok (.istore_n 2, 1) := by decide +kernel
theorem dX9_namesUnder_2 : decode cX9_namesUnder 2 = .ok (.iconst 0, 1) := by decide +kernel
theorem dX9_namesUnder_3 : decode cX9_namesUnder 3 = .ok (.istore_n 3, 1) := by decide +kernel
theorem dX9_namesUnder_4 : decode cX9_namesUnder 4 = .ok (.iload_n 3, 1) := by decide +kernel
theorem dX9_namesUnder_5 : decode cX9_namesUnder 5 = .ok (.aload_n 0, 1) := by decide +kernel
theorem dX9_namesUnder_6 : decode cX9_namesUnder 6 = .ok (.getfield 93, 3) := by decide +kernel
theorem dX9_namesUnder_9 : decode cX9_namesUnder 9 = .ok (.if_icmp .ge 34, 3) := by decide +kernel
theorem dX9_namesUnder_12 : decode cX9_namesUnder 12 = .ok (.iload_n 2, 1) := by decide +kernel
theorem dX9_namesUnder_13 : decode cX9_namesUnder 13 = .ok (.aload_n 0, 1) := by decide +kernel
theorem dX9_namesUnder_14 : decode cX9_namesUnder 14 = .ok (.getfield 22, 3) := by decide +kernel
theorem dX9_namesUnder_17 : decode cX9_namesUnder 17 = .ok (.iload_n 3, 1) := by decide +kernel
theorem dX9_namesUnder_18 : decode cX9_namesUnder 18 = .ok (.iaload, 1) := by decide +kernel
theorem dX9_namesUnder_19 : decode cX9_namesUnder 19 = .ok (.iload_n 1, 1) := by decide +kernel
theorem dX9_namesUnder_20 : decode cX9_namesUnder 20 = .ok (.if_icmp .ne 14, 3) := by decide +kernel
theorem dX9_namesUnder_23 : decode cX9_namesUnder 23 = .ok (.iconst 1, 1) := by decide +kernel
theorem dX9_namesUnder_24 : decode cX9_namesUnder 24 = .ok (.iload_n 3, 1) := by decide +kernel
theorem dX9_namesUnder_25 : decode cX9_namesUnder 25 = .ok (.aload_n 0, 1) := by decide +kernel
theorem dX9_namesUnder_26 : decode cX9_namesUnder 26 = .ok (.invokevirtual 86, 3) := by decide +kernel
theorem dX9_namesUnder_29 : decode cX9_namesUnder 29 = .ok (.idiv, 1) := by decide +kernel
theorem dX9_namesUnder_30 : decode cX9_namesUnder 30 = .ok (.ishl, 1) := by decide +kernel
theorem dX9_namesUnder_31 : decode cX9_namesUnder 31 = .ok (.goto 4, 3) := by decide +kernel
theorem dX9_namesUnder_34 : decode cX9_namesUnder 34 = .ok (.iconst 0, 1) := by decide +kernel
theorem dX9_namesUnder_35 : decode cX9_namesUnder 35 = .ok (.ior, 1) := by decide +kernel
theorem dX9_namesUnder_36 : decode cX9_namesUnder 36 = .ok (.istore_n 2, 1) := by decide +kernel
theorem dX9_namesUnder_37 : decode cX9_namesUnder 37 = .ok (.iinc 3 1, 3) := by decide +kernel
theorem dX9_namesUnder_40 : decode cX9_namesUnder 40 = .ok (.goto (-36), 3) := by decide +kernel
theorem dX9_namesUnder_43 : decode cX9_namesUnder 43 = .ok (.iload_n 2, 1) := by decide +kernel
theorem dX9_namesUnder_44 : decode cX9_namesUnder 44 = .ok (.ireturn, 1) := by decide +kernel
theorem dX9_bits_0 : decode cX9_bits 0 = .ok (.iconst 0, 1) := by decide +kernel
theorem dX9_bits_1 : decode cX9_bits 1 = .ok (.istore_n 1, 1) := by decide +kernel
theorem dX9_bits_2 : decode cX9_bits 2 = .ok (.iconst 0, 1) := by decide +kernel
theorem dX9_bits_3 : decode cX9_bits 3 = .ok (.istore_n 2, 1) := by decide +kernel
theorem dX9_bits_4 : decode cX9_bits 4 = .ok (.iload_n 2, 1) := by decide +kernel
theorem dX9_bits_5 : decode cX9_bits 5 = .ok (.bipush 8, 2) := by decide +kernel
theorem dX9_bits_7 : decode cX9_bits 7 = .ok (.if_icmp .ge 17, 3) := by decide +kernel
theorem dX9_bits_10 : decode cX9_bits 10 = .ok (.iload_n 1, 1) := by decide +kernel
theorem dX9_bits_11 : decode cX9_bits 11 = .ok (.iload_n 0, 1) := by decide +kernel
theorem dX9_bits_12 : decode cX9_bits 12 = .ok (.iload_n 2, 1) := by decide +kernel
theorem dX9_bits_13 : decode cX9_bits 13 = .ok (.ishr, 1) := by decide +kernel
theorem dX9_bits_14 : decode cX9_bits 14 = .ok (.iconst 1, 1) := by decide +kernel
theorem dX9_bits_15 : decode cX9_bits 15 = .ok (.iand, 1) := by decide +kernel
theorem dX9_bits_16 : decode cX9_bits 16 = .ok (.iadd, 1) := by decide +kernel
theorem dX9_bits_17 : decode cX9_bits 17 = .ok (.istore_n 1, 1) := by decide +kernel
theorem dX9_bits_18 : decode cX9_bits 18 = .ok (.iinc 2 1, 3) := by decide +kernel
theorem dX9_bits_21 : decode cX9_bits 21 = .ok (.goto (-17), 3) := by decide +kernel
theorem dX9_bits_24 : decode cX9_bits 24 = .ok (.iload_n 1, 1) := by decide +kernel
theorem dX9_bits_25 : decode cX9_bits 25 = .ok (.ireturn, 1) := by decide +kernel
set_option maxRecDepth 20000 in
theorem ggX9_fewest_X9_namesUnder : GoodIn wsX9_fewest wsX9_namesUnder := goodIn_r _ [8, 9, 10, 11, 12, 13, 7, 14, 1, 18, 19, 20, 21, 22, 23, 24, 25, 26, 27, 28, 29, 30, 31, 32] (by decide +kernel) (by decide +kernel)
set_option maxRecDepth 20000 in
theorem gX9_fewest_X9_namesUnder : GoodIn wsX9_fewest (wsV RX9 125 RX9 yX9_namesUnder wsX9_namesUnder) := goodIn_app (goodIn_of _ (by decide +kernel)) ggX9_fewest_X9_namesUnder
set_option maxRecDepth 20000 in
theorem ggX9_fewest_X9_bits : GoodIn wsX9_fewest wsX9_bits := goodIn_r _ [17] (by decide +kernel) (by decide +kernel)
set_option maxRecDepth 20000 in
theorem gX9_fewest_X9_bits : GoodIn wsX9_fewest (va_wsS RX9 128 yX9_bits wsX9_bits) := goodIn_app (goodIn_of _ (by decide +kernel)) ggX9_fewest_X9_bits
theorem dX9_fewest_0 : decode cX9_fewest 0 = .ok (.bipush 8, 2) := by decide +kernel
theorem dX9_fewest_2 : decode cX9_fewest 2 = .ok (.istore_n 1, 1) := by decide +kernel
theorem dX9_fewest_3 : decode cX9_fewest 3 = .ok (.iconst 0, 1) := by decide +kernel
theorem dX9_fewest_4 : decode cX9_fewest 4 = .ok (.istore_n 2, 1) := by decide +kernel
theorem dX9_fewest_5 : decode cX9_fewest 5 = .ok (.iload_n 2, 1) := by decide +kernel
theorem dX9_fewest_6 : decode cX9_fewest 6 = .ok (.aload_n 0, 1) := by decide +kernel
theorem dX9_fewest_7 : decode cX9_fewest 7 = .ok (.getfield 7, 3) := by decide +kernel
theorem dX9_fewest_10 : decode cX9_fewest 10 = .ok (.iconst 0, 1) := by decide +kernel
theorem dX9_fewest_11 : decode cX9_fewest 11 = .ok (.iaload, 1) := by decide +kernel
theorem dX9_fewest_12 : decode cX9_fewest 12 = .ok (.if_icmp .ge 48, 3) := by decide +kernel
theorem dX9_fewest_15 : decode cX9_fewest 15 = .ok (.aload_n 0, 1) := by decide +kernel
theorem dX9_fewest_16 : decode cX9_fewest 16 = .ok (.getfield 28, 3) := by decide +kernel
theorem dX9_fewest_19 : decode cX9_fewest 19 = .ok (.iload_n 2, 1) := by decide +kernel
theorem dX9_fewest_20 : decode cX9_fewest 20 = .ok (.iaload, 1) := by decide +kernel
theorem dX9_fewest_21 : decode cX9_fewest 21 = .ok (.ifCond .ge 8, 3) := by decide +kernel
theorem dX9_fewest_24 : decode cX9_fewest 24 = .ok (.bipush 8, 2) := by decide +kernel
theorem dX9_fewest_26 : decode cX9_fewest 26 = .ok (.goto 16, 3) := by decide +kernel
theorem dX9_fewest_29 : decode cX9_fewest 29 = .ok (.aload_n 0, 1) := by decide +kernel
theorem dX9_fewest_30 : decode cX9_fewest 30 = .ok (.aload_n 0, 1) := by decide +kernel
theorem dX9_fewest_31 : decode cX9_fewest 31 = .ok (.getfield 31, 3) := by decide +kernel
theorem dX9_fewest_34 : decode cX9_fewest 34 = .ok (.iload_n 2, 1) := by decide +kernel
theorem dX9_fewest_35 : decode cX9_fewest 35 = .ok (.iaload, 1) := by decide +kernel
theorem dX9_fewest_36 : decode cX9_fewest 36 = .ok (.invokevirtual 125, 3) := by decide +kernel
theorem dX9_fewest_39 : decode cX9_fewest 39 = .ok (.invokestatic 128, 3) := by decide +kernel
theorem dX9_fewest_42 : decode cX9_fewest 42 = .ok (.istore_n 3, 1) := by decide +kernel
theorem dX9_fewest_43 : decode cX9_fewest 43 = .ok (.iload_n 3, 1) := by decide +kernel
theorem dX9_fewest_44 : decode cX9_fewest 44 = .ok (.iload_n 1, 1) := by decide +kernel
theorem dX9_fewest_45 : decode cX9_fewest 45 = .ok (.if_icmp .ge 7, 3) := by decide +kernel
theorem dX9_fewest_48 : decode cX9_fewest 48 = .ok (.iload_n 3, 1) := by decide +kernel
theorem dX9_fewest_49 : decode cX9_fewest 49 = .ok (.goto 4, 3) := by decide +kernel
theorem dX9_fewest_52 : decode cX9_fewest 52 = .ok (.iload_n 1, 1) := by decide +kernel
theorem dX9_fewest_53 : decode cX9_fewest 53 = .ok (.istore_n 1, 1) := by decide +kernel
theorem dX9_fewest_54 : decode cX9_fewest 54 = .ok (.iinc 2 1, 3) := by decide +kernel
theorem dX9_fewest_57 : decode cX9_fewest 57 = .ok (.goto (-52), 3) := by decide +kernel
theorem dX9_fewest_60 : decode cX9_fewest 60 = .ok (.iload_n 1, 1) := by decide +kernel
theorem dX9_fewest_61 : decode cX9_fewest 61 = .ok (.ireturn, 1) := by decide +kernel
set_option maxRecDepth 20000 in
theorem ggX9_sumOf_X9_namesUnder : GoodIn wsX9_sumOf wsX9_namesUnder := goodIn_r _ [9, 10, 11, 12, 13, 14, 8, 15, 1, 19, 20, 21, 22, 23, 24, 25, 26, 27, 28, 29, 30, 31, 32, 33] (by decide +kernel) (by decide +kernel)
set_option maxRecDepth 20000 in
theorem gX9_sumOf_X9_namesUnder : GoodIn wsX9_sumOf (wsV RX9 125 RX9 yX9_namesUnder wsX9_namesUnder) := goodIn_app (goodIn_of _ (by decide +kernel)) ggX9_sumOf_X9_namesUnder
set_option maxRecDepth 20000 in
theorem ggX9_sumOf_X9_bits : GoodIn wsX9_sumOf wsX9_bits := goodIn_r _ [18] (by decide +kernel) (by decide +kernel)
set_option maxRecDepth 20000 in
theorem gX9_sumOf_X9_bits : GoodIn wsX9_sumOf (va_wsS RX9 128 yX9_bits wsX9_bits) := goodIn_app (goodIn_of _ (by decide +kernel)) ggX9_sumOf_X9_bits
theorem dX9_sumOf_0 : decode cX9_sumOf 0 = .ok (.iconst 0, 1) := by decide +kernel
theorem dX9_sumOf_1 : decode cX9_sumOf 1 = .ok (.istore_n 2, 1) := by decide +kernel
theorem dX9_sumOf_2 : decode cX9_sumOf 2 = .ok (.iconst 0, 1) := by decide +kernel
theorem dX9_sumOf_3 : decode cX9_sumOf 3 = .ok (.istore_n 3, 1) := by decide +kernel
theorem dX9_sumOf_4 : decode cX9_sumOf 4 = .ok (.iload_n 3, 1) := by decide +kernel
theorem dX9_sumOf_5 : decode cX9_sumOf 5 = .ok (.aload_n 0, 1) := by decide +kernel
theorem dX9_sumOf_6 : decode cX9_sumOf 6 = .ok (.getfield 7, 3) := by decide +kernel
theorem dX9_sumOf_9 : decode cX9_sumOf 9 = .ok (.iconst 0, 1) := by decide +kernel
theorem dX9_sumOf_10 : decode cX9_sumOf 10 = .ok (.iaload, 1) := by decide +kernel
theorem dX9_sumOf_11 : decode cX9_sumOf 11 = .ok (.if_icmp .ge 204, 3) := by decide +kernel
theorem dX9_sumOf_14 : decode cX9_sumOf 14 = .ok (.aload_n 0, 1) := by decide +kernel
theorem dX9_sumOf_15 : decode cX9_sumOf 15 = .ok (.getfield 28, 3) := by decide +kernel
theorem dX9_sumOf_18 : decode cX9_sumOf 18 = .ok (.iload_n 3, 1) := by decide +kernel
theorem dX9_sumOf_19 : decode cX9_sumOf 19 = .ok (.iaload, 1) := by decide +kernel
theorem dX9_sumOf_20 : decode cX9_sumOf 20 = .ok (.ifCond .lt 7, 3) := by decide +kernel
theorem dX9_sumOf_23 : decode cX9_sumOf 23 = .ok (.iconst 1, 1) := by decide +kernel
theorem dX9_sumOf_24 : decode cX9_sumOf 24 = .ok (.goto 4, 3) := by decide +kernel
theorem dX9_sumOf_27 : decode cX9_sumOf 27 = .ok (.iconst 0, 1) := by decide +kernel
theorem dX9_sumOf_28 : decode cX9_sumOf 28 = .ok (.istore 4, 2) := by decide +kernel
theorem dX9_sumOf_30 : decode cX9_sumOf 30 = .ok (.iload 4, 2) := by decide +kernel
theorem dX9_sumOf_32 : decode cX9_sumOf 32 = .ok (.istore 5, 2) := by decide +kernel
theorem dX9_sumOf_34 : decode cX9_sumOf 34 = .ok (.iconst 0, 1) := by decide +kernel
theorem dX9_sumOf_35 : decode cX9_sumOf 35 = .ok (.istore 6, 2) := by decide +kernel
theorem dX9_sumOf_37 : decode cX9_sumOf 37 = .ok (.iload 6, 2) := by decide +kernel
theorem dX9_sumOf_39 : decode cX9_sumOf 39 = .ok (.iload_n 3, 1) := by decide +kernel
theorem dX9_sumOf_40 : decode cX9_sumOf 40 = .ok (.if_icmp .ge 47, 3) := by decide +kernel
theorem dX9_sumOf_43 : decode cX9_sumOf 43 = .ok (.iload 5, 2) := by decide +kernel
theorem dX9_sumOf_45 : decode cX9_sumOf 45 = .ok (.ifCond .eq 33, 3) := by decide +kernel
theorem dX9_sumOf_48 : decode cX9_sumOf 48 = .ok (.aload_n 0, 1) := by decide +kernel
theorem dX9_sumOf_49 : decode cX9_sumOf 49 = .ok (.getfield 28, 3) := by decide +kernel
theorem dX9_sumOf_52 : decode cX9_sumOf 52 = .ok (.iload 6, 2) := by decide +kernel
theorem dX9_sumOf_54 : decode cX9_sumOf 54 = .ok (.iaload, 1) := by decide +kernel
theorem dX9_sumOf_55 : decode cX9_sumOf 55 = .ok (.ifCond .lt 19, 3) := by decide +kernel
theorem dX9_sumOf_58 : decode cX9_sumOf 58 = .ok (.aload_n 0, 1) := by decide +kernel
theorem dX9_sumOf_59 : decode cX9_sumOf 59 = .ok (.getfield 31, 3) := by decide +kernel
theorem dX9_sumOf_62 : decode cX9_sumOf 62 = .ok (.iload 6, 2) := by decide +kernel
theorem dX9_sumOf_64 : decode cX9_sumOf 64 = .ok (.iaload, 1) := by decide +kernel
theorem dX9_sumOf_65 : decode cX9_sumOf 65 = .ok (.aload_n 0, 1) := by decide +kernel
theorem dX9_sumOf_66 : decode cX9_sumOf 66 = .ok (.getfield 31, 3) := by decide +kernel
theorem dX9_sumOf_69 : decode cX9_sumOf 69 = .ok (.iload_n 3, 1) := by decide +kernel
theorem dX9_sumOf_70 : decode cX9_sumOf 70 = .ok (.iaload, 1) := by decide +kernel
theorem dX9_sumOf_71 : decode cX9_sumOf 71 = .ok (.if_icmp .eq 7, 3) := by decide +kernel
theorem dX9_sumOf_74 : decode cX9_sumOf 74 = .ok (.iconst 1, 1) := by decide +kernel
theorem dX9_sumOf_75 : decode cX9_sumOf 75 = .ok (.goto 4, 3) := by decide +kernel
theorem dX9_sumOf_78 : decode cX9_sumOf 78 = .ok (.iconst 0, 1) := by decide +kernel
theorem dX9_sumOf_79 : decode cX9_sumOf 79 = .ok (.istore 5, 2) := by decide +kernel
theorem dX9_sumOf_81 : decode cX9_sumOf 81 = .ok (.iinc 6 1, 3) := by decide +kernel
theorem dX9_sumOf_84 : decode cX9_sumOf 84 = .ok (.goto (-47), 3) := by decide +kernel
theorem dX9_sumOf_87 : decode cX9_sumOf 87 = .ok (.iload_n 1, 1) := by decide +kernel
theorem dX9_sumOf_88 : decode cX9_sumOf 88 = .ok (.iconst 1, 1) := by decide +kernel
theorem dX9_sumOf_89 : decode cX9_sumOf 89 = .ok (.if_icmp .ne 7, 3) := by decide +kernel
theorem dX9_sumOf_92 : decode cX9_sumOf 92 = .ok (.iconst 1, 1) := by decide +kernel
theorem dX9_sumOf_93 : decode cX9_sumOf 93 = .ok (.goto 85, 3) := by decide +kernel
theorem dX9_sumOf_96 : decode cX9_sumOf 96 = .ok (.iload_n 1, 1) := by decide +kernel
theorem dX9_sumOf_97 : decode cX9_sumOf 97 = .ok (.bipush 11, 2) := by decide +kernel
theorem dX9_sumOf_99 : decode cX9_sumOf 99 = .ok (.if_icmp .ne 33, 3) := by decide +kernel
theorem dX9_sumOf_102 : decode cX9_sumOf 102 = .ok (.iload 4, 2) := by decide +kernel
theorem dX9_sumOf_104 : decode cX9_sumOf 104 = .ok (.ifCond .eq 24, 3) := by decide +kernel
theorem dX9_sumOf_107 : decode cX9_sumOf 107 = .ok (.aload_n 0, 1) := by decide +kernel
theorem dX9_sumOf_108 : decode cX9_sumOf 108 = .ok (.aload_n 0, 1) := by decide +kernel
theorem dX9_sumOf_109 : decode cX9_sumOf 109 = .ok (.getfield 31, 3) := by decide +kernel
theorem dX9_sumOf_112 : decode cX9_sumOf 112 = .ok (.iload_n 3, 1) := by decide +kernel
theorem dX9_sumOf_113 : decode cX9_sumOf 113 = .ok (.iaload, 1) := by decide +kernel
theorem dX9_sumOf_114 : decode cX9_sumOf 114 = .ok (.invokevirtual 125, 3) := by decide +kernel
theorem dX9_sumOf_117 : decode cX9_sumOf 117 = .ok (.invokestatic 128, 3) := by decide +kernel
theorem dX9_sumOf_120 : decode cX9_sumOf 120 = .ok (.iconst 1, 1) := by decide +kernel
theorem dX9_sumOf_121 : decode cX9_sumOf 121 = .ok (.if_icmp .ne 7, 3) := by decide +kernel
theorem dX9_sumOf_124 : decode cX9_sumOf 124 = .ok (.iconst 1, 1) := by decide +kernel
theorem dX9_sumOf_125 : decode cX9_sumOf 125 = .ok (.goto 53, 3) := by decide +kernel
theorem dX9_sumOf_128 : decode cX9_sumOf 128 = .ok (.iconst 0, 1) := by decide +kernel
theorem dX9_sumOf_129 : decode cX9_sumOf 129 = .ok (.goto 49, 3) := by decide +kernel
theorem dX9_sumOf_132 : decode cX9_sumOf 132 = .ok (.iload_n 1, 1) := by decide +kernel
theorem dX9_sumOf_133 : decode cX9_sumOf 133 = .ok (.bipush 13, 2) := by decide +kernel
theorem dX9_sumOf_135 : decode cX9_sumOf 135 = .ok (.if_icmp .ne 33, 3) := by decide +kernel
theorem dX9_sumOf_138 : decode cX9_sumOf 138 = .ok (.iload 4, 2) := by decide +kernel
theorem dX9_sumOf_140 : decode cX9_sumOf 140 = .ok (.ifCond .eq 24, 3) := by decide +kernel
theorem dX9_sumOf_143 : decode cX9_sumOf 143 = .ok (.aload_n 0, 1) := by decide +kernel
theorem dX9_sumOf_144 : decode cX9_sumOf 144 = .ok (.getfield 31, 3) := by decide +kernel
theorem dX9_sumOf_147 : decode cX9_sumOf 147 = .ok (.iload_n 3, 1) := by decide +kernel
theorem dX9_sumOf_148 : decode cX9_sumOf 148 = .ok (.iaload, 1) := by decide +kernel
theorem dX9_sumOf_149 : decode cX9_sumOf 149 = .ok (.aload_n 0, 1) := by decide +kernel
theorem dX9_sumOf_150 : decode cX9_sumOf 150 = .ok (.getfield 19, 3) := by decide +kernel
theorem dX9_sumOf_153 : decode cX9_sumOf 153 = .ok (.aload_n 0, 1) := by decide +kernel
theorem dX9_sumOf_154 : decode cX9_sumOf 154 = .ok (.getfield 28, 3) := by decide +kernel
theorem dX9_sumOf_157 : decode cX9_sumOf 157 = .ok (.iload_n 3, 1) := by decide +kernel
theorem dX9_sumOf_158 : decode cX9_sumOf 158 = .ok (.iaload, 1) := by decide +kernel
theorem dX9_sumOf_159 : decode cX9_sumOf 159 = .ok (.iaload, 1) := by decide +kernel
theorem dX9_sumOf_160 : decode cX9_sumOf 160 = .ok (.isub, 1) := by decide +kernel
theorem dX9_sumOf_161 : decode cX9_sumOf 161 = .ok (.goto 17, 3) := by decide +kernel
theorem dX9_sumOf_164 : decode cX9_sumOf 164 = .ok (.iconst 0, 1) := by decide +kernel
theorem dX9_sumOf_165 : decode cX9_sumOf 165 = .ok (.goto 13, 3) := by decide +kernel
theorem dX9_sumOf_168 : decode cX9_sumOf 168 = .ok (.iload 5, 2) := by decide +kernel
theorem dX9_sumOf_170 : decode cX9_sumOf 170 = .ok (.ifCond .eq 7, 3) := by decide +kernel
theorem dX9_sumOf_173 : decode cX9_sumOf 173 = .ok (.iconst 1, 1) := by decide +kernel
theorem dX9_sumOf_174 : decode cX9_sumOf 174 = .ok (.goto 4, 3) := by decide +kernel
theorem dX9_sumOf_177 : decode cX9_sumOf 177 = .ok (.iconst 0, 1) := by decide +kernel
theorem dX9_sumOf_178 : decode cX9_sumOf 178 = .ok (.istore 6, 2) := by decide +kernel
theorem dX9_sumOf_180 : decode cX9_sumOf 180 = .ok (.iload_n 2, 1) := by decide +kernel
theorem dX9_sumOf_181 : decode cX9_sumOf 181 = .ok (.iload_n 1, 1) := by decide +kernel
theorem dX9_sumOf_182 : decode cX9_sumOf 182 = .ok (.bipush 12, 2) := by decide +kernel
theorem dX9_sumOf_184 : decode cX9_sumOf 184 = .ok (.if_icmp .ne 12, 3) := by decide +kernel
theorem dX9_sumOf_187 : decode cX9_sumOf 187 = .ok (.aload_n 0, 1) := by decide +kernel
theorem dX9_sumOf_188 : decode cX9_sumOf 188 = .ok (.getfield 31, 3) := by decide +kernel
theorem dX9_sumOf_191 : decode cX9_sumOf 191 = .ok (.iload_n 3, 1) := by decide +kernel
theorem dX9_sumOf_192 : decode cX9_sumOf 192 = .ok (.iaload, 1) := by decide +kernel
theorem dX9_sumOf_193 : decode cX9_sumOf 193 = .ok (.goto 14, 3) := by decide +kernel
theorem dX9_sumOf_196 : decode cX9_sumOf 196 = .ok (.iload 4, 2) := by decide +kernel
theorem dX9_sumOf_198 : decode cX9_sumOf 198 = .ok (.ifCond .eq 8, 3) := by decide +kernel
theorem dX9_sumOf_201 : decode cX9_sumOf 201 = .ok (.iload 6, 2) := by decide +kernel
theorem dX9_sumOf_203 : decode cX9_sumOf 203 = .ok (.goto 4, 3) := by decide +kernel
theorem dX9_sumOf_206 : decode cX9_sumOf 206 = .ok (.iconst 0, 1) := by decide +kernel
theorem dX9_sumOf_207 : decode cX9_sumOf 207 = .ok (.iadd, 1) := by decide +kernel
theorem dX9_sumOf_208 : decode cX9_sumOf 208 = .ok (.istore_n 2, 1) := by decide +kernel
theorem dX9_sumOf_209 : decode cX9_sumOf 209 = .ok (.iinc 3 1, 3) := by decide +kernel
theorem dX9_sumOf_212 : decode cX9_sumOf 212 = .ok (.goto (-208), 3) := by decide +kernel
theorem dX9_sumOf_215 : decode cX9_sumOf 215 = .ok (.iload_n 2, 1) := by decide +kernel
theorem dX9_sumOf_216 : decode cX9_sumOf 216 = .ok (.ireturn, 1) := by decide +kernel
set_option maxRecDepth 20000 in
theorem ggX9_count_X9_in : GoodIn wsX9_count wsX9_in := goodIn_r _ [9] (by decide +kernel) (by decide +kernel)
set_option maxRecDepth 20000 in
theorem gX9_count_X9_in : GoodIn wsX9_count (va_wsS RX9 44 yX9_in wsX9_in) := goodIn_app (goodIn_of _ (by decide +kernel)) ggX9_count_X9_in
set_option maxRecDepth 20000 in
theorem ggX9_count_X9_laysNow : GoodIn wsX9_count wsX9_laysNow := goodIn_r _ [13, 1, 14, 15, 16, 8, 17, 2, 18, 3, 19, 20, 21, 22, 23, 24, 25, 26, 27, 28, 29, 30, 31, 32, 33, 34, 35, 36, 37, 38, 39, 40, 41, 42, 43, 44, 45, 46, 47, 48, 49, 50, 51, 52, 53, 54, 55, 56, 57, 58, 59, 60, 72, 73, 74, 75, 76, 77, 78, 79, 80, 81, 82, 83, 84, 85, 86] (by decide +kernel) (by decide +kernel)
set_option maxRecDepth 20000 in
theorem gX9_count_X9_laysNow : GoodIn wsX9_count (wsV RX9 131 RX9 yX9_laysNow wsX9_laysNow) := goodIn_app (goodIn_of _ (by decide +kernel)) ggX9_count_X9_laysNow
set_option maxRecDepth 20000 in
theorem ggX9_count_X9_sumOf : GoodIn wsX9_count wsX9_sumOf := goodIn_r _ [64, 1, 18, 19, 27, 65, 66, 67, 8, 68, 3, 20, 29, 30, 31, 32, 69, 70, 71, 72, 73, 74, 75, 76, 77, 78, 79, 80, 81, 82, 83, 84, 85, 86] (by decide +kernel) (by decide +kernel)
set_option maxRecDepth 20000 in
theorem gX9_count_X9_sumOf : GoodIn wsX9_count (wsV RX9 134 RX9 yX9_sumOf wsX9_sumOf) := goodIn_app (goodIn_of _ (by decide +kernel)) ggX9_count_X9_sumOf
theorem dX9_count_0 : decode cX9_count 0 = .ok (.iload_n 1, 1) := by decide +kernel
theorem dX9_count_1 : decode cX9_count 1 = .ok (.iconst 0, 1) := by decide +kernel
theorem dX9_count_2 : decode cX9_count 2 = .ok (.bipush 16, 2) := by decide +kernel
theorem dX9_count_4 : decode cX9_count 4 = .ok (.invokestatic 44, 3) := by decide +kernel
theorem dX9_count_7 : decode cX9_count 7 = .ok (.ifCond .ne 6, 3) := by decide +kernel
theorem dX9_count_10 : decode cX9_count 10 = .ok (.bipush (-11), 2) := by decide +kernel
theorem dX9_count_12 : decode cX9_count 12 = .ok (.ireturn, 1) := by decide +kernel
theorem dX9_count_13 : decode cX9_count 13 = .ok (.aload_n 0, 1) := by decide +kernel
theorem dX9_count_14 : decode cX9_count 14 = .ok (.invokevirtual 131, 3) := by decide +kernel
theorem dX9_count_17 : decode cX9_count 17 = .ok (.iload_n 1, 1) := by decide +kernel
theorem dX9_count_18 : decode cX9_count 18 = .ok (.tableswitch 132 0 16 #[82, 132, 89, 94, 94, 105, 110, 110, 110, 110, 110, 132, 132, 132, 132, 122, 127], 82) := by decide +kernel
theorem dX9_count_100 : decode cX9_count 100 = .ok (.aload_n 0, 1) := by decide +kernel
theorem dX9_count_101 : decode cX9_count 101 = .ok (.getfield 7, 3) := by decide +kernel
theorem dX9_count_104 : decode cX9_count 104 = .ok (.iconst 0, 1) := by decide +kernel
theorem dX9_count_105 : decode cX9_count 105 = .ok (.iaload, 1) := by decide +kernel
theorem dX9_count_106 : decode cX9_count 106 = .ok (.ireturn, 1) := by decide +kernel
theorem dX9_count_107 : decode cX9_count 107 = .ok (.aload_n 0, 1) := by decide +kernel
theorem dX9_count_108 : decode cX9_count 108 = .ok (.getfield 116, 3) := by decide +kernel
theorem dX9_count_111 : decode cX9_count 111 = .ok (.ireturn, 1) := by decide +kernel
theorem dX9_count_112 : decode cX9_count 112 = .ok (.aload_n 0, 1) := by decide +kernel
theorem dX9_count_113 : decode cX9_count 113 = .ok (.getfield 7, 3) := by decide +kernel
theorem dX9_count_116 : decode cX9_count 116 = .ok (.iconst 1, 1) := by decide +kernel
theorem dX9_count_117 : decode cX9_count 117 = .ok (.iload_n 1, 1) := by decide +kernel
theorem dX9_count_118 : decode cX9_count 118 = .ok (.iadd, 1) := by decide +kernel
theorem dX9_count_119 : decode cX9_count 119 = .ok (.iconst 3, 1) := by decide +kernel
theorem dX9_count_120 : decode cX9_count 120 = .ok (.isub, 1) := by decide +kernel
theorem dX9_count_121 : decode cX9_count 121 = .ok (.iaload, 1) := by decide +kernel
theorem dX9_count_122 : decode cX9_count 122 = .ok (.ireturn, 1) := by decide +kernel
theorem dX9_count_123 : decode cX9_count 123 = .ok (.aload_n 0, 1) := by decide +kernel
theorem dX9_count_124 : decode cX9_count 124 = .ok (.getfield 93, 3) := by decide +kernel
theorem dX9_count_127 : decode cX9_count 127 = .ok (.ireturn, 1) := by decide +kernel
theorem dX9_count_128 : decode cX9_count 128 = .ok (.aload_n 0, 1) := by decide +kernel
theorem dX9_count_129 : decode cX9_count 129 = .ok (.getfield 7, 3) := by decide +kernel
theorem dX9_count_132 : decode cX9_count 132 = .ok (.iconst 3, 1) := by decide +kernel
theorem dX9_count_133 : decode cX9_count 133 = .ok (.iload_n 1, 1) := by decide +kernel
theorem dX9_count_134 : decode cX9_count 134 = .ok (.iadd, 1) := by decide +kernel
theorem dX9_count_135 : decode cX9_count 135 = .ok (.bipush 6, 2) := by decide +kernel
theorem dX9_count_137 : decode cX9_count 137 = .ok (.isub, 1) := by decide +kernel
theorem dX9_count_138 : decode cX9_count 138 = .ok (.iaload, 1) := by decide +kernel
theorem dX9_count_139 : decode cX9_count 139 = .ok (.ireturn, 1) := by decide +kernel
theorem dX9_count_140 : decode cX9_count 140 = .ok (.aload_n 0, 1) := by decide +kernel
theorem dX9_count_141 : decode cX9_count 141 = .ok (.getfield 40, 3) := by decide +kernel
theorem dX9_count_144 : decode cX9_count 144 = .ok (.ireturn, 1) := by decide +kernel
theorem dX9_count_145 : decode cX9_count 145 = .ok (.aload_n 0, 1) := by decide +kernel
theorem dX9_count_146 : decode cX9_count 146 = .ok (.getfield 48, 3) := by decide +kernel
theorem dX9_count_149 : decode cX9_count 149 = .ok (.ireturn, 1) := by decide +kernel
theorem dX9_count_150 : decode cX9_count 150 = .ok (.aload_n 0, 1) := by decide +kernel
theorem dX9_count_151 : decode cX9_count 151 = .ok (.iload_n 1, 1) := by decide +kernel
theorem dX9_count_152 : decode cX9_count 152 = .ok (.invokevirtual 134, 3) := by decide +kernel
theorem dX9_count_155 : decode cX9_count 155 = .ok (.ireturn, 1) := by decide +kernel
theorem dX9_isWord_0 : decode cX9_isWord 0 = .ok (.iload_n 1, 1) := by decide +kernel
theorem dX9_isWord_1 : decode cX9_isWord 1 = .ok (.ifCond .lt 17, 3) := by decide +kernel
theorem dX9_isWord_4 : decode cX9_isWord 4 = .ok (.iload_n 1, 1) := by decide +kernel
theorem dX9_isWord_5 : decode cX9_isWord 5 = .ok (.aload_n 0, 1) := by decide +kernel
theorem dX9_isWord_6 : decode cX9_isWord 6 = .ok (.getfield 7, 3) := by decide +kernel
theorem dX9_isWord_9 : decode cX9_isWord 9 = .ok (.iconst 0, 1) := by decide +kernel
theorem dX9_isWord_10 : decode cX9_isWord 10 = .ok (.iaload, 1) := by decide +kernel
theorem dX9_isWord_11 : decode cX9_isWord 11 = .ok (.if_icmp .ge 7, 3) := by decide +kernel
theorem dX9_isWord_14 : decode cX9_isWord 14 = .ok (.iconst 1, 1) := by decide +kernel
theorem dX9_isWord_15 : decode cX9_isWord 15 = .ok (.goto 4, 3) := by decide +kernel
theorem dX9_isWord_18 : decode cX9_isWord 18 = .ok (.iconst 0, 1) := by decide +kernel
theorem dX9_isWord_19 : decode cX9_isWord 19 = .ok (.ireturn, 1) := by decide +kernel
set_option maxRecDepth 20000 in
theorem ggX9_hiddenOf_X9_namesUnder : GoodIn wsX9_hiddenOf wsX9_namesUnder := goodIn_r _ [7, 8, 9, 10, 11, 12, 6, 13, 14, 18, 19, 20, 21, 22, 23, 24, 25, 26, 27, 28, 29, 30, 31, 32] (by decide +kernel) (by decide +kernel)
set_option maxRecDepth 20000 in
theorem gX9_hiddenOf_X9_namesUnder : GoodIn wsX9_hiddenOf (wsV RX9 125 RX9 yX9_namesUnder wsX9_namesUnder) := goodIn_app (goodIn_of _ (by decide +kernel)) ggX9_hiddenOf_X9_namesUnder
set_option maxRecDepth 20000 in
theorem ggX9_hiddenOf_X9_each : GoodIn wsX9_hiddenOf wsX9_each := goodIn_r _ [13, 14, 18, 19, 20, 21, 22, 23, 24, 25, 26, 27, 28, 29, 30, 31, 32] (by decide +kernel) (by decide +kernel)
set_option maxRecDepth 20000 in
theorem gX9_hiddenOf_X9_each : GoodIn wsX9_hiddenOf (wsV RX9 86 RX9 yX9_each wsX9_each) := goodIn_app (goodIn_of _ (by decide +kernel)) ggX9_hiddenOf_X9_each
set_option maxRecDepth 20000 in
theorem ggX9_hiddenOf_X9_bits : GoodIn wsX9_hiddenOf wsX9_bits := goodIn_r _ [17] (by decide +kernel) (by decide +kernel)
set_option maxRecDepth 20000 in
theorem gX9_hiddenOf_X9_bits : GoodIn wsX9_hiddenOf (va_wsS RX9 128 yX9_bits wsX9_bits) := goodIn_app (goodIn_of _ (by decide +kernel)) ggX9_hiddenOf_X9_bits
theorem dX9_hiddenOf_0 : decode cX9_hiddenOf 0 = .ok (.aload_n 0, 1) := by decide +kernel
theorem dX9_hiddenOf_1 : decode cX9_hiddenOf 1 = .ok (.getfield 28, 3) := by decide +kernel
theorem dX9_hiddenOf_4 : decode cX9_hiddenOf 4 = .ok (.iload_n 1, 1) := by decide +kernel
theorem dX9_hiddenOf_5 : decode cX9_hiddenOf 5 = .ok (.iaload, 1) := by decide +kernel
theorem dX9_hiddenOf_6 : decode cX9_hiddenOf 6 = .ok (.ifCond .ge 6, 3) := by decide +kernel
theorem dX9_hiddenOf_9 : decode cX9_hiddenOf 9 = .ok (.bipush (-14), 2) := by decide +kernel
theorem dX9_hiddenOf_11 : decode cX9_hiddenOf 11 = .ok (.ireturn, 1) := by decide +kernel
theorem dX9_hiddenOf_12 : decode cX9_hiddenOf 12 = .ok (.aload_n 0, 1) := by decide +kernel
theorem dX9_hiddenOf_13 : decode cX9_hiddenOf 13 = .ok (.aload_n 0, 1) := by decide +kernel
theorem dX9_hiddenOf_14 : decode cX9_hiddenOf 14 = .ok (.getfield 31, 3) := by decide +kernel
theorem dX9_hiddenOf_17 : decode cX9_hiddenOf 17 = .ok (.iload_n 1, 1) := by decide +kernel
theorem dX9_hiddenOf_18 : decode cX9_hiddenOf 18 = .ok (.iaload, 1) := by decide +kernel
theorem dX9_hiddenOf_19 : decode cX9_hiddenOf 19 = .ok (.invokevirtual 125, 3) := by decide +kernel
theorem dX9_hiddenOf_22 : decode cX9_hiddenOf 22 = .ok (.istore_n 3, 1) := by decide +kernel
theorem dX9_hiddenOf_23 : decode cX9_hiddenOf 23 = .ok (.iload_n 2, 1) := by decide +kernel
theorem dX9_hiddenOf_24 : decode cX9_hiddenOf 24 = .ok (.iconst 4, 1) := by decide +kernel
theorem dX9_hiddenOf_25 : decode cX9_hiddenOf 25 = .ok (.if_icmp .ne 17, 3) := by decide +kernel
theorem dX9_hiddenOf_28 : decode cX9_hiddenOf 28 = .ok (.aload_n 0, 1) := by decide +kernel
theorem dX9_hiddenOf_29 : decode cX9_hiddenOf 29 = .ok (.getfield 28, 3) := by decide +kernel
theorem dX9_hiddenOf_32 : decode cX9_hiddenOf 32 = .ok (.iload_n 1, 1) := by decide +kernel
theorem dX9_hiddenOf_33 : decode cX9_hiddenOf 33 = .ok (.iaload, 1) := by decide +kernel
theorem dX9_hiddenOf_34 : decode cX9_hiddenOf 34 = .ok (.aload_n 0, 1) := by decide +kernel
theorem dX9_hiddenOf_35 : decode cX9_hiddenOf 35 = .ok (.invokevirtual 86, 3) := by decide +kernel
theorem dX9_hiddenOf_38 : decode cX9_hiddenOf 38 = .ok (.idiv, 1) := by decide +kernel
theorem dX9_hiddenOf_39 : decode cX9_hiddenOf 39 = .ok (.goto 38, 3) := by decide +kernel
theorem dX9_hiddenOf_42 : decode cX9_hiddenOf 42 = .ok (.iload_n 2, 1) := by decide +kernel
theorem dX9_hiddenOf_43 : decode cX9_hiddenOf 43 = .ok (.iconst 5, 1) := by decide +kernel
theorem dX9_hiddenOf_44 : decode cX9_hiddenOf 44 = .ok (.if_icmp .ne 19, 3) := by decide +kernel
theorem dX9_hiddenOf_47 : decode cX9_hiddenOf 47 = .ok (.aload_n 0, 1) := by decide +kernel
theorem dX9_hiddenOf_48 : decode cX9_hiddenOf 48 = .ok (.getfield 28, 3) := by decide +kernel
theorem dX9_hiddenOf_51 : decode cX9_hiddenOf 51 = .ok (.iload_n 1, 1) := by decide +kernel
theorem dX9_hiddenOf_52 : decode cX9_hiddenOf 52 = .ok (.iaload, 1) := by decide +kernel
theorem dX9_hiddenOf_53 : decode cX9_hiddenOf 53 = .ok (.aload_n 0, 1) := by decide +kernel
theorem dX9_hiddenOf_54 : decode cX9_hiddenOf 54 = .ok (.invokevirtual 86, 3) := by decide +kernel
theorem dX9_hiddenOf_57 : decode cX9_hiddenOf 57 = .ok (.irem, 1) := by decide +kernel
theorem dX9_hiddenOf_58 : decode cX9_hiddenOf 58 = .ok (.iconst 1, 1) := by decide +kernel
theorem dX9_hiddenOf_59 : decode cX9_hiddenOf 59 = .ok (.isub, 1) := by decide +kernel
theorem dX9_hiddenOf_60 : decode cX9_hiddenOf 60 = .ok (.goto 17, 3) := by decide +kernel
theorem dX9_hiddenOf_63 : decode cX9_hiddenOf 63 = .ok (.iload_n 2, 1) := by decide +kernel
theorem dX9_hiddenOf_64 : decode cX9_hiddenOf 64 = .ok (.bipush 8, 2) := by decide +kernel
theorem dX9_hiddenOf_66 : decode cX9_hiddenOf 66 = .ok (.if_icmp .ne 7, 3) := by decide +kernel
theorem dX9_hiddenOf_69 : decode cX9_hiddenOf 69 = .ok (.iload_n 3, 1) := by decide +kernel
theorem dX9_hiddenOf_70 : decode cX9_hiddenOf 70 = .ok (.goto 7, 3) := by decide +kernel
theorem dX9_hiddenOf_73 : decode cX9_hiddenOf 73 = .ok (.iload_n 3, 1) := by decide +kernel
theorem dX9_hiddenOf_74 : decode cX9_hiddenOf 74 = .ok (.invokestatic 128, 3) := by decide +kernel
theorem dX9_hiddenOf_77 : decode cX9_hiddenOf 77 = .ok (.ireturn, 1) := by decide +kernel
set_option maxRecDepth 20000 in
theorem ggX9_word_X9_isWord : GoodIn wsX9_word wsX9_isWord := goodIn_r _ [10, 1, 74, 75, 76, 77, 78, 79, 80, 81, 82, 83, 84, 85, 86, 87, 88] (by decide +kernel) (by decide +kernel)
set_option maxRecDepth 20000 in
theorem gX9_word_X9_isWord : GoodIn wsX9_word (wsV RX9 137 RX9 yX9_isWord wsX9_isWord) := goodIn_app (goodIn_of _ (by decide +kernel)) ggX9_word_X9_isWord
set_option maxRecDepth 20000 in
theorem ggX9_word_X9_in : GoodIn wsX9_word wsX9_in := goodIn_r _ [13] (by decide +kernel) (by decide +kernel)
set_option maxRecDepth 20000 in
theorem gX9_word_X9_in : GoodIn wsX9_word (va_wsS RX9 44 yX9_in wsX9_in) := goodIn_app (goodIn_of _ (by decide +kernel)) ggX9_word_X9_in
set_option maxRecDepth 20000 in
theorem ggX9_word_X9_laysNow : GoodIn wsX9_word wsX9_laysNow := goodIn_r _ [17, 1, 18, 19, 20, 9, 21, 22, 3, 23, 2, 24, 4, 5, 25, 26, 27, 28, 29, 30, 31, 32, 33, 34, 35, 36, 37, 38, 39, 40, 41, 42, 43, 44, 45, 46, 47, 48, 49, 50, 51, 52, 53, 54, 55, 56, 57, 58, 59, 60, 61, 62, 74, 75, 76, 77, 78, 79, 80, 81, 82, 83, 84, 85, 86, 87, 88] (by decide +kernel) (by decide +kernel)
set_option maxRecDepth 20000 in
theorem gX9_word_X9_laysNow : GoodIn wsX9_word (wsV RX9 131 RX9 yX9_laysNow wsX9_laysNow) := goodIn_app (goodIn_of _ (by decide +kernel)) ggX9_word_X9_laysNow
set_option maxRecDepth 20000 in
theorem ggX9_word_X9_widthAt : GoodIn wsX9_word wsX9_widthAt := goodIn_r _ [38, 1, 74, 75, 76, 77, 78, 79, 80, 81, 82, 83, 84, 85, 86, 87, 88] (by decide +kernel) (by decide +kernel)
set_option maxRecDepth 20000 in
theorem gX9_word_X9_widthAt : GoodIn wsX9_word (wsV RX9 96 RX9 yX9_widthAt wsX9_widthAt) := goodIn_app (goodIn_of _ (by decide +kernel)) ggX9_word_X9_widthAt
set_option maxRecDepth 20000 in
theorem ggX9_word_X9_hiddenOf : GoodIn wsX9_word wsX9_hiddenOf := goodIn_r _ [66, 3, 2, 67, 68, 69, 9, 70, 23, 24, 31, 32, 33, 34, 1, 71, 72, 73, 74, 75, 76, 77, 78, 79, 80, 81, 82, 83, 84, 85, 86, 87, 88] (by decide +kernel) (by decide +kernel)
set_option maxRecDepth 20000 in
theorem gX9_word_X9_hiddenOf : GoodIn wsX9_word (wsV RX9 140 RX9 yX9_hiddenOf wsX9_hiddenOf) := goodIn_app (goodIn_of _ (by decide +kernel)) ggX9_word_X9_hiddenOf
theorem dX9_word_0 : decode cX9_word 0 = .ok (.aload_n 0, 1) := by decide +kernel
theorem dX9_word_1 : decode cX9_word 1 = .ok (.iload_n 1, 1) := by decide +kernel
theorem dX9_word_2 : decode cX9_word 2 = .ok (.invokevirtual 137, 3) := by decide +kernel
theorem dX9_word_5 : decode cX9_word 5 = .ok (.ifCond .eq 13, 3) := by decide +kernel
theorem dX9_word_8 : decode cX9_word 8 = .ok (.iload_n 2, 1) := by decide +kernel
theorem dX9_word_9 : decode cX9_word 9 = .ok (.iconst 0, 1) := by decide +kernel
theorem dX9_word_10 : decode cX9_word 10 = .ok (.bipush 9, 2) := by decide +kernel
theorem dX9_word_12 : decode cX9_word 12 = .ok (.invokestatic 44, 3) := by decide +kernel
theorem dX9_word_15 : decode cX9_word 15 = .ok (.ifCond .ne 6, 3) := by decide +kernel
theorem dX9_word_18 : decode cX9_word 18 = .ok (.bipush (-11), 2) := by decide +kernel
theorem dX9_word_20 : decode cX9_word 20 = .ok (.ireturn, 1) := by decide +kernel
theorem dX9_word_21 : decode cX9_word 21 = .ok (.aload_n 0, 1) := by decide +kernel
theorem dX9_word_22 : decode cX9_word 22 = .ok (.invokevirtual 131, 3) := by decide +kernel
theorem dX9_word_25 : decode cX9_word 25 = .ok (.iload_n 2, 1) := by decide +kernel
theorem dX9_word_26 : decode cX9_word 26 = .ok (.tableswitch 107 0 7 #[46, 59, 71, 78, 107, 107, 93, 100], 46) := by decide +kernel
theorem dX9_word_72 : decode cX9_word 72 = .ok (.aload_n 0, 1) := by decide +kernel
theorem dX9_word_73 : decode cX9_word 73 = .ok (.getfield 7, 3) := by decide +kernel
theorem dX9_word_76 : decode cX9_word 76 = .ok (.bipush 34, 2) := by decide +kernel
theorem dX9_word_78 : decode cX9_word 78 = .ok (.bipush 13, 2) := by decide +kernel
theorem dX9_word_80 : decode cX9_word 80 = .ok (.iload_n 1, 1) := by decide +kernel
theorem dX9_word_81 : decode cX9_word 81 = .ok (.imul, 1) := by decide +kernel
theorem dX9_word_82 : decode cX9_word 82 = .ok (.iadd, 1) := by decide +kernel
theorem dX9_word_83 : decode cX9_word 83 = .ok (.iaload, 1) := by decide +kernel
theorem dX9_word_84 : decode cX9_word 84 = .ok (.ireturn, 1) := by decide +kernel
theorem dX9_word_85 : decode cX9_word 85 = .ok (.aload_n 0, 1) := by decide +kernel
theorem dX9_word_86 : decode cX9_word 86 = .ok (.bipush 34, 2) := by decide +kernel
theorem dX9_word_88 : decode cX9_word 88 = .ok (.bipush 13, 2) := by decide +kernel
theorem dX9_word_90 : decode cX9_word 90 = .ok (.iload_n 1, 1) := by decide +kernel
theorem dX9_word_91 : decode cX9_word 91 = .ok (.imul, 1) := by decide +kernel
theorem dX9_word_92 : decode cX9_word 92 = .ok (.iadd, 1) := by decide +kernel
theorem dX9_word_93 : decode cX9_word 93 = .ok (.invokevirtual 96, 3) := by decide +kernel
theorem dX9_word_96 : decode cX9_word 96 = .ok (.ireturn, 1) := by decide +kernel
theorem dX9_word_97 : decode cX9_word 97 = .ok (.aload_n 0, 1) := by decide +kernel
theorem dX9_word_98 : decode cX9_word 98 = .ok (.getfield 31, 3) := by decide +kernel
theorem dX9_word_101 : decode cX9_word 101 = .ok (.iload_n 1, 1) := by decide +kernel
theorem dX9_word_102 : decode cX9_word 102 = .ok (.iaload, 1) := by decide +kernel
theorem dX9_word_103 : decode cX9_word 103 = .ok (.ireturn, 1) := by decide +kernel
theorem dX9_word_104 : decode cX9_word 104 = .ok (.aload_n 0, 1) := by decide +kernel
theorem dX9_word_105 : decode cX9_word 105 = .ok (.getfield 28, 3) := by decide +kernel
theorem dX9_word_108 : decode cX9_word 108 = .ok (.iload_n 1, 1) := by decide +kernel
theorem dX9_word_109 : decode cX9_word 109 = .ok (.iaload, 1) := by decide +kernel
theorem dX9_word_110 : decode cX9_word 110 = .ok (.ifCond .ge 7, 3) := by decide +kernel
theorem dX9_word_113 : decode cX9_word 113 = .ok (.iconst 0, 1) := by decide +kernel
theorem dX9_word_114 : decode cX9_word 114 = .ok (.goto 4, 3) := by decide +kernel
theorem dX9_word_117 : decode cX9_word 117 = .ok (.iconst 1, 1) := by decide +kernel
theorem dX9_word_118 : decode cX9_word 118 = .ok (.ireturn, 1) := by decide +kernel
theorem dX9_word_119 : decode cX9_word 119 = .ok (.aload_n 0, 1) := by decide +kernel
theorem dX9_word_120 : decode cX9_word 120 = .ok (.getfield 34, 3) := by decide +kernel
theorem dX9_word_123 : decode cX9_word 123 = .ok (.iload_n 1, 1) := by decide +kernel
theorem dX9_word_124 : decode cX9_word 124 = .ok (.iaload, 1) := by decide +kernel
theorem dX9_word_125 : decode cX9_word 125 = .ok (.ireturn, 1) := by decide +kernel
theorem dX9_word_126 : decode cX9_word 126 = .ok (.aload_n 0, 1) := by decide +kernel
theorem dX9_word_127 : decode cX9_word 127 = .ok (.getfield 37, 3) := by decide +kernel
theorem dX9_word_130 : decode cX9_word 130 = .ok (.iload_n 1, 1) := by decide +kernel
theorem dX9_word_131 : decode cX9_word 131 = .ok (.iaload, 1) := by decide +kernel
theorem dX9_word_132 : decode cX9_word 132 = .ok (.ireturn, 1) := by decide +kernel
theorem dX9_word_133 : decode cX9_word 133 = .ok (.aload_n 0, 1) := by decide +kernel
theorem dX9_word_134 : decode cX9_word 134 = .ok (.iload_n 1, 1) := by decide +kernel
theorem dX9_word_135 : decode cX9_word 135 = .ok (.iload_n 2, 1) := by decide +kernel
theorem dX9_word_136 : decode cX9_word 136 = .ok (.invokevirtual 140, 3) := by decide +kernel
theorem dX9_word_139 : decode cX9_word 139 = .ok (.ireturn, 1) := by decide +kernel
set_option maxRecDepth 20000 in
theorem ggX9_letter_X9_isWord : GoodIn wsX9_letter wsX9_isWord := goodIn_r _ [7, 2, 60, 61, 62, 63, 64, 65, 66, 67, 68, 69, 70, 71, 72, 73, 74] (by decide +kernel) (by decide +kernel)
set_option maxRecDepth 20000 in
theorem gX9_letter_X9_isWord : GoodIn wsX9_letter (wsV RX9 137 RX9 yX9_isWord wsX9_isWord) := goodIn_app (goodIn_of _ (by decide +kernel)) ggX9_letter_X9_isWord
set_option maxRecDepth 20000 in
theorem ggX9_letter_X9_laysNow : GoodIn wsX9_letter wsX9_laysNow := goodIn_r _ [11, 2, 12, 13, 14, 6, 15, 16, 1, 17, 18, 19, 20, 21, 22, 23, 24, 25, 26, 27, 28, 29, 30, 31, 32, 33, 34, 35, 36, 37, 38, 39, 40, 41, 42, 43, 44, 45, 46, 47, 48, 49, 50, 51, 52, 53, 54, 55, 56, 57, 58, 59, 60, 61, 62, 63, 64, 65, 66, 67, 68, 69, 70, 71, 72, 73, 74] (by decide +kernel) (by decide +kernel)
set_option maxRecDepth 20000 in
theorem gX9_letter_X9_laysNow : GoodIn wsX9_letter (wsV RX9 131 RX9 yX9_laysNow wsX9_laysNow) := goodIn_app (goodIn_of _ (by decide +kernel)) ggX9_letter_X9_laysNow
theorem dX9_letter_0 : decode cX9_letter 0 = .ok (.aload_n 0, 1) := by decide +kernel
theorem dX9_letter_1 : decode cX9_letter 1 = .ok (.iload_n 1, 1) := by decide +kernel
theorem dX9_letter_2 : decode cX9_letter 2 = .ok (.invokevirtual 137, 3) := by decide +kernel
theorem dX9_letter_5 : decode cX9_letter 5 = .ok (.ifCond .eq 7, 3) := by decide +kernel
theorem dX9_letter_8 : decode cX9_letter 8 = .ok (.iload_n 2, 1) := by decide +kernel
theorem dX9_letter_9 : decode cX9_letter 9 = .ok (.ifCond .ge 6, 3) := by decide +kernel
theorem dX9_letter_12 : decode cX9_letter 12 = .ok (.bipush (-11), 2) := by decide +kernel
theorem dX9_letter_14 : decode cX9_letter 14 = .ok (.ireturn, 1) := by decide +kernel
theorem dX9_letter_15 : decode cX9_letter 15 = .ok (.aload_n 0, 1) := by decide +kernel
theorem dX9_letter_16 : decode cX9_letter 16 = .ok (.invokevirtual 131, 3) := by decide +kernel
theorem dX9_letter_19 : decode cX9_letter 19 = .ok (.aload_n 0, 1) := by decide +kernel
theorem dX9_letter_20 : decode cX9_letter 20 = .ok (.getfield 28, 3) := by decide +kernel
theorem dX9_letter_23 : decode cX9_letter 23 = .ok (.iload_n 1, 1) := by decide +kernel
theorem dX9_letter_24 : decode cX9_letter 24 = .ok (.iaload, 1) := by decide +kernel
theorem dX9_letter_25 : decode cX9_letter 25 = .ok (.ifCond .lt 6, 3) := by decide +kernel
theorem dX9_letter_28 : decode cX9_letter 28 = .ok (.bipush (-12), 2) := by decide +kernel
theorem dX9_letter_30 : decode cX9_letter 30 = .ok (.ireturn, 1) := by decide +kernel
theorem dX9_letter_31 : decode cX9_letter 31 = .ok (.bipush 34, 2) := by decide +kernel
theorem dX9_letter_33 : decode cX9_letter 33 = .ok (.bipush 13, 2) := by decide +kernel
theorem dX9_letter_35 : decode cX9_letter 35 = .ok (.iload_n 1, 1) := by decide +kernel
theorem dX9_letter_36 : decode cX9_letter 36 = .ok (.imul, 1) := by decide +kernel
theorem dX9_letter_37 : decode cX9_letter 37 = .ok (.iadd, 1) := by decide +kernel
theorem dX9_letter_38 : decode cX9_letter 38 = .ok (.istore_n 3, 1) := by decide +kernel
theorem dX9_letter_39 : decode cX9_letter 39 = .ok (.iload_n 2, 1) := by decide +kernel
theorem dX9_letter_40 : decode cX9_letter 40 = .ok (.aload_n 0, 1) := by decide +kernel
theorem dX9_letter_41 : decode cX9_letter 41 = .ok (.getfield 7, 3) := by decide +kernel
theorem dX9_letter_44 : decode cX9_letter 44 = .ok (.iload_n 3, 1) := by decide +kernel
theorem dX9_letter_45 : decode cX9_letter 45 = .ok (.iaload, 1) := by decide +kernel
theorem dX9_letter_46 : decode cX9_letter 46 = .ok (.if_icmp .ge 19, 3) := by decide +kernel
theorem dX9_letter_49 : decode cX9_letter 49 = .ok (.aload_n 0, 1) := by decide +kernel
theorem dX9_letter_50 : decode cX9_letter 50 = .ok (.getfield 7, 3) := by decide +kernel
theorem dX9_letter_53 : decode cX9_letter 53 = .ok (.iload_n 3, 1) := by decide +kernel
theorem dX9_letter_54 : decode cX9_letter 54 = .ok (.iconst 1, 1) := by decide +kernel
theorem dX9_letter_55 : decode cX9_letter 55 = .ok (.iadd, 1) := by decide +kernel
theorem dX9_letter_56 : decode cX9_letter 56 = .ok (.iload_n 2, 1) := by decide +kernel
theorem dX9_letter_57 : decode cX9_letter 57 = .ok (.iadd, 1) := by decide +kernel
theorem dX9_letter_58 : decode cX9_letter 58 = .ok (.iaload, 1) := by decide +kernel
theorem dX9_letter_59 : decode cX9_letter 59 = .ok (.bipush 97, 2) := by decide +kernel
theorem dX9_letter_61 : decode cX9_letter 61 = .ok (.iadd, 1) := by decide +kernel
theorem dX9_letter_62 : decode cX9_letter 62 = .ok (.goto 5, 3) := by decide +kernel
theorem dX9_letter_65 : decode cX9_letter 65 = .ok (.bipush (-14), 2) := by decide +kernel
theorem dX9_letter_67 : decode cX9_letter 67 = .ok (.ireturn, 1) := by decide +kernel
theorem dX9_lineSum_0 : decode cX9_lineSum 0 = .ok (.bipush (-14), 2) := by decide +kernel
theorem dX9_lineSum_2 : decode cX9_lineSum 2 = .ok (.istore_n 3, 1) := by decide +kernel
theorem dX9_lineSum_3 : decode cX9_lineSum 3 = .ok (.iconst 0, 1) := by decide +kernel
theorem dX9_lineSum_4 : decode cX9_lineSum 4 = .ok (.istore 4, 2) := by decide +kernel
theorem dX9_lineSum_6 : decode cX9_lineSum 6 = .ok (.iconst 0, 1) := by decide +kernel
theorem dX9_lineSum_7 : decode cX9_lineSum 7 = .ok (.istore 5, 2) := by decide +kernel
theorem dX9_lineSum_9 : decode cX9_lineSum 9 = .ok (.iload 5, 2) := by decide +kernel
theorem dX9_lineSum_11 : decode cX9_lineSum 11 = .ok (.aload_n 0, 1) := by decide +kernel
theorem dX9_lineSum_12 : decode cX9_lineSum 12 = .ok (.getfield 7, 3) := by decide +kernel
theorem dX9_lineSum_15 : decode cX9_lineSum 15 = .ok (.iconst 0, 1) := by decide +kernel
theorem dX9_lineSum_16 : decode cX9_lineSum 16 = .ok (.iaload, 1) := by decide +kernel
theorem dX9_lineSum_17 : decode cX9_lineSum 17 = .ok (.if_icmp .ge 95, 3) := by decide +kernel
theorem dX9_lineSum_20 : decode cX9_lineSum 20 = .ok (.aload_n 0, 1) := by decide +kernel
theorem dX9_lineSum_21 : decode cX9_lineSum 21 = .ok (.getfield 34, 3) := by decide +kernel
theorem dX9_lineSum_24 : decode cX9_lineSum 24 = .ok (.iload 5, 2) := by decide +kernel
theorem dX9_lineSum_26 : decode cX9_lineSum 26 = .ok (.iaload, 1) := by decide +kernel
theorem dX9_lineSum_27 : decode cX9_lineSum 27 = .ok (.iload_n 1, 1) := by decide +kernel
theorem dX9_lineSum_28 : decode cX9_lineSum 28 = .ok (.if_icmp .ne 78, 3) := by decide +kernel
theorem dX9_lineSum_31 : decode cX9_lineSum 31 = .ok (.iload_n 3, 1) := by decide +kernel
theorem dX9_lineSum_32 : decode cX9_lineSum 32 = .ok (.bipush (-14), 2) := by decide +kernel
theorem dX9_lineSum_34 : decode cX9_lineSum 34 = .ok (.if_icmp .ne 7, 3) := by decide +kernel
theorem dX9_lineSum_37 : decode cX9_lineSum 37 = .ok (.iconst 0, 1) := by decide +kernel
theorem dX9_lineSum_38 : decode cX9_lineSum 38 = .ok (.goto 10, 3) := by decide +kernel
theorem dX9_lineSum_41 : decode cX9_lineSum 41 = .ok (.aload_n 0, 1) := by decide +kernel
theorem dX9_lineSum_42 : decode cX9_lineSum 42 = .ok (.getfield 7, 3) := by decide +kernel
theorem dX9_lineSum_45 : decode cX9_lineSum 45 = .ok (.bipush 6, 2) := by decide +kernel
theorem dX9_lineSum_47 : decode cX9_lineSum 47 = .ok (.iaload, 1) := by decide +kernel
theorem dX9_lineSum_48 : decode cX9_lineSum 48 = .ok (.istore 6, 2) := by decide +kernel
theorem dX9_lineSum_50 : decode cX9_lineSum 50 = .ok (.iload_n 3, 1) := by decide +kernel
theorem dX9_lineSum_51 : decode cX9_lineSum 51 = .ok (.bipush (-14), 2) := by decide +kernel
theorem dX9_lineSum_53 : decode cX9_lineSum 53 = .ok (.if_icmp .ne 8, 3) := by decide +kernel
theorem dX9_lineSum_56 : decode cX9_lineSum 56 = .ok (.iload 5, 2) := by decide +kernel
theorem dX9_lineSum_58 : decode cX9_lineSum 58 = .ok (.goto 4, 3) := by decide +kernel
theorem dX9_lineSum_61 : decode cX9_lineSum 61 = .ok (.iload_n 3, 1) := by decide +kernel
theorem dX9_lineSum_62 : decode cX9_lineSum 62 = .ok (.istore_n 3, 1) := by decide +kernel
theorem dX9_lineSum_63 : decode cX9_lineSum 63 = .ok (.iload 4, 2) := by decide +kernel
theorem dX9_lineSum_65 : decode cX9_lineSum 65 = .ok (.iload_n 2, 1) := by decide +kernel
theorem dX9_lineSum_66 : decode cX9_lineSum 66 = .ok (.iconst 2, 1) := by decide +kernel
theorem dX9_lineSum_67 : decode cX9_lineSum 67 = .ok (.if_icmp .ne 16, 3) := by decide +kernel
theorem dX9_lineSum_70 : decode cX9_lineSum 70 = .ok (.aload_n 0, 1) := by decide +kernel
theorem dX9_lineSum_71 : decode cX9_lineSum 71 = .ok (.getfield 31, 3) := by decide +kernel
theorem dX9_lineSum_74 : decode cX9_lineSum 74 = .ok (.iload 5, 2) := by decide +kernel
theorem dX9_lineSum_76 : decode cX9_lineSum 76 = .ok (.iaload, 1) := by decide +kernel
theorem dX9_lineSum_77 : decode cX9_lineSum 77 = .ok (.iload 6, 2) := by decide +kernel
theorem dX9_lineSum_79 : decode cX9_lineSum 79 = .ok (.iadd, 1) := by decide +kernel
theorem dX9_lineSum_80 : decode cX9_lineSum 80 = .ok (.goto 23, 3) := by decide +kernel
theorem dX9_lineSum_83 : decode cX9_lineSum 83 = .ok (.iload_n 2, 1) := by decide +kernel
theorem dX9_lineSum_84 : decode cX9_lineSum 84 = .ok (.iconst 1, 1) := by decide +kernel
theorem dX9_lineSum_85 : decode cX9_lineSum 85 = .ok (.if_icmp .eq 13, 3) := by decide +kernel
theorem dX9_lineSum_88 : decode cX9_lineSum 88 = .ok (.aload_n 0, 1) := by decide +kernel
theorem dX9_lineSum_89 : decode cX9_lineSum 89 = .ok (.getfield 28, 3) := by decide +kernel
theorem dX9_lineSum_92 : decode cX9_lineSum 92 = .ok (.iload 5, 2) := by decide +kernel
theorem dX9_lineSum_94 : decode cX9_lineSum 94 = .ok (.iaload, 1) := by decide +kernel
theorem dX9_lineSum_95 : decode cX9_lineSum 95 = .ok (.ifCond .lt 7, 3) := by decide +kernel
theorem dX9_lineSum_98 : decode cX9_lineSum 98 = .ok (.iconst 1, 1) := by decide +kernel
theorem dX9_lineSum_99 : decode cX9_lineSum 99 = .ok (.goto 4, 3) := by decide +kernel
theorem dX9_lineSum_102 : decode cX9_lineSum 102 = .ok (.iconst 0, 1) := by decide +kernel
theorem dX9_lineSum_103 : decode cX9_lineSum 103 = .ok (.iadd, 1) := by decide +kernel
theorem dX9_lineSum_104 : decode cX9_lineSum 104 = .ok (.istore 4, 2) := by decide +kernel
theorem dX9_lineSum_106 : decode cX9_lineSum 106 = .ok (.iinc 5 1, 3) := by decide +kernel
theorem dX9_lineSum_109 : decode cX9_lineSum 109 = .ok (.goto (-100), 3) := by decide +kernel
theorem dX9_lineSum_112 : decode cX9_lineSum 112 = .ok (.iload_n 2, 1) := by decide +kernel
theorem dX9_lineSum_113 : decode cX9_lineSum 113 = .ok (.ifCond .ne 7, 3) := by decide +kernel
theorem dX9_lineSum_116 : decode cX9_lineSum 116 = .ok (.iload_n 3, 1) := by decide +kernel
theorem dX9_lineSum_117 : decode cX9_lineSum 117 = .ok (.goto 5, 3) := by decide +kernel
theorem dX9_lineSum_120 : decode cX9_lineSum 120 = .ok (.iload 4, 2) := by decide +kernel
theorem dX9_lineSum_122 : decode cX9_lineSum 122 = .ok (.ireturn, 1) := by decide +kernel
set_option maxRecDepth 20000 in
theorem ggX9_line_X9_laysNow : GoodIn wsX9_line wsX9_laysNow := goodIn_r _ [7, 2, 8, 9, 10, 6, 11, 1, 12, 13, 14, 15, 16, 17, 18, 19, 20, 21, 22, 23, 24, 25, 26, 27, 28, 29, 30, 31, 32, 33, 34, 35, 36, 37, 38, 39, 40, 41, 42, 43, 44, 45, 46, 47, 48, 49, 50, 51, 52, 53, 54, 55, 63, 64, 65, 66, 67, 68, 69, 70, 71, 72, 73, 74, 75, 76, 77] (by decide +kernel) (by decide +kernel)
set_option maxRecDepth 20000 in
theorem gX9_line_X9_laysNow : GoodIn wsX9_line (wsV RX9 131 RX9 yX9_laysNow wsX9_laysNow) := goodIn_app (goodIn_of _ (by decide +kernel)) ggX9_line_X9_laysNow
set_option maxRecDepth 20000 in
theorem ggX9_line_X9_in : GoodIn wsX9_line wsX9_in := goodIn_r _ [58] (by decide +kernel) (by decide +kernel)
set_option maxRecDepth 20000 in
theorem gX9_line_X9_in : GoodIn wsX9_line (va_wsS RX9 44 yX9_in wsX9_in) := goodIn_app (goodIn_of _ (by decide +kernel)) ggX9_line_X9_in
set_option maxRecDepth 20000 in
theorem ggX9_line_X9_lineSum : GoodIn wsX9_line wsX9_lineSum := goodIn_r _ [62, 2, 16, 14, 12, 63, 64, 65, 66, 67, 68, 69, 70, 71, 72, 73, 74, 75, 76, 77] (by decide +kernel) (by decide +kernel)
set_option maxRecDepth 20000 in
theorem gX9_line_X9_lineSum : GoodIn wsX9_line (wsV RX9 143 RX9 yX9_lineSum wsX9_lineSum) := goodIn_app (goodIn_of _ (by decide +kernel)) ggX9_line_X9_lineSum
theorem dX9_line_0 : decode cX9_line 0 = .ok (.aload_n 0, 1) := by decide +kernel
theorem dX9_line_1 : decode cX9_line 1 = .ok (.invokevirtual 131, 3) := by decide +kernel
theorem dX9_line_4 : decode cX9_line 4 = .ok (.iload_n 1, 1) := by decide +kernel
theorem dX9_line_5 : decode cX9_line 5 = .ok (.ifCond .lt 20, 3) := by decide +kernel
theorem dX9_line_8 : decode cX9_line 8 = .ok (.iload_n 1, 1) := by decide +kernel
theorem dX9_line_9 : decode cX9_line 9 = .ok (.aload_n 0, 1) := by decide +kernel
theorem dX9_line_10 : decode cX9_line 10 = .ok (.getfield 116, 3) := by decide +kernel
theorem dX9_line_13 : decode cX9_line 13 = .ok (.if_icmp .ge 12, 3) := by decide +kernel
theorem dX9_line_16 : decode cX9_line 16 = .ok (.iload_n 2, 1) := by decide +kernel
theorem dX9_line_17 : decode cX9_line 17 = .ok (.iconst 0, 1) := by decide +kernel
theorem dX9_line_18 : decode cX9_line 18 = .ok (.iconst 4, 1) := by decide +kernel
theorem dX9_line_19 : decode cX9_line 19 = .ok (.invokestatic 44, 3) := by decide +kernel
theorem dX9_line_22 : decode cX9_line 22 = .ok (.ifCond .ne 6, 3) := by decide +kernel
theorem dX9_line_25 : decode cX9_line 25 = .ok (.bipush (-11), 2) := by decide +kernel
theorem dX9_line_27 : decode cX9_line 27 = .ok (.ireturn, 1) := by decide +kernel
theorem dX9_line_28 : decode cX9_line 28 = .ok (.iload_n 2, 1) := by decide +kernel
theorem dX9_line_29 : decode cX9_line 29 = .ok (.iconst 3, 1) := by decide +kernel
theorem dX9_line_30 : decode cX9_line 30 = .ok (.if_icmp .ne 28, 3) := by decide +kernel
theorem dX9_line_33 : decode cX9_line 33 = .ok (.aload_n 0, 1) := by decide +kernel
theorem dX9_line_34 : decode cX9_line 34 = .ok (.getfield 7, 3) := by decide +kernel
theorem dX9_line_37 : decode cX9_line 37 = .ok (.bipush 7, 2) := by decide +kernel
theorem dX9_line_39 : decode cX9_line 39 = .ok (.iaload, 1) := by decide +kernel
theorem dX9_line_40 : decode cX9_line 40 = .ok (.aload_n 0, 1) := by decide +kernel
theorem dX9_line_41 : decode cX9_line 41 = .ok (.iload_n 1, 1) := by decide +kernel
theorem dX9_line_42 : decode cX9_line 42 = .ok (.iconst 2, 1) := by decide +kernel
theorem dX9_line_43 : decode cX9_line 43 = .ok (.invokevirtual 143, 3) := by decide +kernel
theorem dX9_line_46 : decode cX9_line 46 = .ok (.isub, 1) := by decide +kernel
theorem dX9_line_47 : decode cX9_line 47 = .ok (.istore_n 3, 1) := by decide +kernel
theorem dX9_line_48 : decode cX9_line 48 = .ok (.iload_n 3, 1) := by decide +kernel
theorem dX9_line_49 : decode cX9_line 49 = .ok (.ifCond .ge 7, 3) := by decide +kernel
theorem dX9_line_52 : decode cX9_line 52 = .ok (.iconst 0, 1) := by decide +kernel
theorem dX9_line_53 : decode cX9_line 53 = .ok (.goto 4, 3) := by decide +kernel
theorem dX9_line_56 : decode cX9_line 56 = .ok (.iload_n 3, 1) := by decide +kernel
theorem dX9_line_57 : decode cX9_line 57 = .ok (.ireturn, 1) := by decide +kernel
theorem dX9_line_58 : decode cX9_line 58 = .ok (.aload_n 0, 1) := by decide +kernel
theorem dX9_line_59 : decode cX9_line 59 = .ok (.iload_n 1, 1) := by decide +kernel
theorem dX9_line_60 : decode cX9_line 60 = .ok (.iload_n 2, 1) := by decide +kernel
theorem dX9_line_61 : decode cX9_line 61 = .ok (.invokevirtual 143, 3) := by decide +kernel
theorem dX9_line_64 : decode cX9_line 64 = .ok (.ireturn, 1) := by decide +kernel
set_option maxRecDepth 20000 in
theorem ggX9_widthAgain_X9_laysNow : GoodIn wsX9_widthAgain wsX9_laysNow := goodIn_r _ [10, 2, 11, 12, 13, 9, 14, 1, 15, 16, 5, 17, 3, 4, 18, 19, 20, 21, 22, 23, 24, 25, 26, 27, 28, 29, 30, 31, 32, 33, 34, 35, 36, 37, 38, 39, 40, 41, 42, 43, 44, 45, 46, 47, 48, 49, 50, 51, 52, 53, 54, 55, 56, 57, 58, 59, 60, 61, 62, 63, 64, 65, 66, 67, 68, 69, 70] (by decide +kernel) (by decide +kernel)
set_option maxRecDepth 20000 in
theorem gX9_widthAgain_X9_laysNow : GoodIn wsX9_widthAgain (wsV RX9 131 RX9 yX9_laysNow wsX9_laysNow) := goodIn_app (goodIn_of _ (by decide +kernel)) ggX9_widthAgain_X9_laysNow
theorem dX9_widthAgain_0 : decode cX9_widthAgain 0 = .ok (.aload_n 0, 1) := by decide +kernel
theorem dX9_widthAgain_1 : decode cX9_widthAgain 1 = .ok (.invokevirtual 131, 3) := by decide +kernel
theorem dX9_widthAgain_4 : decode cX9_widthAgain 4 = .ok (.iload_n 1, 1) := by decide +kernel
theorem dX9_widthAgain_5 : decode cX9_widthAgain 5 = .ok (.ifCond .lt 11, 3) := by decide +kernel
theorem dX9_widthAgain_8 : decode cX9_widthAgain 8 = .ok (.iload_n 1, 1) := by decide +kernel
theorem dX9_widthAgain_9 : decode cX9_widthAgain 9 = .ok (.aload_n 0, 1) := by decide +kernel
theorem dX9_widthAgain_10 : decode cX9_widthAgain 10 = .ok (.getfield 116, 3) := by decide +kernel
theorem dX9_widthAgain_13 : decode cX9_widthAgain 13 = .ok (.if_icmp .lt 6, 3) := by decide +kernel
theorem dX9_widthAgain_16 : decode cX9_widthAgain 16 = .ok (.bipush (-11), 2) := by decide +kernel
theorem dX9_widthAgain_18 : decode cX9_widthAgain 18 = .ok (.ireturn, 1) := by decide +kernel
theorem dX9_widthAgain_19 : decode cX9_widthAgain 19 = .ok (.iconst 0, 1) := by decide +kernel
theorem dX9_widthAgain_20 : decode cX9_widthAgain 20 = .ok (.istore_n 2, 1) := by decide +kernel
theorem dX9_widthAgain_21 : decode cX9_widthAgain 21 = .ok (.iconst 0, 1) := by decide +kernel
theorem dX9_widthAgain_22 : decode cX9_widthAgain 22 = .ok (.istore_n 3, 1) := by decide +kernel
theorem dX9_widthAgain_23 : decode cX9_widthAgain 23 = .ok (.iload_n 3, 1) := by decide +kernel
theorem dX9_widthAgain_24 : decode cX9_widthAgain 24 = .ok (.aload_n 0, 1) := by decide +kernel
theorem dX9_widthAgain_25 : decode cX9_widthAgain 25 = .ok (.getfield 7, 3) := by decide +kernel
theorem dX9_widthAgain_28 : decode cX9_widthAgain 28 = .ok (.iconst 0, 1) := by decide +kernel
theorem dX9_widthAgain_29 : decode cX9_widthAgain 29 = .ok (.iaload, 1) := by decide +kernel
theorem dX9_widthAgain_30 : decode cX9_widthAgain 30 = .ok (.if_icmp .ge 25, 3) := by decide +kernel
theorem dX9_widthAgain_33 : decode cX9_widthAgain 33 = .ok (.aload_n 0, 1) := by decide +kernel
theorem dX9_widthAgain_34 : decode cX9_widthAgain 34 = .ok (.getfield 34, 3) := by decide +kernel
theorem dX9_widthAgain_37 : decode cX9_widthAgain 37 = .ok (.iload_n 3, 1) := by decide +kernel
theorem dX9_widthAgain_38 : decode cX9_widthAgain 38 = .ok (.iaload, 1) := by decide +kernel
theorem dX9_widthAgain_39 : decode cX9_widthAgain 39 = .ok (.iload_n 1, 1) := by decide +kernel
theorem dX9_widthAgain_40 : decode cX9_widthAgain 40 = .ok (.if_icmp .ne 7, 3) := by decide +kernel
theorem dX9_widthAgain_43 : decode cX9_widthAgain 43 = .ok (.iload_n 3, 1) := by decide +kernel
theorem dX9_widthAgain_44 : decode cX9_widthAgain 44 = .ok (.goto 4, 3) := by decide +kernel
theorem dX9_widthAgain_47 : decode cX9_widthAgain 47 = .ok (.iload_n 2, 1) := by decide +kernel
theorem dX9_widthAgain_48 : decode cX9_widthAgain 48 = .ok (.istore_n 2, 1) := by decide +kernel
theorem dX9_widthAgain_49 : decode cX9_widthAgain 49 = .ok (.iinc 3 1, 3) := by decide +kernel
theorem dX9_widthAgain_52 : decode cX9_widthAgain 52 = .ok (.goto (-29), 3) := by decide +kernel
theorem dX9_widthAgain_55 : decode cX9_widthAgain 55 = .ok (.aload_n 0, 1) := by decide +kernel
theorem dX9_widthAgain_56 : decode cX9_widthAgain 56 = .ok (.getfield 37, 3) := by decide +kernel
theorem dX9_widthAgain_59 : decode cX9_widthAgain 59 = .ok (.iload_n 2, 1) := by decide +kernel
theorem dX9_widthAgain_60 : decode cX9_widthAgain 60 = .ok (.iaload, 1) := by decide +kernel
theorem dX9_widthAgain_61 : decode cX9_widthAgain 61 = .ok (.aload_n 0, 1) := by decide +kernel
theorem dX9_widthAgain_62 : decode cX9_widthAgain 62 = .ok (.getfield 31, 3) := by decide +kernel
theorem dX9_widthAgain_65 : decode cX9_widthAgain 65 = .ok (.iload_n 2, 1) := by decide +kernel
theorem dX9_widthAgain_66 : decode cX9_widthAgain 66 = .ok (.iaload, 1) := by decide +kernel
theorem dX9_widthAgain_67 : decode cX9_widthAgain 67 = .ok (.iadd, 1) := by decide +kernel
theorem dX9_widthAgain_68 : decode cX9_widthAgain 68 = .ok (.ireturn, 1) := by decide +kernel
theorem dX9_isName_0 : decode cX9_isName 0 = .ok (.iload_n 1, 1) := by decide +kernel
theorem dX9_isName_1 : decode cX9_isName 1 = .ok (.ifCond .lt 17, 3) := by decide +kernel
theorem dX9_isName_4 : decode cX9_isName 4 = .ok (.iload_n 1, 1) := by decide +kernel
theorem dX9_isName_5 : decode cX9_isName 5 = .ok (.aload_n 0, 1) := by decide +kernel
theorem dX9_isName_6 : decode cX9_isName 6 = .ok (.getfield 7, 3) := by decide +kernel
theorem dX9_isName_9 : decode cX9_isName 9 = .ok (.iconst 1, 1) := by decide +kernel
theorem dX9_isName_10 : decode cX9_isName 10 = .ok (.iaload, 1) := by decide +kernel
theorem dX9_isName_11 : decode cX9_isName 11 = .ok (.if_icmp .ge 7, 3) := by decide +kernel
theorem dX9_isName_14 : decode cX9_isName 14 = .ok (.iconst 1, 1) := by decide +kernel
theorem dX9_isName_15 : decode cX9_isName 15 = .ok (.goto 4, 3) := by decide +kernel
theorem dX9_isName_18 : decode cX9_isName 18 = .ok (.iconst 0, 1) := by decide +kernel
theorem dX9_isName_19 : decode cX9_isName 19 = .ok (.ireturn, 1) := by decide +kernel
set_option maxRecDepth 20000 in
theorem ggX9_form_X9_isName : GoodIn wsX9_form wsX9_isName := goodIn_r _ [9, 1, 63, 64, 65, 66, 67, 68, 69, 70, 71, 72, 73, 74, 75, 76, 77] (by decide +kernel) (by decide +kernel)
set_option maxRecDepth 20000 in
theorem gX9_form_X9_isName : GoodIn wsX9_form (wsV RX9 146 RX9 yX9_isName wsX9_isName) := goodIn_app (goodIn_of _ (by decide +kernel)) ggX9_form_X9_isName
set_option maxRecDepth 20000 in
theorem ggX9_form_X9_in : GoodIn wsX9_form wsX9_in := goodIn_r _ [12] (by decide +kernel) (by decide +kernel)
set_option maxRecDepth 20000 in
theorem gX9_form_X9_in : GoodIn wsX9_form (va_wsS RX9 44 yX9_in wsX9_in) := goodIn_app (goodIn_of _ (by decide +kernel)) ggX9_form_X9_in
set_option maxRecDepth 20000 in
theorem ggX9_form_X9_laysNow : GoodIn wsX9_form wsX9_laysNow := goodIn_r _ [16, 1, 17, 18, 19, 8, 20, 21, 4, 22, 23, 3, 24, 25, 26, 27, 28, 29, 2, 30, 31, 32, 33, 34, 35, 36, 37, 38, 39, 40, 41, 42, 43, 44, 45, 46, 47, 48, 49, 50, 51, 52, 53, 54, 55, 56, 57, 58, 59, 60, 61, 62, 63, 64, 65, 66, 67, 68, 69, 70, 71, 72, 73, 74, 75, 76, 77] (by decide +kernel) (by decide +kernel)
set_option maxRecDepth 20000 in
theorem gX9_form_X9_laysNow : GoodIn wsX9_form (wsV RX9 131 RX9 yX9_laysNow wsX9_laysNow) := goodIn_app (goodIn_of _ (by decide +kernel)) ggX9_form_X9_laysNow
set_option maxRecDepth 20000 in
theorem ggX9_form_X9_each : GoodIn wsX9_form wsX9_each := goodIn_r _ [34, 1, 63, 64, 65, 66, 67, 68, 69, 70, 71, 72, 73, 74, 75, 76, 77] (by decide +kernel) (by decide +kernel)
set_option maxRecDepth 20000 in
theorem gX9_form_X9_each : GoodIn wsX9_form (wsV RX9 86 RX9 yX9_each wsX9_each) := goodIn_app (goodIn_of _ (by decide +kernel)) ggX9_form_X9_each
set_option maxRecDepth 20000 in
theorem ggX9_form_X9_lettersOf : GoodIn wsX9_form wsX9_lettersOf := goodIn_r _ [58, 1, 31, 32, 33, 8, 34, 39, 40, 41, 42, 63, 64, 65, 66, 67, 68, 69, 70, 71, 72, 73, 74, 75, 76, 77] (by decide +kernel) (by decide +kernel)
set_option maxRecDepth 20000 in
theorem gX9_form_X9_lettersOf : GoodIn wsX9_form (wsV RX9 105 RX9 yX9_lettersOf wsX9_lettersOf) := goodIn_app (goodIn_of _ (by decide +kernel)) ggX9_form_X9_lettersOf
theorem dX9_form_0 : decode cX9_form 0 = .ok (.aload_n 0, 1) := by decide +kernel
theorem dX9_form_1 : decode cX9_form 1 = .ok (.iload_n 1, 1) := by decide +kernel
theorem dX9_form_2 : decode cX9_form 2 = .ok (.invokevirtual 146, 3) := by decide +kernel
theorem dX9_form_5 : decode cX9_form 5 = .ok (.ifCond .eq 27, 3) := by decide +kernel
theorem dX9_form_8 : decode cX9_form 8 = .ok (.iload_n 2, 1) := by decide +kernel
theorem dX9_form_9 : decode cX9_form 9 = .ok (.iconst (-1), 1) := by decide +kernel
theorem dX9_form_10 : decode cX9_form 10 = .ok (.if_icmp .lt 22, 3) := by decide +kernel
theorem dX9_form_13 : decode cX9_form 13 = .ok (.iload_n 2, 1) := by decide +kernel
theorem dX9_form_14 : decode cX9_form 14 = .ok (.aload_n 0, 1) := by decide +kernel
theorem dX9_form_15 : decode cX9_form 15 = .ok (.getfield 7, 3) := by decide +kernel
theorem dX9_form_18 : decode cX9_form 18 = .ok (.iconst 2, 1) := by decide +kernel
theorem dX9_form_19 : decode cX9_form 19 = .ok (.iaload, 1) := by decide +kernel
theorem dX9_form_20 : decode cX9_form 20 = .ok (.if_icmp .ge 12, 3) := by decide +kernel
theorem dX9_form_23 : decode cX9_form 23 = .ok (.iload_n 3, 1) := by decide +kernel
theorem dX9_form_24 : decode cX9_form 24 = .ok (.iconst 0, 1) := by decide +kernel
theorem dX9_form_25 : decode cX9_form 25 = .ok (.iconst 3, 1) := by decide +kernel
theorem dX9_form_26 : decode cX9_form 26 = .ok (.invokestatic 44, 3) := by decide +kernel
theorem dX9_form_29 : decode cX9_form 29 = .ok (.ifCond .ne 6, 3) := by decide +kernel
theorem dX9_form_32 : decode cX9_form 32 = .ok (.bipush (-11), 2) := by decide +kernel
theorem dX9_form_34 : decode cX9_form 34 = .ok (.ireturn, 1) := by decide +kernel
theorem dX9_form_35 : decode cX9_form 35 = .ok (.aload_n 0, 1) := by decide +kernel
theorem dX9_form_36 : decode cX9_form 36 = .ok (.invokevirtual 131, 3) := by decide +kernel
theorem dX9_form_39 : decode cX9_form 39 = .ok (.iload_n 1, 1) := by decide +kernel
theorem dX9_form_40 : decode cX9_form 40 = .ok (.aload_n 0, 1) := by decide +kernel
theorem dX9_form_41 : decode cX9_form 41 = .ok (.invokevirtual 86, 3) := by decide +kernel
theorem dX9_form_44 : decode cX9_form 44 = .ok (.imul, 1) := by decide +kernel
theorem dX9_form_45 : decode cX9_form 45 = .ok (.iload_n 2, 1) := by decide +kernel
theorem dX9_form_46 : decode cX9_form 46 = .ok (.iadd, 1) := by decide +kernel
theorem dX9_form_47 : decode cX9_form 47 = .ok (.iconst 1, 1) := by decide +kernel
theorem dX9_form_48 : decode cX9_form 48 = .ok (.iadd, 1) := by decide +kernel
theorem dX9_form_49 : decode cX9_form 49 = .ok (.istore 4, 2) := by decide +kernel
theorem dX9_form_51 : decode cX9_form 51 = .ok (.iload_n 3, 1) := by decide +kernel
theorem dX9_form_52 : decode cX9_form 52 = .ok (.iconst 3, 1) := by decide +kernel
theorem dX9_form_53 : decode cX9_form 53 = .ok (.if_icmp .ge 39, 3) := by decide +kernel
theorem dX9_form_56 : decode cX9_form 56 = .ok (.iload_n 3, 1) := by decide +kernel
theorem dX9_form_57 : decode cX9_form 57 = .ok (.ifCond .ne 12, 3) := by decide +kernel
theorem dX9_form_60 : decode cX9_form 60 = .ok (.aload_n 0, 1) := by decide +kernel
theorem dX9_form_61 : decode cX9_form 61 = .ok (.iload 4, 2) := by decide +kernel
theorem dX9_form_63 : decode cX9_form 63 = .ok (.invokevirtual 105, 3) := by decide +kernel
theorem dX9_form_66 : decode cX9_form 66 = .ok (.goto 25, 3) := by decide +kernel
theorem dX9_form_69 : decode cX9_form 69 = .ok (.iload_n 3, 1) := by decide +kernel
theorem dX9_form_70 : decode cX9_form 70 = .ok (.iconst 1, 1) := by decide +kernel
theorem dX9_form_71 : decode cX9_form 71 = .ok (.if_icmp .ne 13, 3) := by decide +kernel
theorem dX9_form_74 : decode cX9_form 74 = .ok (.aload_n 0, 1) := by decide +kernel
theorem dX9_form_75 : decode cX9_form 75 = .ok (.getfield 19, 3) := by decide +kernel
theorem dX9_form_78 : decode cX9_form 78 = .ok (.iload 4, 2) := by decide +kernel
theorem dX9_form_80 : decode cX9_form 80 = .ok (.iaload, 1) := by decide +kernel
theorem dX9_form_81 : decode cX9_form 81 = .ok (.goto 10, 3) := by decide +kernel
theorem dX9_form_84 : decode cX9_form 84 = .ok (.aload_n 0, 1) := by decide +kernel
theorem dX9_form_85 : decode cX9_form 85 = .ok (.getfield 22, 3) := by decide +kernel
theorem dX9_form_88 : decode cX9_form 88 = .ok (.iload 4, 2) := by decide +kernel
theorem dX9_form_90 : decode cX9_form 90 = .ok (.iaload, 1) := by decide +kernel
theorem dX9_form_91 : decode cX9_form 91 = .ok (.ireturn, 1) := by decide +kernel
theorem dX9_form_92 : decode cX9_form 92 = .ok (.iconst 0, 1) := by decide +kernel
theorem dX9_form_93 : decode cX9_form 93 = .ok (.istore 5, 2) := by decide +kernel
theorem dX9_form_95 : decode cX9_form 95 = .ok (.iconst 0, 1) := by decide +kernel
theorem dX9_form_96 : decode cX9_form 96 = .ok (.istore 6, 2) := by decide +kernel
theorem dX9_form_98 : decode cX9_form 98 = .ok (.iload 6, 2) := by decide +kernel
theorem dX9_form_100 : decode cX9_form 100 = .ok (.aload_n 0, 1) := by decide +kernel
theorem dX9_form_101 : decode cX9_form 101 = .ok (.getfield 7, 3) := by decide +kernel
theorem dX9_form_104 : decode cX9_form 104 = .ok (.iconst 0, 1) := by decide +kernel
theorem dX9_form_105 : decode cX9_form 105 = .ok (.iaload, 1) := by decide +kernel
theorem dX9_form_106 : decode cX9_form 106 = .ok (.if_icmp .ge 31, 3) := by decide +kernel
theorem dX9_form_109 : decode cX9_form 109 = .ok (.iload 5, 2) := by decide +kernel
theorem dX9_form_111 : decode cX9_form 111 = .ok (.aload_n 0, 1) := by decide +kernel
theorem dX9_form_112 : decode cX9_form 112 = .ok (.getfield 28, 3) := by decide +kernel
theorem dX9_form_115 : decode cX9_form 115 = .ok (.iload 6, 2) := by decide +kernel
theorem dX9_form_117 : decode cX9_form 117 = .ok (.iaload, 1) := by decide +kernel
theorem dX9_form_118 : decode cX9_form 118 = .ok (.iload 4, 2) := by decide +kernel
theorem dX9_form_120 : decode cX9_form 120 = .ok (.if_icmp .ne 7, 3) := by decide +kernel
theorem dX9_form_123 : decode cX9_form 123 = .ok (.iconst 1, 1) := by decide +kernel
theorem dX9_form_124 : decode cX9_form 124 = .ok (.goto 4, 3) := by decide +kernel
theorem dX9_form_127 : decode cX9_form 127 = .ok (.iconst 0, 1) := by decide +kernel
theorem dX9_form_128 : decode cX9_form 128 = .ok (.iadd, 1) := by decide +kernel
theorem dX9_form_129 : decode cX9_form 129 = .ok (.istore 5, 2) := by decide +kernel
theorem dX9_form_131 : decode cX9_form 131 = .ok (.iinc 6 1, 3) := by decide +kernel
theorem dX9_form_134 : decode cX9_form 134 = .ok (.goto (-36), 3) := by decide +kernel
theorem dX9_form_137 : decode cX9_form 137 = .ok (.iload 5, 2) := by decide +kernel
theorem dX9_form_139 : decode cX9_form 139 = .ok (.ireturn, 1) := by decide +kernel
set_option maxRecDepth 20000 in
theorem ggX9_under_X9_in : GoodIn wsX9_under wsX9_in := goodIn_r _ [4] (by decide +kernel) (by decide +kernel)
set_option maxRecDepth 20000 in
theorem gX9_under_X9_in : GoodIn wsX9_under (va_wsS RX9 44 yX9_in wsX9_in) := goodIn_app (goodIn_of _ (by decide +kernel)) ggX9_under_X9_in
set_option maxRecDepth 20000 in
theorem ggX9_under_X9_laysNow : GoodIn wsX9_under wsX9_laysNow := goodIn_r _ [8, 9, 10, 11, 12, 3, 13, 14, 15, 16, 17, 18, 19, 20, 21, 22, 23, 24, 25, 26, 27, 28, 29, 30, 31, 32, 33, 34, 35, 36, 37, 38, 39, 40, 41, 42, 43, 44, 45, 46, 47, 48, 49, 50, 51, 52, 53, 54, 55, 56, 57, 58, 63, 64, 65, 66, 67, 68, 69, 70, 71, 72, 73, 74, 75, 76, 77] (by decide +kernel) (by decide +kernel)
set_option maxRecDepth 20000 in
theorem gX9_under_X9_laysNow : GoodIn wsX9_under (wsV RX9 131 RX9 yX9_laysNow wsX9_laysNow) := goodIn_app (goodIn_of _ (by decide +kernel)) ggX9_under_X9_laysNow
set_option maxRecDepth 20000 in
theorem ggX9_under_X9_namesUnder : GoodIn wsX9_under wsX9_namesUnder := goodIn_r _ [62, 16, 18, 27, 28, 29, 3, 30, 9, 63, 64, 65, 66, 67, 68, 69, 70, 71, 72, 73, 74, 75, 76, 77] (by decide +kernel) (by decide +kernel)
set_option maxRecDepth 20000 in
theorem gX9_under_X9_namesUnder : GoodIn wsX9_under (wsV RX9 125 RX9 yX9_namesUnder wsX9_namesUnder) := goodIn_app (goodIn_of _ (by decide +kernel)) ggX9_under_X9_namesUnder
theorem dX9_under_0 : decode cX9_under 0 = .ok (.iload_n 1, 1) := by decide +kernel
theorem dX9_under_1 : decode cX9_under 1 = .ok (.iconst 0, 1) := by decide +kernel
theorem dX9_under_2 : decode cX9_under 2 = .ok (.sipush 500, 3) := by decide +kernel
theorem dX9_under_5 : decode cX9_under 5 = .ok (.invokestatic 44, 3) := by decide +kernel
theorem dX9_under_8 : decode cX9_under 8 = .ok (.ifCond .ne 6, 3) := by decide +kernel
theorem dX9_under_11 : decode cX9_under 11 = .ok (.bipush (-11), 2) := by decide +kernel
theorem dX9_under_13 : decode cX9_under 13 = .ok (.ireturn, 1) := by decide +kernel
theorem dX9_under_14 : decode cX9_under 14 = .ok (.aload_n 0, 1) := by decide +kernel
theorem dX9_under_15 : decode cX9_under 15 = .ok (.invokevirtual 131, 3) := by decide +kernel
theorem dX9_under_18 : decode cX9_under 18 = .ok (.aload_n 0, 1) := by decide +kernel
theorem dX9_under_19 : decode cX9_under 19 = .ok (.iload_n 1, 1) := by decide +kernel
theorem dX9_under_20 : decode cX9_under 20 = .ok (.invokevirtual 125, 3) := by decide +kernel
theorem dX9_under_23 : decode cX9_under 23 = .ok (.ireturn, 1) := by decide +kernel
set_option maxRecDepth 20000 in
theorem ggX9_gapOf_X9_each : GoodIn wsX9_gapOf wsX9_each := goodIn_r _ [7, 8, 9, 10, 11, 12, 13, 14, 15, 16, 17, 18, 19, 20, 21, 22, 23] (by decide +kernel) (by decide +kernel)
set_option maxRecDepth 20000 in
theorem gX9_gapOf_X9_each : GoodIn wsX9_gapOf (wsV RX9 86 RX9 yX9_each wsX9_each) := goodIn_app (goodIn_of _ (by decide +kernel)) ggX9_gapOf_X9_each
theorem dX9_gapOf_0 : decode cX9_gapOf 0 = .ok (.bipush (-14), 2) := by decide +kernel
theorem dX9_gapOf_2 : decode cX9_gapOf 2 = .ok (.istore_n 3, 1) := by decide +kernel
theorem dX9_gapOf_3 : decode cX9_gapOf 3 = .ok (.iload_n 1, 1) := by decide +kernel
theorem dX9_gapOf_4 : decode cX9_gapOf 4 = .ok (.aload_n 0, 1) := by decide +kernel
theorem dX9_gapOf_5 : decode cX9_gapOf 5 = .ok (.invokevirtual 86, 3) := by decide +kernel
theorem dX9_gapOf_8 : decode cX9_gapOf 8 = .ok (.imul, 1) := by decide +kernel
theorem dX9_gapOf_9 : decode cX9_gapOf 9 = .ok (.istore 4, 2) := by decide +kernel
theorem dX9_gapOf_11 : decode cX9_gapOf 11 = .ok (.iload 4, 2) := by decide +kernel
theorem dX9_gapOf_13 : decode cX9_gapOf 13 = .ok (.iload_n 1, 1) := by decide +kernel
theorem dX9_gapOf_14 : decode cX9_gapOf 14 = .ok (.iconst 1, 1) := by decide +kernel
theorem dX9_gapOf_15 : decode cX9_gapOf 15 = .ok (.iadd, 1) := by decide +kernel
theorem dX9_gapOf_16 : decode cX9_gapOf 16 = .ok (.aload_n 0, 1) := by decide +kernel
theorem dX9_gapOf_17 : decode cX9_gapOf 17 = .ok (.invokevirtual 86, 3) := by decide +kernel
theorem dX9_gapOf_20 : decode cX9_gapOf 20 = .ok (.imul, 1) := by decide +kernel
theorem dX9_gapOf_21 : decode cX9_gapOf 21 = .ok (.if_icmp .ge 50, 3) := by decide +kernel
theorem dX9_gapOf_24 : decode cX9_gapOf 24 = .ok (.iload_n 2, 1) := by decide +kernel
theorem dX9_gapOf_25 : decode cX9_gapOf 25 = .ok (.aload_n 0, 1) := by decide +kernel
theorem dX9_gapOf_26 : decode cX9_gapOf 26 = .ok (.getfield 19, 3) := by decide +kernel
theorem dX9_gapOf_29 : decode cX9_gapOf 29 = .ok (.iload 4, 2) := by decide +kernel
theorem dX9_gapOf_31 : decode cX9_gapOf 31 = .ok (.iaload, 1) := by decide +kernel
theorem dX9_gapOf_32 : decode cX9_gapOf 32 = .ok (.isub, 1) := by decide +kernel
theorem dX9_gapOf_33 : decode cX9_gapOf 33 = .ok (.istore 5, 2) := by decide +kernel
theorem dX9_gapOf_35 : decode cX9_gapOf 35 = .ok (.aload_n 0, 1) := by decide +kernel
theorem dX9_gapOf_36 : decode cX9_gapOf 36 = .ok (.getfield 22, 3) := by decide +kernel
theorem dX9_gapOf_39 : decode cX9_gapOf 39 = .ok (.iload 4, 2) := by decide +kernel
theorem dX9_gapOf_41 : decode cX9_gapOf 41 = .ok (.iaload, 1) := by decide +kernel
theorem dX9_gapOf_42 : decode cX9_gapOf 42 = .ok (.iload_n 2, 1) := by decide +kernel
theorem dX9_gapOf_43 : decode cX9_gapOf 43 = .ok (.if_icmp .ne 20, 3) := by decide +kernel
theorem dX9_gapOf_46 : decode cX9_gapOf 46 = .ok (.iload_n 3, 1) := by decide +kernel
theorem dX9_gapOf_47 : decode cX9_gapOf 47 = .ok (.bipush (-14), 2) := by decide +kernel
theorem dX9_gapOf_49 : decode cX9_gapOf 49 = .ok (.if_icmp .eq 9, 3) := by decide +kernel
theorem dX9_gapOf_52 : decode cX9_gapOf 52 = .ok (.iload 5, 2) := by decide +kernel
theorem dX9_gapOf_54 : decode cX9_gapOf 54 = .ok (.iload_n 3, 1) := by decide +kernel
theorem dX9_gapOf_55 : decode cX9_gapOf 55 = .ok (.if_icmp .ge 8, 3) := by decide +kernel
theorem dX9_gapOf_58 : decode cX9_gapOf 58 = .ok (.iload 5, 2) := by decide +kernel
theorem dX9_gapOf_60 : decode cX9_gapOf 60 = .ok (.goto 4, 3) := by decide +kernel
theorem dX9_gapOf_63 : decode cX9_gapOf 63 = .ok (.iload_n 3, 1) := by decide +kernel
theorem dX9_gapOf_64 : decode cX9_gapOf 64 = .ok (.istore_n 3, 1) := by decide +kernel
theorem dX9_gapOf_65 : decode cX9_gapOf 65 = .ok (.iinc 4 1, 3) := by decide +kernel
theorem dX9_gapOf_68 : decode cX9_gapOf 68 = .ok (.goto (-57), 3) := by decide +kernel
theorem dX9_gapOf_71 : decode cX9_gapOf 71 = .ok (.iload_n 3, 1) := by decide +kernel
theorem dX9_gapOf_72 : decode cX9_gapOf 72 = .ok (.ireturn, 1) := by decide +kernel
set_option maxRecDepth 20000 in
theorem ggX9_guessOf_X9_gapOf : GoodIn wsX9_guessOf wsX9_gapOf := goodIn_r _ [6, 7, 8, 9, 10, 11, 5, 12, 1, 13, 14, 15, 16, 17, 18, 19, 20, 21, 22, 23, 24, 25, 26, 27] (by decide +kernel) (by decide +kernel)
set_option maxRecDepth 20000 in
theorem gX9_guessOf_X9_gapOf : GoodIn wsX9_guessOf (wsV RX9 149 RX9 yX9_gapOf wsX9_gapOf) := goodIn_app (goodIn_of _ (by decide +kernel)) ggX9_guessOf_X9_gapOf
theorem dX9_guessOf_0 : decode cX9_guessOf 0 = .ok (.iconst 0, 1) := by decide +kernel
theorem dX9_guessOf_1 : decode cX9_guessOf 1 = .ok (.istore 4, 2) := by decide +kernel
theorem dX9_guessOf_3 : decode cX9_guessOf 3 = .ok (.iload 4, 2) := by decide +kernel
theorem dX9_guessOf_5 : decode cX9_guessOf 5 = .ok (.aload_n 0, 1) := by decide +kernel
theorem dX9_guessOf_6 : decode cX9_guessOf 6 = .ok (.getfield 7, 3) := by decide +kernel
theorem dX9_guessOf_9 : decode cX9_guessOf 9 = .ok (.iconst 1, 1) := by decide +kernel
theorem dX9_guessOf_10 : decode cX9_guessOf 10 = .ok (.iaload, 1) := by decide +kernel
theorem dX9_guessOf_11 : decode cX9_guessOf 11 = .ok (.if_icmp .ge 113, 3) := by decide +kernel
theorem dX9_guessOf_14 : decode cX9_guessOf 14 = .ok (.aload_n 0, 1) := by decide +kernel
theorem dX9_guessOf_15 : decode cX9_guessOf 15 = .ok (.iload 4, 2) := by decide +kernel
theorem dX9_guessOf_17 : decode cX9_guessOf 17 = .ok (.iload_n 1, 1) := by decide +kernel
theorem dX9_guessOf_18 : decode cX9_guessOf 18 = .ok (.invokevirtual 149, 3) := by decide +kernel
theorem dX9_guessOf_21 : decode cX9_guessOf 21 = .ok (.istore 5, 2) := by decide +kernel
theorem dX9_guessOf_23 : decode cX9_guessOf 23 = .ok (.iconst 0, 1) := by decide +kernel
theorem dX9_guessOf_24 : decode cX9_guessOf 24 = .ok (.istore 6, 2) := by decide +kernel
theorem dX9_guessOf_26 : decode cX9_guessOf 26 = .ok (.iconst 0, 1) := by decide +kernel
theorem dX9_guessOf_27 : decode cX9_guessOf 27 = .ok (.istore 7, 2) := by decide +kernel
theorem dX9_guessOf_29 : decode cX9_guessOf 29 = .ok (.iload 7, 2) := by decide +kernel
theorem dX9_guessOf_31 : decode cX9_guessOf 31 = .ok (.aload_n 0, 1) := by decide +kernel
theorem dX9_guessOf_32 : decode cX9_guessOf 32 = .ok (.getfield 7, 3) := by decide +kernel
theorem dX9_guessOf_35 : decode cX9_guessOf 35 = .ok (.iconst 1, 1) := by decide +kernel
theorem dX9_guessOf_36 : decode cX9_guessOf 36 = .ok (.iaload, 1) := by decide +kernel
theorem dX9_guessOf_37 : decode cX9_guessOf 37 = .ok (.if_icmp .ge 56, 3) := by decide +kernel
theorem dX9_guessOf_40 : decode cX9_guessOf 40 = .ok (.aload_n 0, 1) := by decide +kernel
theorem dX9_guessOf_41 : decode cX9_guessOf 41 = .ok (.iload 7, 2) := by decide +kernel
theorem dX9_guessOf_43 : decode cX9_guessOf 43 = .ok (.iload_n 1, 1) := by decide +kernel
theorem dX9_guessOf_44 : decode cX9_guessOf 44 = .ok (.invokevirtual 149, 3) := by decide +kernel
theorem dX9_guessOf_47 : decode cX9_guessOf 47 = .ok (.istore 8, 2) := by decide +kernel
theorem dX9_guessOf_49 : decode cX9_guessOf 49 = .ok (.iload 6, 2) := by decide +kernel
theorem dX9_guessOf_51 : decode cX9_guessOf 51 = .ok (.iload 8, 2) := by decide +kernel
theorem dX9_guessOf_53 : decode cX9_guessOf 53 = .ok (.bipush (-14), 2) := by decide +kernel
theorem dX9_guessOf_55 : decode cX9_guessOf 55 = .ok (.if_icmp .eq 28, 3) := by decide +kernel
theorem dX9_guessOf_58 : decode cX9_guessOf 58 = .ok (.iload 8, 2) := by decide +kernel
theorem dX9_guessOf_60 : decode cX9_guessOf 60 = .ok (.iload 5, 2) := by decide +kernel
theorem dX9_guessOf_62 : decode cX9_guessOf 62 = .ok (.if_icmp .lt 17, 3) := by decide +kernel
theorem dX9_guessOf_65 : decode cX9_guessOf 65 = .ok (.iload 8, 2) := by decide +kernel
theorem dX9_guessOf_67 : decode cX9_guessOf 67 = .ok (.iload 5, 2) := by decide +kernel
theorem dX9_guessOf_69 : decode cX9_guessOf 69 = .ok (.if_icmp .ne 14, 3) := by decide +kernel
theorem dX9_guessOf_72 : decode cX9_guessOf 72 = .ok (.iload 7, 2) := by decide +kernel
theorem dX9_guessOf_74 : decode cX9_guessOf 74 = .ok (.iload 4, 2) := by decide +kernel
theorem dX9_guessOf_76 : decode cX9_guessOf 76 = .ok (.if_icmp .ge 7, 3) := by decide +kernel
theorem dX9_guessOf_79 : decode cX9_guessOf 79 = .ok (.iconst 1, 1) := by decide +kernel
theorem dX9_guessOf_80 : decode cX9_guessOf 80 = .ok (.goto 4, 3) := by decide +kernel
theorem dX9_guessOf_83 : decode cX9_guessOf 83 = .ok (.iconst 0, 1) := by decide +kernel
theorem dX9_guessOf_84 : decode cX9_guessOf 84 = .ok (.iadd, 1) := by decide +kernel
theorem dX9_guessOf_85 : decode cX9_guessOf 85 = .ok (.istore 6, 2) := by decide +kernel
theorem dX9_guessOf_87 : decode cX9_guessOf 87 = .ok (.iinc 7 1, 3) := by decide +kernel
theorem dX9_guessOf_90 : decode cX9_guessOf 90 = .ok (.goto (-61), 3) := by decide +kernel
theorem dX9_guessOf_93 : decode cX9_guessOf 93 = .ok (.iload 5, 2) := by decide +kernel
theorem dX9_guessOf_95 : decode cX9_guessOf 95 = .ok (.bipush (-14), 2) := by decide +kernel
theorem dX9_guessOf_97 : decode cX9_guessOf 97 = .ok (.if_icmp .eq 21, 3) := by decide +kernel
theorem dX9_guessOf_100 : decode cX9_guessOf 100 = .ok (.iload 6, 2) := by decide +kernel
theorem dX9_guessOf_102 : decode cX9_guessOf 102 = .ok (.iload_n 2, 1) := by decide +kernel
theorem dX9_guessOf_103 : decode cX9_guessOf 103 = .ok (.if_icmp .ne 15, 3) := by decide +kernel
theorem dX9_guessOf_106 : decode cX9_guessOf 106 = .ok (.iload_n 3, 1) := by decide +kernel
theorem dX9_guessOf_107 : decode cX9_guessOf 107 = .ok (.ifCond .ne 8, 3) := by decide +kernel
theorem dX9_guessOf_110 : decode cX9_guessOf 110 = .ok (.iload 4, 2) := by decide +kernel
theorem dX9_guessOf_112 : decode cX9_guessOf 112 = .ok (.goto 5, 3) := by decide +kernel
theorem dX9_guessOf_115 : decode cX9_guessOf 115 = .ok (.iload 5, 2) := by decide +kernel
theorem dX9_guessOf_117 : decode cX9_guessOf 117 = .ok (.ireturn, 1) := by decide +kernel
theorem dX9_guessOf_118 : decode cX9_guessOf 118 = .ok (.iinc 4 1, 3) := by decide +kernel
theorem dX9_guessOf_121 : decode cX9_guessOf 121 = .ok (.goto (-118), 3) := by decide +kernel
theorem dX9_guessOf_124 : decode cX9_guessOf 124 = .ok (.bipush (-14), 2) := by decide +kernel
theorem dX9_guessOf_126 : decode cX9_guessOf 126 = .ok (.ireturn, 1) := by decide +kernel
set_option maxRecDepth 20000 in
theorem ggX9_guess_X9_isWord : GoodIn wsX9_guess wsX9_isWord := goodIn_r _ [7, 8, 71, 72, 73, 74, 75, 76, 77, 78, 79, 80, 81, 82, 83, 84, 85] (by decide +kernel) (by decide +kernel)
set_option maxRecDepth 20000 in
theorem gX9_guess_X9_isWord : GoodIn wsX9_guess (wsV RX9 137 RX9 yX9_isWord wsX9_isWord) := goodIn_app (goodIn_of _ (by decide +kernel)) ggX9_guess_X9_isWord
set_option maxRecDepth 20000 in
theorem ggX9_guess_X9_in : GoodIn wsX9_guess wsX9_in := goodIn_r _ [11] (by decide +kernel) (by decide +kernel)
set_option maxRecDepth 20000 in
theorem gX9_guess_X9_in : GoodIn wsX9_guess (va_wsS RX9 44 yX9_in wsX9_in) := goodIn_app (goodIn_of _ (by decide +kernel)) ggX9_guess_X9_in
set_option maxRecDepth 20000 in
theorem ggX9_guess_X9_laysNow : GoodIn wsX9_guess wsX9_laysNow := goodIn_r _ [15, 8, 16, 17, 18, 6, 19, 20, 1, 21, 2, 22, 23, 24, 25, 26, 27, 28, 29, 30, 31, 32, 33, 34, 35, 36, 37, 38, 39, 40, 41, 42, 43, 44, 45, 46, 47, 48, 49, 50, 51, 52, 53, 54, 55, 56, 57, 58, 59, 60, 61, 62, 71, 72, 73, 74, 75, 76, 77, 78, 79, 80, 81, 82, 83, 84, 85] (by decide +kernel) (by decide +kernel)
set_option maxRecDepth 20000 in
theorem gX9_guess_X9_laysNow : GoodIn wsX9_guess (wsV RX9 131 RX9 yX9_laysNow wsX9_laysNow) := goodIn_app (goodIn_of _ (by decide +kernel)) ggX9_guess_X9_laysNow
set_option maxRecDepth 20000 in
theorem ggX9_guess_X9_guessOf : GoodIn wsX9_guess wsX9_guessOf := goodIn_r _ [66, 8, 67, 68, 69, 6, 70, 29, 22, 31, 32, 33, 34, 71, 72, 73, 74, 75, 76, 77, 78, 79, 80, 81, 82, 83, 84, 85] (by decide +kernel) (by decide +kernel)
set_option maxRecDepth 20000 in
theorem gX9_guess_X9_guessOf : GoodIn wsX9_guess (wsV RX9 152 RX9 yX9_guessOf wsX9_guessOf) := goodIn_app (goodIn_of _ (by decide +kernel)) ggX9_guess_X9_guessOf
theorem dX9_guess_0 : decode cX9_guess 0 = .ok (.aload_n 0, 1) := by decide +kernel
theorem dX9_guess_1 : decode cX9_guess 1 = .ok (.iload_n 1, 1) := by decide +kernel
theorem dX9_guess_2 : decode cX9_guess 2 = .ok (.invokevirtual 137, 3) := by decide +kernel
theorem dX9_guess_5 : decode cX9_guess 5 = .ok (.ifCond .eq 16, 3) := by decide +kernel
theorem dX9_guess_8 : decode cX9_guess 8 = .ok (.iload_n 2, 1) := by decide +kernel
theorem dX9_guess_9 : decode cX9_guess 9 = .ok (.ifCond .lt 12, 3) := by decide +kernel
theorem dX9_guess_12 : decode cX9_guess 12 = .ok (.iload_n 3, 1) := by decide +kernel
theorem dX9_guess_13 : decode cX9_guess 13 = .ok (.iconst 0, 1) := by decide +kernel
theorem dX9_guess_14 : decode cX9_guess 14 = .ok (.iconst 1, 1) := by decide +kernel
theorem dX9_guess_15 : decode cX9_guess 15 = .ok (.invokestatic 44, 3) := by decide +kernel
theorem dX9_guess_18 : decode cX9_guess 18 = .ok (.ifCond .ne 6, 3) := by decide +kernel
theorem dX9_guess_21 : decode cX9_guess 21 = .ok (.bipush (-11), 2) := by decide +kernel
theorem dX9_guess_23 : decode cX9_guess 23 = .ok (.ireturn, 1) := by decide +kernel
theorem dX9_guess_24 : decode cX9_guess 24 = .ok (.aload_n 0, 1) := by decide +kernel
theorem dX9_guess_25 : decode cX9_guess 25 = .ok (.invokevirtual 131, 3) := by decide +kernel
theorem dX9_guess_28 : decode cX9_guess 28 = .ok (.aload_n 0, 1) := by decide +kernel
theorem dX9_guess_29 : decode cX9_guess 29 = .ok (.getfield 28, 3) := by decide +kernel
theorem dX9_guess_32 : decode cX9_guess 32 = .ok (.iload_n 1, 1) := by decide +kernel
theorem dX9_guess_33 : decode cX9_guess 33 = .ok (.iaload, 1) := by decide +kernel
theorem dX9_guess_34 : decode cX9_guess 34 = .ok (.ifCond .ge 8, 3) := by decide +kernel
theorem dX9_guess_37 : decode cX9_guess 37 = .ok (.bipush (-12), 2) := by decide +kernel
theorem dX9_guess_39 : decode cX9_guess 39 = .ok (.goto 15, 3) := by decide +kernel
theorem dX9_guess_42 : decode cX9_guess 42 = .ok (.aload_n 0, 1) := by decide +kernel
theorem dX9_guess_43 : decode cX9_guess 43 = .ok (.aload_n 0, 1) := by decide +kernel
theorem dX9_guess_44 : decode cX9_guess 44 = .ok (.getfield 31, 3) := by decide +kernel
theorem dX9_guess_47 : decode cX9_guess 47 = .ok (.iload_n 1, 1) := by decide +kernel
theorem dX9_guess_48 : decode cX9_guess 48 = .ok (.iaload, 1) := by decide +kernel
theorem dX9_guess_49 : decode cX9_guess 49 = .ok (.iload_n 2, 1) := by decide +kernel
theorem dX9_guess_50 : decode cX9_guess 50 = .ok (.iload_n 3, 1) := by decide +kernel
theorem dX9_guess_51 : decode cX9_guess 51 = .ok (.invokevirtual 152, 3) := by decide +kernel
theorem dX9_guess_54 : decode cX9_guess 54 = .ok (.ireturn, 1) := by decide +kernel
set_option maxRecDepth 20000 in
theorem ggX9_same_X9_isName : GoodIn wsX9_same wsX9_isName := goodIn_r _ [9, 1, 60, 61, 62, 63, 64, 65, 66, 67, 68, 69, 70, 71, 72, 73, 74] (by decide +kernel) (by decide +kernel)
set_option maxRecDepth 20000 in
theorem gX9_same_X9_isName : GoodIn wsX9_same (wsV RX9 146 RX9 yX9_isName wsX9_isName) := goodIn_app (goodIn_of _ (by decide +kernel)) ggX9_same_X9_isName
set_option maxRecDepth 20000 in
theorem ggX9_same_X9_laysNow : GoodIn wsX9_same wsX9_laysNow := goodIn_r _ [13, 1, 14, 15, 16, 8, 17, 18, 2, 19, 4, 3, 20, 21, 22, 23, 24, 25, 26, 27, 28, 29, 30, 31, 32, 33, 34, 35, 36, 37, 38, 39, 40, 41, 42, 43, 44, 45, 46, 47, 48, 49, 50, 51, 52, 53, 54, 55, 56, 57, 58, 59, 60, 61, 62, 63, 64, 65, 66, 67, 68, 69, 70, 71, 72, 73, 74] (by decide +kernel) (by decide +kernel)
set_option maxRecDepth 20000 in
theorem gX9_same_X9_laysNow : GoodIn wsX9_same (wsV RX9 131 RX9 yX9_laysNow wsX9_laysNow) := goodIn_app (goodIn_of _ (by decide +kernel)) ggX9_same_X9_laysNow
set_option maxRecDepth 20000 in
theorem ggX9_same_X9_each : GoodIn wsX9_same wsX9_each := goodIn_r _ [31, 1, 60, 61, 62, 63, 64, 65, 66, 67, 68, 69, 70, 71, 72, 73, 74] (by decide +kernel) (by decide +kernel)
set_option maxRecDepth 20000 in
theorem gX9_same_X9_each : GoodIn wsX9_same (wsV RX9 86 RX9 yX9_each wsX9_each) := goodIn_app (goodIn_of _ (by decide +kernel)) ggX9_same_X9_each
theorem dX9_same_0 : decode cX9_same 0 = .ok (.aload_n 0, 1) := by decide +kernel
theorem dX9_same_1 : decode cX9_same 1 = .ok (.iload_n 1, 1) := by decide +kernel
theorem dX9_same_2 : decode cX9_same 2 = .ok (.invokevirtual 146, 3) := by decide +kernel
theorem dX9_same_5 : decode cX9_same 5 = .ok (.ifCond .eq 11, 3) := by decide +kernel
theorem dX9_same_8 : decode cX9_same 8 = .ok (.aload_n 0, 1) := by decide +kernel
theorem dX9_same_9 : decode cX9_same 9 = .ok (.iload_n 2, 1) := by decide +kernel
theorem dX9_same_10 : decode cX9_same 10 = .ok (.invokevirtual 146, 3) := by decide +kernel
theorem dX9_same_13 : decode cX9_same 13 = .ok (.ifCond .ne 6, 3) := by decide +kernel
theorem dX9_same_16 : decode cX9_same 16 = .ok (.bipush (-11), 2) := by decide +kernel
theorem dX9_same_18 : decode cX9_same 18 = .ok (.ireturn, 1) := by decide +kernel
theorem dX9_same_19 : decode cX9_same 19 = .ok (.aload_n 0, 1) := by decide +kernel
theorem dX9_same_20 : decode cX9_same 20 = .ok (.invokevirtual 131, 3) := by decide +kernel
theorem dX9_same_23 : decode cX9_same 23 = .ok (.iconst 1, 1) := by decide +kernel
theorem dX9_same_24 : decode cX9_same 24 = .ok (.istore_n 3, 1) := by decide +kernel
theorem dX9_same_25 : decode cX9_same 25 = .ok (.iconst 0, 1) := by decide +kernel
theorem dX9_same_26 : decode cX9_same 26 = .ok (.istore 4, 2) := by decide +kernel
theorem dX9_same_28 : decode cX9_same 28 = .ok (.iload 4, 2) := by decide +kernel
theorem dX9_same_30 : decode cX9_same 30 = .ok (.aload_n 0, 1) := by decide +kernel
theorem dX9_same_31 : decode cX9_same 31 = .ok (.getfield 7, 3) := by decide +kernel
theorem dX9_same_34 : decode cX9_same 34 = .ok (.iconst 0, 1) := by decide +kernel
theorem dX9_same_35 : decode cX9_same 35 = .ok (.iaload, 1) := by decide +kernel
theorem dX9_same_36 : decode cX9_same 36 = .ok (.if_icmp .ge 107, 3) := by decide +kernel
theorem dX9_same_39 : decode cX9_same 39 = .ok (.aload_n 0, 1) := by decide +kernel
theorem dX9_same_40 : decode cX9_same 40 = .ok (.getfield 28, 3) := by decide +kernel
theorem dX9_same_43 : decode cX9_same 43 = .ok (.iload 4, 2) := by decide +kernel
theorem dX9_same_45 : decode cX9_same 45 = .ok (.iaload, 1) := by decide +kernel
theorem dX9_same_46 : decode cX9_same 46 = .ok (.ifCond .ge 7, 3) := by decide +kernel
theorem dX9_same_49 : decode cX9_same 49 = .ok (.iconst (-1), 1) := by decide +kernel
theorem dX9_same_50 : decode cX9_same 50 = .ok (.goto 15, 3) := by decide +kernel
theorem dX9_same_53 : decode cX9_same 53 = .ok (.aload_n 0, 1) := by decide +kernel
theorem dX9_same_54 : decode cX9_same 54 = .ok (.getfield 28, 3) := by decide +kernel
theorem dX9_same_57 : decode cX9_same 57 = .ok (.iload 4, 2) := by decide +kernel
theorem dX9_same_59 : decode cX9_same 59 = .ok (.iaload, 1) := by decide +kernel
theorem dX9_same_60 : decode cX9_same 60 = .ok (.aload_n 0, 1) := by decide +kernel
theorem dX9_same_61 : decode cX9_same 61 = .ok (.invokevirtual 86, 3) := by decide +kernel
theorem dX9_same_64 : decode cX9_same 64 = .ok (.idiv, 1) := by decide +kernel
theorem dX9_same_65 : decode cX9_same 65 = .ok (.istore 5, 2) := by decide +kernel
theorem dX9_same_67 : decode cX9_same 67 = .ok (.iload 5, 2) := by decide +kernel
theorem dX9_same_69 : decode cX9_same 69 = .ok (.iload_n 1, 1) := by decide +kernel
theorem dX9_same_70 : decode cX9_same 70 = .ok (.if_icmp .eq 9, 3) := by decide +kernel
theorem dX9_same_73 : decode cX9_same 73 = .ok (.iload 5, 2) := by decide +kernel
theorem dX9_same_75 : decode cX9_same 75 = .ok (.iload_n 2, 1) := by decide +kernel
theorem dX9_same_76 : decode cX9_same 76 = .ok (.if_icmp .ne 61, 3) := by decide +kernel
theorem dX9_same_79 : decode cX9_same 79 = .ok (.iload 5, 2) := by decide +kernel
theorem dX9_same_81 : decode cX9_same 81 = .ok (.iload_n 1, 1) := by decide +kernel
theorem dX9_same_82 : decode cX9_same 82 = .ok (.if_icmp .ne 7, 3) := by decide +kernel
theorem dX9_same_85 : decode cX9_same 85 = .ok (.iload_n 2, 1) := by decide +kernel
theorem dX9_same_86 : decode cX9_same 86 = .ok (.goto 4, 3) := by decide +kernel
theorem dX9_same_89 : decode cX9_same 89 = .ok (.iload_n 1, 1) := by decide +kernel
theorem dX9_same_90 : decode cX9_same 90 = .ok (.istore 6, 2) := by decide +kernel
theorem dX9_same_92 : decode cX9_same 92 = .ok (.iload_n 3, 1) := by decide +kernel
theorem dX9_same_93 : decode cX9_same 93 = .ok (.ifCond .eq 42, 3) := by decide +kernel
theorem dX9_same_96 : decode cX9_same 96 = .ok (.aload_n 0, 1) := by decide +kernel
theorem dX9_same_97 : decode cX9_same 97 = .ok (.getfield 22, 3) := by decide +kernel
theorem dX9_same_100 : decode cX9_same 100 = .ok (.iload 6, 2) := by decide +kernel
theorem dX9_same_102 : decode cX9_same 102 = .ok (.aload_n 0, 1) := by decide +kernel
theorem dX9_same_103 : decode cX9_same 103 = .ok (.invokevirtual 86, 3) := by decide +kernel
theorem dX9_same_106 : decode cX9_same 106 = .ok (.imul, 1) := by decide +kernel
theorem dX9_same_107 : decode cX9_same 107 = .ok (.aload_n 0, 1) := by decide +kernel
theorem dX9_same_108 : decode cX9_same 108 = .ok (.getfield 28, 3) := by decide +kernel
theorem dX9_same_111 : decode cX9_same 111 = .ok (.iload 4, 2) := by decide +kernel
theorem dX9_same_113 : decode cX9_same 113 = .ok (.iaload, 1) := by decide +kernel
theorem dX9_same_114 : decode cX9_same 114 = .ok (.aload_n 0, 1) := by decide +kernel
theorem dX9_same_115 : decode cX9_same 115 = .ok (.invokevirtual 86, 3) := by decide +kernel
theorem dX9_same_118 : decode cX9_same 118 = .ok (.irem, 1) := by decide +kernel
theorem dX9_same_119 : decode cX9_same 119 = .ok (.iadd, 1) := by decide +kernel
theorem dX9_same_120 : decode cX9_same 120 = .ok (.iaload, 1) := by decide +kernel
theorem dX9_same_121 : decode cX9_same 121 = .ok (.aload_n 0, 1) := by decide +kernel
theorem dX9_same_122 : decode cX9_same 122 = .ok (.getfield 31, 3) := by decide +kernel
theorem dX9_same_125 : decode cX9_same 125 = .ok (.iload 4, 2) := by decide +kernel
theorem dX9_same_127 : decode cX9_same 127 = .ok (.iaload, 1) := by decide +kernel
theorem dX9_same_128 : decode cX9_same 128 = .ok (.if_icmp .ne 7, 3) := by decide +kernel
theorem dX9_same_131 : decode cX9_same 131 = .ok (.iconst 1, 1) := by decide +kernel
theorem dX9_same_132 : decode cX9_same 132 = .ok (.goto 4, 3) := by decide +kernel
theorem dX9_same_135 : decode cX9_same 135 = .ok (.iconst 0, 1) := by decide +kernel
theorem dX9_same_136 : decode cX9_same 136 = .ok (.istore_n 3, 1) := by decide +kernel
theorem dX9_same_137 : decode cX9_same 137 = .ok (.iinc 4 1, 3) := by decide +kernel
theorem dX9_same_140 : decode cX9_same 140 = .ok (.goto (-112), 3) := by decide +kernel
theorem dX9_same_143 : decode cX9_same 143 = .ok (.iload_n 3, 1) := by decide +kernel
theorem dX9_same_144 : decode cX9_same 144 = .ok (.ifCond .eq 7, 3) := by decide +kernel
theorem dX9_same_147 : decode cX9_same 147 = .ok (.iconst 1, 1) := by decide +kernel
theorem dX9_same_148 : decode cX9_same 148 = .ok (.goto 4, 3) := by decide +kernel
theorem dX9_same_151 : decode cX9_same 151 = .ok (.iconst 0, 1) := by decide +kernel
theorem dX9_same_152 : decode cX9_same 152 = .ok (.ireturn, 1) := by decide +kernel
set_option maxRecDepth 20000 in
theorem ggX9_stepFor_X9_in : GoodIn wsX9_stepFor wsX9_in := goodIn_r _ [4] (by decide +kernel) (by decide +kernel)
set_option maxRecDepth 20000 in
theorem gX9_stepFor_X9_in : GoodIn wsX9_stepFor (va_wsS RX9 44 yX9_in wsX9_in) := goodIn_app (goodIn_of _ (by decide +kernel)) ggX9_stepFor_X9_in
set_option maxRecDepth 20000 in
theorem ggX9_stepFor_X9_lays : GoodIn wsX9_stepFor wsX9_lays := goodIn_r _ [8, 9, 10, 11, 12, 13, 14, 15, 16, 17, 18, 19, 3, 20, 21, 22, 23, 24, 25, 26, 27, 28, 29, 30, 31, 32, 33, 34, 35, 36, 37, 38, 39, 40, 41, 42, 43, 44, 45, 46, 47, 48, 49, 50, 51, 52, 53, 54, 66, 67, 68, 69, 70, 71, 72, 73, 74, 75, 76, 77, 78, 79, 80] (by decide +kernel) (by decide +kernel)
set_option maxRecDepth 20000 in
theorem gX9_stepFor_X9_lays : GoodIn wsX9_stepFor (wsV RX9 122 RX9 yX9_lays wsX9_lays) := goodIn_app (goodIn_of _ (by decide +kernel)) ggX9_stepFor_X9_lays
set_option maxRecDepth 20000 in
theorem ggX9_stepFor_X9_fewest : GoodIn wsX9_stepFor wsX9_fewest := goodIn_r _ [58, 10, 11, 13, 59, 60, 61, 3, 62, 12, 14, 23, 24, 25, 26, 63, 64, 65, 66, 67, 68, 69, 70, 71, 72, 73, 74, 75, 76, 77, 78, 79, 80] (by decide +kernel) (by decide +kernel)
set_option maxRecDepth 20000 in
theorem gX9_stepFor_X9_fewest : GoodIn wsX9_stepFor (wsV RX9 155 RX9 yX9_fewest wsX9_fewest) := goodIn_app (goodIn_of _ (by decide +kernel)) ggX9_stepFor_X9_fewest
theorem dX9_stepFor_0 : decode cX9_stepFor 0 = .ok (.iload_n 1, 1) := by decide +kernel
theorem dX9_stepFor_1 : decode cX9_stepFor 1 = .ok (.iconst 1, 1) := by decide +kernel
theorem dX9_stepFor_2 : decode cX9_stepFor 2 = .ok (.bipush 8, 2) := by decide +kernel
theorem dX9_stepFor_4 : decode cX9_stepFor 4 = .ok (.invokestatic 44, 3) := by decide +kernel
theorem dX9_stepFor_7 : decode cX9_stepFor 7 = .ok (.ifCond .ne 6, 3) := by decide +kernel
theorem dX9_stepFor_10 : decode cX9_stepFor 10 = .ok (.bipush (-11), 2) := by decide +kernel
theorem dX9_stepFor_12 : decode cX9_stepFor 12 = .ok (.ireturn, 1) := by decide +kernel
theorem dX9_stepFor_13 : decode cX9_stepFor 13 = .ok (.iconst 1, 1) := by decide +kernel
theorem dX9_stepFor_14 : decode cX9_stepFor 14 = .ok (.istore_n 2, 1) := by decide +kernel
theorem dX9_stepFor_15 : decode cX9_stepFor 15 = .ok (.iload_n 2, 1) := by decide +kernel
theorem dX9_stepFor_16 : decode cX9_stepFor 16 = .ok (.bipush 50, 2) := by decide +kernel
theorem dX9_stepFor_18 : decode cX9_stepFor 18 = .ok (.if_icmp .gt 25, 3) := by decide +kernel
theorem dX9_stepFor_21 : decode cX9_stepFor 21 = .ok (.aload_n 0, 1) := by decide +kernel
theorem dX9_stepFor_22 : decode cX9_stepFor 22 = .ok (.iconst 1, 1) := by decide +kernel
theorem dX9_stepFor_23 : decode cX9_stepFor 23 = .ok (.iload_n 2, 1) := by decide +kernel
theorem dX9_stepFor_24 : decode cX9_stepFor 24 = .ok (.invokevirtual 122, 3) := by decide +kernel
theorem dX9_stepFor_27 : decode cX9_stepFor 27 = .ok (.aload_n 0, 1) := by decide +kernel
theorem dX9_stepFor_28 : decode cX9_stepFor 28 = .ok (.invokevirtual 155, 3) := by decide +kernel
theorem dX9_stepFor_31 : decode cX9_stepFor 31 = .ok (.iload_n 1, 1) := by decide +kernel
theorem dX9_stepFor_32 : decode cX9_stepFor 32 = .ok (.if_icmp .lt 5, 3) := by decide +kernel
theorem dX9_stepFor_35 : decode cX9_stepFor 35 = .ok (.iload_n 2, 1) := by decide +kernel
theorem dX9_stepFor_36 : decode cX9_stepFor 36 = .ok (.ireturn, 1) := by decide +kernel
theorem dX9_stepFor_37 : decode cX9_stepFor 37 = .ok (.iinc 2 1, 3) := by decide +kernel
theorem dX9_stepFor_40 : decode cX9_stepFor 40 = .ok (.goto (-25), 3) := by decide +kernel
theorem dX9_stepFor_43 : decode cX9_stepFor 43 = .ok (.bipush (-14), 2) := by decide +kernel
theorem dX9_stepFor_45 : decode cX9_stepFor 45 = .ok (.ireturn, 1) := by decide +kernel
set_option maxRecDepth 20000 in
theorem ggX9_modeFor_X9_lays : GoodIn wsX9_modeFor wsX9_lays := goodIn_r _ [6, 7, 1, 8, 9, 10, 11, 12, 13, 14, 15, 16, 5, 17, 18, 19, 20, 21, 22, 23, 24, 25, 26, 27, 28, 29, 30, 31, 32, 33, 34, 35, 36, 37, 38, 39, 40, 41, 42, 43, 44, 45, 46, 47, 48, 49, 50, 51, 63, 64, 65, 66, 67, 68, 69, 70, 71, 72, 73, 74, 75, 76, 77] (by decide +kernel) (by decide +kernel)
set_option maxRecDepth 20000 in
theorem gX9_modeFor_X9_lays : GoodIn wsX9_modeFor (wsV RX9 122 RX9 yX9_lays wsX9_lays) := goodIn_app (goodIn_of _ (by decide +kernel)) ggX9_modeFor_X9_lays
set_option maxRecDepth 20000 in
theorem ggX9_modeFor_X9_sumOf : GoodIn wsX9_modeFor wsX9_sumOf := goodIn_r _ [55, 1, 8, 10, 18, 56, 57, 58, 5, 59, 9, 11, 20, 21, 22, 23, 60, 61, 62, 63, 64, 65, 66, 67, 68, 69, 70, 71, 72, 73, 74, 75, 76, 77] (by decide +kernel) (by decide +kernel)
set_option maxRecDepth 20000 in
theorem gX9_modeFor_X9_sumOf : GoodIn wsX9_modeFor (wsV RX9 134 RX9 yX9_sumOf wsX9_sumOf) := goodIn_app (goodIn_of _ (by decide +kernel)) ggX9_modeFor_X9_sumOf
theorem dX9_modeFor_0 : decode cX9_modeFor 0 = .ok (.bipush (-14), 2) := by decide +kernel
theorem dX9_modeFor_2 : decode cX9_modeFor 2 = .ok (.istore_n 1, 1) := by decide +kernel
theorem dX9_modeFor_3 : decode cX9_modeFor 3 = .ok (.iconst 0, 1) := by decide +kernel
theorem dX9_modeFor_4 : decode cX9_modeFor 4 = .ok (.istore_n 2, 1) := by decide +kernel
theorem dX9_modeFor_5 : decode cX9_modeFor 5 = .ok (.iconst 0, 1) := by decide +kernel
theorem dX9_modeFor_6 : decode cX9_modeFor 6 = .ok (.istore_n 3, 1) := by decide +kernel
theorem dX9_modeFor_7 : decode cX9_modeFor 7 = .ok (.iload_n 3, 1) := by decide +kernel
theorem dX9_modeFor_8 : decode cX9_modeFor 8 = .ok (.iconst 4, 1) := by decide +kernel
theorem dX9_modeFor_9 : decode cX9_modeFor 9 = .ok (.if_icmp .ge 54, 3) := by decide +kernel
theorem dX9_modeFor_12 : decode cX9_modeFor 12 = .ok (.aload_n 0, 1) := by decide +kernel
theorem dX9_modeFor_13 : decode cX9_modeFor 13 = .ok (.iload_n 3, 1) := by decide +kernel
theorem dX9_modeFor_14 : decode cX9_modeFor 14 = .ok (.aload_n 0, 1) := by decide +kernel
theorem dX9_modeFor_15 : decode cX9_modeFor 15 = .ok (.getfield 7, 3) := by decide +kernel
theorem dX9_modeFor_18 : decode cX9_modeFor 18 = .ok (.iconst 4, 1) := by decide +kernel
theorem dX9_modeFor_19 : decode cX9_modeFor 19 = .ok (.iaload, 1) := by decide +kernel
theorem dX9_modeFor_20 : decode cX9_modeFor 20 = .ok (.invokevirtual 122, 3) := by decide +kernel
theorem dX9_modeFor_23 : decode cX9_modeFor 23 = .ok (.aload_n 0, 1) := by decide +kernel
theorem dX9_modeFor_24 : decode cX9_modeFor 24 = .ok (.bipush 12, 2) := by decide +kernel
theorem dX9_modeFor_26 : decode cX9_modeFor 26 = .ok (.invokevirtual 134, 3) := by decide +kernel
theorem dX9_modeFor_29 : decode cX9_modeFor 29 = .ok (.istore 4, 2) := by decide +kernel
theorem dX9_modeFor_31 : decode cX9_modeFor 31 = .ok (.aload_n 0, 1) := by decide +kernel
theorem dX9_modeFor_32 : decode cX9_modeFor 32 = .ok (.bipush 11, 2) := by decide +kernel
theorem dX9_modeFor_34 : decode cX9_modeFor 34 = .ok (.invokevirtual 134, 3) := by decide +kernel
theorem dX9_modeFor_37 : decode cX9_modeFor 37 = .ok (.ifCond .ne 20, 3) := by decide +kernel
theorem dX9_modeFor_40 : decode cX9_modeFor 40 = .ok (.iload_n 1, 1) := by decide +kernel
theorem dX9_modeFor_41 : decode cX9_modeFor 41 = .ok (.bipush (-14), 2) := by decide +kernel
theorem dX9_modeFor_43 : decode cX9_modeFor 43 = .ok (.if_icmp .eq 9, 3) := by decide +kernel
theorem dX9_modeFor_46 : decode cX9_modeFor 46 = .ok (.iload 4, 2) := by decide +kernel
theorem dX9_modeFor_48 : decode cX9_modeFor 48 = .ok (.iload_n 2, 1) := by decide +kernel
theorem dX9_modeFor_49 : decode cX9_modeFor 49 = .ok (.if_icmp .ge 8, 3) := by decide +kernel
theorem dX9_modeFor_52 : decode cX9_modeFor 52 = .ok (.iload_n 3, 1) := by decide +kernel
theorem dX9_modeFor_53 : decode cX9_modeFor 53 = .ok (.istore_n 1, 1) := by decide +kernel
theorem dX9_modeFor_54 : decode cX9_modeFor 54 = .ok (.iload 4, 2) := by decide +kernel
theorem dX9_modeFor_56 : decode cX9_modeFor 56 = .ok (.istore_n 2, 1) := by decide +kernel
theorem dX9_modeFor_57 : decode cX9_modeFor 57 = .ok (.iinc 3 1, 3) := by decide +kernel
theorem dX9_modeFor_60 : decode cX9_modeFor 60 = .ok (.goto (-53), 3) := by decide +kernel
theorem dX9_modeFor_63 : decode cX9_modeFor 63 = .ok (.iload_n 1, 1) := by decide +kernel
theorem dX9_modeFor_64 : decode cX9_modeFor 64 = .ok (.ireturn, 1) := by decide +kernel
theorem dX9_undo_0 : decode cX9_undo 0 = .ok (.aload_n 0, 1) := by decide +kernel
theorem dX9_undo_1 : decode cX9_undo 1 = .ok (.getfield 40, 3) := by decide +kernel
theorem dX9_undo_4 : decode cX9_undo 4 = .ok (.ifCond .ne 6, 3) := by decide +kernel
theorem dX9_undo_7 : decode cX9_undo 7 = .ok (.bipush (-12), 2) := by decide +kernel
theorem dX9_undo_9 : decode cX9_undo 9 = .ok (.ireturn, 1) := by decide +kernel
theorem dX9_undo_10 : decode cX9_undo 10 = .ok (.aload_n 0, 1) := by decide +kernel
theorem dX9_undo_11 : decode cX9_undo 11 = .ok (.dup, 1) := by decide +kernel
theorem dX9_undo_12 : decode cX9_undo 12 = .ok (.getfield 40, 3) := by decide +kernel
theorem dX9_undo_15 : decode cX9_undo 15 = .ok (.iconst 1, 1) := by decide +kernel
theorem dX9_undo_16 : decode cX9_undo 16 = .ok (.isub, 1) := by decide +kernel
theorem dX9_undo_17 : decode cX9_undo 17 = .ok (.putfield 40, 3) := by decide +kernel
theorem dX9_undo_20 : decode cX9_undo 20 = .ok (.iconst 0, 1) := by decide +kernel
theorem dX9_undo_21 : decode cX9_undo 21 = .ok (.istore_n 1, 1) := by decide +kernel
theorem dX9_undo_22 : decode cX9_undo 22 = .ok (.iload_n 1, 1) := by decide +kernel
theorem dX9_undo_23 : decode cX9_undo 23 = .ok (.sipush 642, 3) := by decide +kernel
theorem dX9_undo_26 : decode cX9_undo 26 = .ok (.if_icmp .ge 30, 3) := by decide +kernel
theorem dX9_undo_29 : decode cX9_undo 29 = .ok (.aload_n 0, 1) := by decide +kernel
theorem dX9_undo_30 : decode cX9_undo 30 = .ok (.getfield 7, 3) := by decide +kernel
theorem dX9_undo_33 : decode cX9_undo 33 = .ok (.iload_n 1, 1) := by decide +kernel
theorem dX9_undo_34 : decode cX9_undo 34 = .ok (.aload_n 0, 1) := by decide +kernel
theorem dX9_undo_35 : decode cX9_undo 35 = .ok (.getfield 13, 3) := by decide +kernel
theorem dX9_undo_38 : decode cX9_undo 38 = .ok (.sipush 642, 3) := by decide +kernel
theorem dX9_undo_41 : decode cX9_undo 41 = .ok (.aload_n 0, 1) := by decide +kernel
theorem dX9_undo_42 : decode cX9_undo 42 = .ok (.getfield 40, 3) := by decide +kernel
theorem dX9_undo_45 : decode cX9_undo 45 = .ok (.imul, 1) := by decide +kernel
theorem dX9_undo_46 : decode cX9_undo 46 = .ok (.iload_n 1, 1) := by decide +kernel
theorem dX9_undo_47 : decode cX9_undo 47 = .ok (.iadd, 1) := by decide +kernel
theorem dX9_undo_48 : decode cX9_undo 48 = .ok (.iaload, 1) := by decide +kernel
theorem dX9_undo_49 : decode cX9_undo 49 = .ok (.iastore, 1) := by decide +kernel
theorem dX9_undo_50 : decode cX9_undo 50 = .ok (.iinc 1 1, 3) := by decide +kernel
theorem dX9_undo_53 : decode cX9_undo 53 = .ok (.goto (-31), 3) := by decide +kernel
theorem dX9_undo_56 : decode cX9_undo 56 = .ok (.aload_n 0, 1) := by decide +kernel
theorem dX9_undo_57 : decode cX9_undo 57 = .ok (.getfield 40, 3) := by decide +kernel
theorem dX9_undo_60 : decode cX9_undo 60 = .ok (.ireturn, 1) := by decide +kernel
theorem dJ6_bitCount_0f7a4_0 : decode cJ6_bitCount_0f7a4 0 = .ok (.iload_n 0, 1) := by decide +kernel
theorem dJ6_bitCount_0f7a4_1 : decode cJ6_bitCount_0f7a4 1 = .ok (.iload_n 0, 1) := by decide +kernel
theorem dJ6_bitCount_0f7a4_2 : decode cJ6_bitCount_0f7a4 2 = .ok (.iconst 1, 1) := by decide +kernel
theorem dJ6_bitCount_0f7a4_3 : decode cJ6_bitCount_0f7a4 3 = .ok (.iushr, 1) := by decide +kernel
theorem dJ6_bitCount_0f7a4_4 : decode cJ6_bitCount_0f7a4 4 = .ok (.ldc_w 265, 3) := by decide +kernel
theorem dJ6_bitCount_0f7a4_7 : decode cJ6_bitCount_0f7a4 7 = .ok (.iand, 1) := by decide +kernel
theorem dJ6_bitCount_0f7a4_8 : decode cJ6_bitCount_0f7a4 8 = .ok (.isub, 1) := by decide +kernel
theorem dJ6_bitCount_0f7a4_9 : decode cJ6_bitCount_0f7a4 9 = .ok (.istore_n 0, 1) := by decide +kernel
theorem dJ6_bitCount_0f7a4_10 : decode cJ6_bitCount_0f7a4 10 = .ok (.iload_n 0, 1) := by decide +kernel
theorem dJ6_bitCount_0f7a4_11 : decode cJ6_bitCount_0f7a4 11 = .ok (.ldc_w 266, 3) := by decide +kernel
theorem dJ6_bitCount_0f7a4_14 : decode cJ6_bitCount_0f7a4 14 = .ok (.iand, 1) := by decide +kernel
theorem dJ6_bitCount_0f7a4_15 : decode cJ6_bitCount_0f7a4 15 = .ok (.iload_n 0, 1) := by decide +kernel
theorem dJ6_bitCount_0f7a4_16 : decode cJ6_bitCount_0f7a4 16 = .ok (.iconst 2, 1) := by decide +kernel
theorem dJ6_bitCount_0f7a4_17 : decode cJ6_bitCount_0f7a4 17 = .ok (.iushr, 1) := by decide +kernel
theorem dJ6_bitCount_0f7a4_18 : decode cJ6_bitCount_0f7a4 18 = .ok (.ldc_w 266, 3) := by decide +kernel
theorem dJ6_bitCount_0f7a4_21 : decode cJ6_bitCount_0f7a4 21 = .ok (.iand, 1) := by decide +kernel
theorem dJ6_bitCount_0f7a4_22 : decode cJ6_bitCount_0f7a4 22 = .ok (.iadd, 1) := by decide +kernel
theorem dJ6_bitCount_0f7a4_23 : decode cJ6_bitCount_0f7a4 23 = .ok (.istore_n 0, 1) := by decide +kernel
theorem dJ6_bitCount_0f7a4_24 : decode cJ6_bitCount_0f7a4 24 = .ok (.iload_n 0, 1) := by decide +kernel
theorem dJ6_bitCount_0f7a4_25 : decode cJ6_bitCount_0f7a4 25 = .ok (.iload_n 0, 1) := by decide +kernel
theorem dJ6_bitCount_0f7a4_26 : decode cJ6_bitCount_0f7a4 26 = .ok (.iconst 4, 1) := by decide +kernel
theorem dJ6_bitCount_0f7a4_27 : decode cJ6_bitCount_0f7a4 27 = .ok (.iushr, 1) := by decide +kernel
theorem dJ6_bitCount_0f7a4_28 : decode cJ6_bitCount_0f7a4 28 = .ok (.iadd, 1) := by decide +kernel
theorem dJ6_bitCount_0f7a4_29 : decode cJ6_bitCount_0f7a4 29 = .ok (.ldc_w 267, 3) := by decide +kernel
theorem dJ6_bitCount_0f7a4_32 : decode cJ6_bitCount_0f7a4 32 = .ok (.iand, 1) := by decide +kernel
theorem dJ6_bitCount_0f7a4_33 : decode cJ6_bitCount_0f7a4 33 = .ok (.istore_n 0, 1) := by decide +kernel
theorem dJ6_bitCount_0f7a4_34 : decode cJ6_bitCount_0f7a4 34 = .ok (.iload_n 0, 1) := by decide +kernel
theorem dJ6_bitCount_0f7a4_35 : decode cJ6_bitCount_0f7a4 35 = .ok (.iload_n 0, 1) := by decide +kernel
theorem dJ6_bitCount_0f7a4_36 : decode cJ6_bitCount_0f7a4 36 = .ok (.bipush 8, 2) := by decide +kernel
theorem dJ6_bitCount_0f7a4_38 : decode cJ6_bitCount_0f7a4 38 = .ok (.iushr, 1) := by decide +kernel
theorem dJ6_bitCount_0f7a4_39 : decode cJ6_bitCount_0f7a4 39 = .ok (.iadd, 1) := by decide +kernel
theorem dJ6_bitCount_0f7a4_40 : decode cJ6_bitCount_0f7a4 40 = .ok (.istore_n 0, 1) := by decide +kernel
theorem dJ6_bitCount_0f7a4_41 : decode cJ6_bitCount_0f7a4 41 = .ok (.iload_n 0, 1) := by decide +kernel
theorem dJ6_bitCount_0f7a4_42 : decode cJ6_bitCount_0f7a4 42 = .ok (.iload_n 0, 1) := by decide +kernel
theorem dJ6_bitCount_0f7a4_43 : decode cJ6_bitCount_0f7a4 43 = .ok (.bipush 16, 2) := by decide +kernel
theorem dJ6_bitCount_0f7a4_45 : decode cJ6_bitCount_0f7a4 45 = .ok (.iushr, 1) := by decide +kernel
theorem dJ6_bitCount_0f7a4_46 : decode cJ6_bitCount_0f7a4 46 = .ok (.iadd, 1) := by decide +kernel
theorem dJ6_bitCount_0f7a4_47 : decode cJ6_bitCount_0f7a4 47 = .ok (.istore_n 0, 1) := by decide +kernel
theorem dJ6_bitCount_0f7a4_48 : decode cJ6_bitCount_0f7a4 48 = .ok (.iload_n 0, 1) := by decide +kernel
theorem dJ6_bitCount_0f7a4_49 : decode cJ6_bitCount_0f7a4 49 = .ok (.bipush 63, 2) := by decide +kernel
theorem dJ6_bitCount_0f7a4_51 : decode cJ6_bitCount_0f7a4 51 = .ok (.iand, 1) := by decide +kernel
theorem dJ6_bitCount_0f7a4_52 : decode cJ6_bitCount_0f7a4 52 = .ok (.ireturn, 1) := by decide +kernel
theorem dJ9_max_7cf53_0 : decode cJ9_max_7cf53 0 = .ok (.iload_n 0, 1) := by decide +kernel
theorem dJ9_max_7cf53_1 : decode cJ9_max_7cf53 1 = .ok (.iload_n 1, 1) := by decide +kernel
theorem dJ9_max_7cf53_2 : decode cJ9_max_7cf53 2 = .ok (.if_icmp .lt 7, 3) := by decide +kernel
theorem dJ9_max_7cf53_5 : decode cJ9_max_7cf53 5 = .ok (.iload_n 0, 1) := by decide +kernel
theorem dJ9_max_7cf53_6 : decode cJ9_max_7cf53 6 = .ok (.goto 4, 3) := by decide +kernel
theorem dJ9_max_7cf53_9 : decode cJ9_max_7cf53 9 = .ok (.iload_n 1, 1) := by decide +kernel
theorem dJ9_max_7cf53_10 : decode cJ9_max_7cf53 10 = .ok (.ireturn, 1) := by decide +kernel
theorem dJ9_min_7cf53_0 : decode cJ9_min_7cf53 0 = .ok (.iload_n 0, 1) := by decide +kernel
theorem dJ9_min_7cf53_1 : decode cJ9_min_7cf53 1 = .ok (.iload_n 1, 1) := by decide +kernel
theorem dJ9_min_7cf53_2 : decode cJ9_min_7cf53 2 = .ok (.if_icmp .gt 7, 3) := by decide +kernel
theorem dJ9_min_7cf53_5 : decode cJ9_min_7cf53 5 = .ok (.iload_n 0, 1) := by decide +kernel
theorem dJ9_min_7cf53_6 : decode cJ9_min_7cf53 6 = .ok (.goto 4, 3) := by decide +kernel
theorem dJ9_min_7cf53_9 : decode cJ9_min_7cf53 9 = .ok (.iload_n 1, 1) := by decide +kernel
theorem dJ9_min_7cf53_10 : decode cJ9_min_7cf53 10 = .ok (.ireturn, 1) := by decide +kernel
set_option maxRecDepth 20000 in
theorem ggL_law_X8_init : GoodIn wsL_law wsX8_init := goodIn_r _ [8, 9, 10, 11, 12, 13, 14, 15, 16, 17, 18, 19, 20, 21, 22, 23, 24, 25, 26, 27, 28, 29, 30, 31, 32, 33, 34, 35, 36, 37, 38, 39, 40, 41, 42, 43, 44, 45, 46, 47, 48, 49, 50, 51, 52, 53, 54, 55, 56, 57, 58, 59, 60, 61, 62, 63, 64, 65, 66, 67, 68, 69, 70, 71, 72, 73, 74, 75, 76, 77, 78, 79, 80, 81, 82, 83, 84, 85, 86, 87, 88, 89, 90, 91, 92, 93, 94, 95, 96, 97, 98, 99, 100, 101, 102, 103, 104, 105, 106, 107, 108, 109, 110, 111, 112, 113, 114, 115, 116, 117, 118, 119, 120, 121, 122, 123, 124, 125, 126, 127, 128, 129, 130, 850, 851, 828, 829, 830, 831, 832, 833, 834, 852, 853, 854, 855, 856, 857, 858, 859, 860, 861, 862, 863, 864, 865, 866, 867, 868, 869, 870, 871, 872, 873, 874, 875, 876, 877, 878, 879, 880] (by decide +kernel) (by decide +kernel)
set_option maxRecDepth 20000 in
theorem gL_law_X8_init : GoodIn wsL_law (wsX8_init) := ggL_law_X8_init
set_option maxRecDepth 20000 in
theorem ggL_law_X9_init : GoodIn wsL_law wsX9_init := goodIn_r _ [133, 134, 10, 11, 54, 135, 136, 137, 138, 139, 140, 141, 142, 143, 144, 835, 836, 837, 838, 839, 840, 841, 842, 843, 844, 845, 846, 847, 848, 849] (by decide +kernel) (by decide +kernel)
set_option maxRecDepth 20000 in
theorem gL_law_X9_init : GoodIn wsL_law (wsX9_init) := ggL_law_X9_init
set_option maxRecDepth 20000 in
theorem ggL_law_X8_type : GoodIn wsL_law wsX8_type := goodIn_r _ [148, 15, 149, 150, 151, 14, 152, 45, 153, 154, 155, 156, 44, 157, 158, 159, 43, 160, 55, 828, 829, 830, 831, 832, 833, 834, 850, 851, 875] (by decide +kernel) (by decide +kernel)
set_option maxRecDepth 20000 in
theorem gL_law_X8_type : GoodIn wsL_law (wsV RL 13 RX8 yX8_type wsX8_type) := goodIn_app (goodIn_of _ (by decide +kernel)) ggL_law_X8_type
set_option maxRecDepth 20000 in
theorem ggL_law_X9_type : GoodIn wsL_law wsX9_type := goodIn_r _ [164, 165, 137, 166, 167, 5, 168, 835, 836, 837, 838, 839, 840, 841, 842, 843, 844, 845, 846, 847, 848, 849] (by decide +kernel) (by decide +kernel)
set_option maxRecDepth 20000 in
theorem gL_law_X9_type : GoodIn wsL_law (wsV RL 17 RX9 yX9_type wsX9_type) := goodIn_app (goodIn_of _ (by decide +kernel)) ggL_law_X9_type
set_option maxRecDepth 20000 in
theorem ggL_law_X8_clearText : GoodIn wsL_law wsX8_clearText := goodIn_r _ [172, 15, 149, 150, 151, 14, 152, 45, 173, 174, 175, 176, 828, 829, 830, 831, 832, 833, 834, 850, 851] (by decide +kernel) (by decide +kernel)
set_option maxRecDepth 20000 in
theorem gL_law_X8_clearText : GoodIn wsL_law (wsV RL 18 RX8 yX8_clearText wsX8_clearText) := goodIn_app (goodIn_of _ (by decide +kernel)) ggL_law_X8_clearText
set_option maxRecDepth 20000 in
theorem ggL_law_X9_clearText : GoodIn wsL_law wsX9_clearText := goodIn_r _ [180, 165, 835, 836, 837, 838, 839, 840, 841, 842, 843, 844, 845, 846, 847, 848, 849] (by decide +kernel) (by decide +kernel)
set_option maxRecDepth 20000 in
theorem gL_law_X9_clearText : GoodIn wsL_law (wsV RL 22 RX9 yX9_clearText wsX9_clearText) := goodIn_app (goodIn_of _ (by decide +kernel)) ggL_law_X9_clearText
set_option maxRecDepth 20000 in
theorem ggL_law_X8_fault : GoodIn wsL_law wsX8_fault := goodIn_r _ [184, 15, 185, 186, 187, 14, 188, 45, 189, 190, 191, 192, 44, 193, 194, 195, 43, 196, 55, 197, 198, 199, 200, 201, 2, 202, 203, 204, 205, 206, 207, 828, 829, 830, 831, 832, 833, 834, 850, 851, 875] (by decide +kernel) (by decide +kernel)
set_option maxRecDepth 20000 in
theorem gL_law_X8_fault : GoodIn wsL_law (wsV RL 23 RX8 yX8_fault wsX8_fault) := goodIn_app (goodIn_of _ (by decide +kernel)) ggL_law_X8_fault
set_option maxRecDepth 20000 in
theorem ggL_law_X9_fault : GoodIn wsL_law wsX9_fault := goodIn_r _ [211, 212, 166, 167, 5, 168, 213, 214, 215, 216, 165, 137, 217, 218, 219, 220, 221, 222, 223, 835, 836, 837, 838, 839, 840, 841, 842, 843, 844, 845, 846, 847, 848, 849] (by decide +kernel) (by decide +kernel)
set_option maxRecDepth 20000 in
theorem gL_law_X9_fault : GoodIn wsL_law (wsV RL 26 RX9 yX9_fault wsX9_fault) := goodIn_app (goodIn_of _ (by decide +kernel)) ggL_law_X9_fault
set_option maxRecDepth 20000 in
theorem ggL_law_X8_page : GoodIn wsL_law wsX8_page := goodIn_r _ [227, 15, 23, 19, 185, 186, 187, 14, 188, 45, 189, 190, 191, 192, 44, 193, 194, 195, 43, 196, 55, 197, 198, 199, 200, 201, 2, 202, 203, 204, 205, 206, 228, 229, 230, 22, 231, 95, 94, 232, 233, 234, 235, 236, 237, 238, 239, 240, 241, 242, 18, 243, 63, 64, 65, 67, 68, 244, 245, 246, 62, 247, 76, 77, 73, 78, 248, 249, 52, 250, 251, 252, 253, 254, 255, 256, 257, 258, 259, 260, 261, 262, 263, 264, 265, 266, 267, 268, 269, 150, 151, 152, 270, 271, 272, 273, 274, 275, 276, 277, 278, 158, 159, 160, 279, 280, 281, 282, 74, 283, 284, 285, 286, 287, 288, 289, 290, 291, 27, 31, 36, 292, 293, 294, 26, 295, 105, 106, 102, 103, 104, 296, 297, 298, 299, 300, 301, 302, 303, 304, 305, 306, 307, 308, 309, 310, 311, 312, 313, 314, 315, 316, 317, 318, 319, 320, 321, 322, 323, 324, 325, 30, 326, 112, 114, 327, 328, 329, 330, 331, 332, 333, 334, 335, 336, 337, 338, 339, 340, 341, 342, 343, 344, 345, 346, 347, 348, 349, 350, 351, 352, 353, 354, 355, 356, 357, 35, 358, 120, 121, 123, 124, 359, 360, 361, 362, 363, 364, 365, 366, 367, 368, 369, 370, 371, 372, 373, 374, 375, 376, 377, 129, 128, 125, 126, 127, 378, 379, 380, 381, 382, 383, 384, 385, 386, 387, 388, 389, 390, 391, 392, 393, 394, 395, 396, 397, 398, 399, 400, 828, 829, 830, 831, 832, 833, 834, 852, 853, 854, 855, 856, 850, 851, 875, 857, 858, 876, 877, 878, 879, 880, 859, 860, 861, 862, 863, 864, 865, 866, 867, 868, 869, 870, 871, 872, 873, 874] (by decide +kernel) (by decide +kernel)
set_option maxRecDepth 20000 in
theorem gL_law_X8_page : GoodIn wsL_law (wsV RL 27 RX8 yX8_page wsX8_page) := goodIn_app (goodIn_of _ (by decide +kernel)) ggL_law_X8_page
set_option maxRecDepth 20000 in
theorem ggL_law_X9_page : GoodIn wsL_law wsX9_page := goodIn_r _ [404, 135, 165, 137, 213, 214, 215, 5, 216, 212, 217, 218, 219, 220, 221, 222, 223, 166, 167, 168, 405, 406, 407, 408, 409, 136, 835, 836, 837, 838, 839, 840, 841, 842, 843, 844, 845, 846, 847, 848, 849] (by decide +kernel) (by decide +kernel)
set_option maxRecDepth 20000 in
theorem gL_law_X9_page : GoodIn wsL_law (wsV RL 30 RX9 yX9_page wsX9_page) := goodIn_app (goodIn_of _ (by decide +kernel)) ggL_law_X9_page
set_option maxRecDepth 20000 in
theorem ggL_law_X8_name : GoodIn wsL_law wsX8_name := goodIn_r _ [413, 19, 414, 415, 416, 2, 417, 15, 23, 418, 419, 420, 62, 421, 74, 422, 423, 424, 14, 425, 45, 44, 193, 194, 195, 43, 196, 55, 201, 202, 426, 427, 428, 429, 78, 430, 431, 432, 433, 283, 284, 285, 286, 77, 287, 269, 150, 151, 152, 434, 369, 370, 371, 76, 270, 271, 272, 273, 435, 436, 437, 438, 73, 228, 229, 230, 22, 231, 95, 94, 232, 233, 234, 235, 236, 237, 238, 239, 240, 241, 242, 18, 243, 63, 64, 65, 67, 68, 244, 245, 246, 247, 248, 249, 52, 250, 251, 252, 253, 254, 255, 256, 257, 258, 259, 260, 265, 266, 267, 268, 274, 275, 276, 277, 278, 158, 159, 160, 279, 280, 281, 282, 288, 289, 290, 291, 27, 31, 36, 292, 293, 294, 26, 295, 105, 106, 102, 103, 104, 296, 297, 298, 299, 300, 301, 302, 303, 304, 305, 306, 307, 308, 309, 310, 311, 312, 313, 314, 315, 316, 317, 318, 319, 320, 321, 322, 323, 324, 325, 30, 326, 112, 114, 327, 328, 329, 330, 331, 332, 333, 334, 335, 336, 337, 338, 339, 340, 341, 342, 343, 344, 345, 346, 347, 348, 349, 350, 351, 352, 353, 354, 355, 356, 357, 35, 358, 120, 121, 123, 124, 359, 360, 361, 362, 363, 364, 365, 366, 367, 368, 372, 373, 374, 375, 376, 377, 129, 128, 125, 126, 127, 378, 379, 380, 381, 382, 383, 384, 385, 386, 387, 388, 389, 390, 391, 392, 393, 394, 395, 396, 397, 398, 399, 400, 828, 829, 830, 831, 832, 833, 834, 852, 853, 854, 855, 856, 876, 877, 878, 879, 880, 850, 851, 875, 857, 858, 859, 860, 861, 862, 863, 864, 865, 866, 867, 868, 869, 870, 871, 872, 873, 874] (by decide +kernel) (by decide +kernel)
set_option maxRecDepth 20000 in
theorem gL_law_X8_name : GoodIn wsL_law (wsV RL 31 RX8 yX8_name wsX8_name) := goodIn_app (goodIn_of _ (by decide +kernel)) ggL_law_X8_name
set_option maxRecDepth 20000 in
theorem ggL_law_X9_name : GoodIn wsL_law wsX9_name := goodIn_r _ [442, 443, 444, 445, 5, 446, 135, 165, 137, 447, 448, 449, 450, 166, 167, 168, 221, 222, 223, 451, 452, 453, 454, 405, 406, 407, 408, 409, 136, 835, 836, 837, 838, 839, 840, 841, 842, 843, 844, 845, 846, 847, 848, 849] (by decide +kernel) (by decide +kernel)
set_option maxRecDepth 20000 in
theorem gL_law_X9_name : GoodIn wsL_law (wsV RL 34 RX9 yX9_name wsX9_name) := goodIn_app (goodIn_of _ (by decide +kernel)) ggL_law_X9_name
set_option maxRecDepth 20000 in
theorem ggL_law_X8_ending : GoodIn wsL_law wsX8_ending := goodIn_r _ [458, 19, 414, 415, 416, 2, 417, 15, 23, 418, 419, 420, 62, 421, 74, 422, 423, 424, 14, 425, 45, 44, 193, 194, 195, 43, 196, 55, 201, 202, 426, 427, 428, 429, 78, 430, 431, 432, 433, 283, 284, 285, 286, 77, 287, 269, 150, 151, 152, 434, 369, 370, 371, 76, 270, 271, 272, 273, 435, 436, 437, 438, 73, 228, 229, 230, 22, 231, 95, 94, 232, 233, 234, 235, 236, 237, 238, 239, 240, 241, 242, 18, 243, 63, 64, 65, 67, 68, 244, 245, 246, 247, 248, 249, 52, 250, 251, 252, 253, 254, 255, 256, 257, 258, 259, 260, 265, 266, 267, 268, 274, 275, 276, 277, 278, 158, 159, 160, 279, 280, 281, 282, 288, 289, 290, 291, 27, 31, 36, 292, 293, 294, 26, 295, 105, 106, 102, 103, 104, 296, 297, 298, 299, 300, 301, 302, 303, 304, 305, 306, 307, 308, 309, 310, 311, 312, 313, 314, 315, 316, 317, 318, 319, 320, 321, 322, 323, 324, 325, 30, 326, 112, 114, 327, 328, 329, 330, 331, 332, 333, 334, 335, 336, 337, 338, 339, 340, 341, 342, 343, 344, 345, 346, 347, 348, 349, 350, 351, 352, 353, 354, 355, 356, 357, 35, 358, 120, 121, 123, 124, 359, 360, 361, 362, 363, 364, 365, 366, 367, 368, 372, 373, 374, 375, 376, 377, 129, 128, 125, 126, 127, 378, 379, 380, 381, 382, 383, 384, 385, 386, 387, 388, 389, 390, 391, 392, 393, 394, 395, 396, 397, 398, 399, 400, 828, 829, 830, 831, 832, 833, 834, 852, 853, 854, 855, 856, 876, 877, 878, 879, 880, 850, 851, 875, 857, 858, 859, 860, 861, 862, 863, 864, 865, 866, 867, 868, 869, 870, 871, 872, 873, 874] (by decide +kernel) (by decide +kernel)
set_option maxRecDepth 20000 in
theorem gL_law_X8_ending : GoodIn wsL_law (wsV RL 35 RX8 yX8_ending wsX8_ending) := goodIn_app (goodIn_of _ (by decide +kernel)) ggL_law_X8_ending
set_option maxRecDepth 20000 in
theorem ggL_law_X9_ending : GoodIn wsL_law wsX9_ending := goodIn_r _ [462, 443, 444, 445, 5, 446, 135, 165, 137, 447, 448, 449, 450, 166, 167, 168, 221, 222, 223, 451, 452, 453, 454, 405, 406, 407, 408, 409, 136, 835, 836, 837, 838, 839, 840, 841, 842, 843, 844, 845, 846, 847, 848, 849] (by decide +kernel) (by decide +kernel)
set_option maxRecDepth 20000 in
theorem gL_law_X9_ending : GoodIn wsL_law (wsV RL 38 RX9 yX9_ending wsX9_ending) := goodIn_app (goodIn_of _ (by decide +kernel)) ggL_law_X9_ending
set_option maxRecDepth 20000 in
theorem ggL_law_X8_dropName : GoodIn wsL_law wsX8_dropName := goodIn_r _ [466, 19, 467, 468, 469, 2, 470, 23, 471, 472, 473, 62, 474, 78, 228, 229, 230, 22, 231, 95, 94, 232, 233, 234, 235, 236, 237, 238, 239, 240, 241, 242, 18, 243, 63, 64, 65, 67, 68, 244, 245, 246, 247, 76, 77, 73, 248, 249, 52, 250, 251, 252, 253, 43, 254, 55, 255, 256, 257, 258, 259, 260, 475, 476, 477, 478, 74, 479, 283, 284, 285, 286, 287, 194, 195, 196, 278, 158, 159, 160, 434, 369, 370, 371, 288, 289, 290, 291, 27, 31, 36, 292, 293, 294, 26, 295, 105, 106, 102, 103, 104, 296, 297, 298, 299, 300, 301, 302, 303, 304, 305, 306, 307, 308, 309, 310, 311, 312, 313, 314, 315, 316, 317, 318, 319, 320, 321, 322, 323, 324, 325, 30, 326, 112, 114, 327, 328, 329, 330, 331, 332, 333, 334, 335, 336, 337, 338, 339, 340, 341, 342, 343, 344, 345, 346, 347, 348, 349, 350, 351, 352, 353, 354, 355, 356, 357, 35, 358, 120, 121, 123, 124, 359, 360, 361, 362, 363, 364, 365, 366, 367, 368, 372, 373, 374, 375, 376, 377, 129, 128, 125, 126, 127, 378, 379, 380, 381, 382, 383, 384, 385, 386, 387, 388, 389, 390, 391, 392, 393, 394, 395, 396, 397, 398, 399, 400, 828, 829, 830, 831, 832, 833, 834, 852, 853, 854, 855, 856, 876, 877, 878, 879, 880, 857, 858, 875, 859, 860, 861, 862, 863, 864, 865, 866, 867, 868, 869, 870, 871, 872, 873, 874] (by decide +kernel) (by decide +kernel)
set_option maxRecDepth 20000 in
theorem gL_law_X8_dropName : GoodIn wsL_law (wsV RL 39 RX8 yX8_dropName wsX8_dropName) := goodIn_app (goodIn_of _ (by decide +kernel)) ggL_law_X8_dropName
set_option maxRecDepth 20000 in
theorem ggL_law_X9_dropName : GoodIn wsL_law wsX9_dropName := goodIn_r _ [483, 484, 485, 486, 5, 487, 135, 405, 406, 407, 408, 409, 136, 835, 836, 837, 838, 839, 840, 841, 842, 843, 844, 845, 846, 847, 848, 849] (by decide +kernel) (by decide +kernel)
set_option maxRecDepth 20000 in
theorem gL_law_X9_dropName : GoodIn wsL_law (wsV RL 42 RX9 yX9_dropName wsX9_dropName) := goodIn_app (goodIn_of _ (by decide +kernel)) ggL_law_X9_dropName
set_option maxRecDepth 20000 in
theorem ggL_law_X8_dropEnding : GoodIn wsL_law wsX8_dropEnding := goodIn_r _ [491, 19, 467, 468, 469, 2, 470, 23, 471, 472, 473, 62, 474, 78, 228, 229, 230, 22, 231, 95, 94, 232, 233, 234, 235, 236, 237, 238, 239, 240, 241, 242, 18, 243, 63, 64, 65, 67, 68, 244, 245, 246, 247, 76, 77, 73, 248, 249, 52, 250, 251, 252, 253, 43, 254, 55, 255, 256, 257, 258, 259, 260, 475, 476, 477, 478, 74, 479, 283, 284, 285, 286, 287, 194, 195, 196, 278, 158, 159, 160, 434, 369, 370, 371, 288, 289, 290, 291, 27, 31, 36, 292, 293, 294, 26, 295, 105, 106, 102, 103, 104, 296, 297, 298, 299, 300, 301, 302, 303, 304, 305, 306, 307, 308, 309, 310, 311, 312, 313, 314, 315, 316, 317, 318, 319, 320, 321, 322, 323, 324, 325, 30, 326, 112, 114, 327, 328, 329, 330, 331, 332, 333, 334, 335, 336, 337, 338, 339, 340, 341, 342, 343, 344, 345, 346, 347, 348, 349, 350, 351, 352, 353, 354, 355, 356, 357, 35, 358, 120, 121, 123, 124, 359, 360, 361, 362, 363, 364, 365, 366, 367, 368, 372, 373, 374, 375, 376, 377, 129, 128, 125, 126, 127, 378, 379, 380, 381, 382, 383, 384, 385, 386, 387, 388, 389, 390, 391, 392, 393, 394, 395, 396, 397, 398, 399, 400, 828, 829, 830, 831, 832, 833, 834, 852, 853, 854, 855, 856, 876, 877, 878, 879, 880, 857, 858, 875, 859, 860, 861, 862, 863, 864, 865, 866, 867, 868, 869, 870, 871, 872, 873, 874] (by decide +kernel) (by decide +kernel)
set_option maxRecDepth 20000 in
theorem gL_law_X8_dropEnding : GoodIn wsL_law (wsV RL 43 RX8 yX8_dropEnding wsX8_dropEnding) := goodIn_app (goodIn_of _ (by decide +kernel)) ggL_law_X8_dropEnding
set_option maxRecDepth 20000 in
theorem ggL_law_X9_dropEnding : GoodIn wsL_law wsX9_dropEnding := goodIn_r _ [495, 484, 485, 486, 5, 487, 135, 405, 406, 407, 408, 409, 136, 835, 836, 837, 838, 839, 840, 841, 842, 843, 844, 845, 846, 847, 848, 849] (by decide +kernel) (by decide +kernel)
set_option maxRecDepth 20000 in
theorem gL_law_X9_dropEnding : GoodIn wsL_law (wsV RL 46 RX9 yX9_dropEnding wsX9_dropEnding) := goodIn_app (goodIn_of _ (by decide +kernel)) ggL_law_X9_dropEnding
set_option maxRecDepth 20000 in
theorem ggL_law_X8_widen : GoodIn wsL_law wsX8_widen := goodIn_r _ [499, 19, 23, 500, 201, 2, 202, 322, 194, 195, 43, 196, 55, 228, 229, 230, 22, 231, 95, 94, 232, 233, 234, 235, 236, 237, 238, 239, 240, 241, 242, 18, 243, 63, 64, 65, 67, 68, 244, 245, 246, 62, 247, 76, 77, 73, 78, 248, 249, 52, 250, 251, 252, 253, 254, 255, 256, 257, 258, 259, 260, 501, 158, 159, 160, 288, 289, 290, 291, 27, 31, 36, 292, 293, 294, 26, 295, 105, 106, 102, 103, 104, 296, 297, 298, 299, 300, 301, 302, 303, 304, 305, 306, 307, 308, 309, 310, 311, 312, 313, 314, 315, 74, 287, 316, 317, 318, 319, 320, 321, 323, 324, 325, 30, 326, 112, 114, 327, 328, 329, 330, 331, 332, 333, 334, 335, 336, 337, 338, 339, 340, 341, 342, 343, 344, 345, 346, 347, 348, 349, 350, 351, 352, 353, 354, 355, 356, 357, 35, 358, 120, 121, 123, 124, 359, 360, 361, 362, 363, 364, 365, 366, 367, 284, 285, 286, 368, 369, 370, 371, 372, 373, 374, 375, 376, 377, 129, 128, 125, 126, 127, 378, 379, 380, 381, 382, 383, 384, 385, 386, 387, 388, 389, 390, 391, 392, 393, 394, 395, 396, 397, 398, 399, 828, 829, 830, 831, 832, 833, 834, 852, 853, 854, 855, 856, 875, 857, 858, 876, 877, 878, 879, 880, 859, 860, 861, 862, 863, 864, 865, 866, 867, 868, 869, 870, 871, 872, 873, 874] (by decide +kernel) (by decide +kernel)
set_option maxRecDepth 20000 in
theorem gL_law_X8_widen : GoodIn wsL_law (wsV RL 47 RX8 yX8_widen wsX8_widen) := goodIn_app (goodIn_of _ (by decide +kernel)) ggL_law_X8_widen
set_option maxRecDepth 20000 in
theorem ggL_law_X9_widen : GoodIn wsL_law wsX9_widen := goodIn_r _ [505, 135, 221, 222, 5, 223, 166, 167, 168, 405, 406, 407, 408, 409, 136, 835, 836, 837, 838, 839, 840, 841, 842, 843, 844, 845, 846, 847, 848, 849] (by decide +kernel) (by decide +kernel)
set_option maxRecDepth 20000 in
theorem gL_law_X9_widen : GoodIn wsL_law (wsV RL 51 RX9 yX9_widen wsX9_widen) := goodIn_app (goodIn_of _ (by decide +kernel)) ggL_law_X9_widen
set_option maxRecDepth 20000 in
theorem ggL_law_X8_set : GoodIn wsL_law wsX8_set := goodIn_r _ [509, 510, 511, 19, 23, 322, 194, 195, 43, 196, 55, 228, 229, 230, 22, 231, 95, 94, 232, 233, 234, 235, 236, 237, 238, 239, 240, 241, 242, 18, 243, 63, 64, 65, 67, 68, 244, 245, 246, 62, 247, 76, 77, 73, 78, 248, 249, 52, 250, 251, 252, 253, 254, 255, 256, 257, 258, 259, 260, 501, 158, 159, 160, 288, 289, 290, 2, 291, 27, 31, 36, 292, 293, 294, 26, 295, 105, 106, 102, 103, 104, 296, 297, 298, 299, 300, 301, 302, 303, 304, 305, 306, 307, 308, 309, 310, 311, 312, 313, 314, 315, 74, 287, 316, 317, 318, 319, 320, 321, 323, 324, 325, 30, 326, 112, 114, 327, 328, 329, 330, 331, 332, 333, 334, 335, 336, 337, 338, 339, 340, 341, 342, 343, 344, 345, 346, 347, 348, 349, 350, 351, 352, 353, 354, 355, 356, 357, 35, 358, 120, 121, 123, 124, 359, 360, 361, 362, 363, 364, 365, 366, 367, 284, 285, 286, 368, 369, 370, 371, 372, 373, 374, 375, 376, 377, 129, 128, 125, 126, 127, 378, 379, 380, 381, 382, 383, 384, 385, 386, 387, 388, 389, 390, 391, 392, 393, 394, 395, 396, 397, 398, 399, 828, 829, 830, 831, 832, 833, 834, 852, 853, 854, 855, 856, 875, 857, 858, 876, 877, 878, 879, 880, 859, 860, 861, 862, 863, 864, 865, 866, 867, 868, 869, 870, 871, 872, 873, 874] (by decide +kernel) (by decide +kernel)
set_option maxRecDepth 20000 in
theorem gL_law_X8_set : GoodIn wsL_law (wsV RL 52 RX8 yX8_set wsX8_set) := goodIn_app (goodIn_of _ (by decide +kernel)) ggL_law_X8_set
set_option maxRecDepth 20000 in
theorem ggL_law_X9_set : GoodIn wsL_law wsX9_set := goodIn_r _ [515, 135, 516, 517, 5, 518, 166, 167, 168, 405, 406, 407, 408, 409, 136, 835, 836, 837, 838, 839, 840, 841, 842, 843, 844, 845, 846, 847, 848, 849] (by decide +kernel) (by decide +kernel)
set_option maxRecDepth 20000 in
theorem gL_law_X9_set : GoodIn wsL_law (wsV RL 55 RX9 yX9_set wsX9_set) := goodIn_app (goodIn_of _ (by decide +kernel)) ggL_law_X9_set
set_option maxRecDepth 20000 in
theorem ggL_law_X8_count : GoodIn wsL_law wsX8_count := goodIn_r _ [522, 19, 36, 27, 31, 23, 15, 400, 297, 298, 62, 299, 78, 523, 524, 525, 35, 526, 383, 384, 385, 386, 123, 378, 194, 195, 43, 196, 55, 527, 528, 529, 530, 129, 531, 328, 329, 26, 330, 106, 322, 532, 533, 534, 535, 120, 359, 536, 537, 538, 539, 387, 388, 389, 390, 391, 392, 393, 30, 394, 114, 395, 540, 541, 542, 543, 112, 327, 544, 301, 302, 303, 105, 545, 546, 547, 548, 549, 550, 551, 552, 553, 554, 555, 379, 380, 381, 382, 396, 397, 398, 399, 124, 556, 557, 558, 559, 121, 560, 336, 337, 338, 102, 321, 561, 562, 563, 564, 565, 566, 567, 568, 569, 570, 571, 572, 125, 573, 574, 575, 22, 576, 95, 149, 150, 151, 14, 152, 45, 828, 829, 830, 831, 832, 833, 834, 852, 853, 854, 855, 856, 876, 877, 878, 879, 880, 866, 867, 868, 869, 870, 871, 872, 873, 874, 875, 859, 860, 861, 862, 863, 864, 865, 857, 858, 850, 851] (by decide +kernel) (by decide +kernel)
set_option maxRecDepth 20000 in
theorem gL_law_X8_count : GoodIn wsL_law (wsV RL 56 RX8 yX8_count wsX8_count) := goodIn_app (goodIn_of _ (by decide +kernel)) ggL_law_X8_count
set_option maxRecDepth 20000 in
theorem ggL_law_X9_count : GoodIn wsL_law wsX9_count := goodIn_r _ [580, 135, 581, 582, 409, 165, 166, 167, 5, 168, 583, 584, 585, 586, 587, 588, 589, 590, 141, 142, 139, 143, 144, 591, 592, 593, 594, 138, 140, 595, 596, 597, 598, 599, 600, 601, 602, 603, 604, 605, 606, 607, 608, 609, 610, 611, 612, 613, 614, 615, 616, 617, 618, 619, 620, 621, 622, 623, 624, 625, 626, 627, 628, 629, 630, 631, 632, 633, 634, 635, 636, 637, 835, 836, 837, 838, 839, 840, 841, 842, 843, 844, 845, 846, 847, 848, 849] (by decide +kernel) (by decide +kernel)
set_option maxRecDepth 20000 in
theorem gL_law_X9_count : GoodIn wsL_law (wsV RL 59 RX9 yX9_count wsX9_count) := goodIn_app (goodIn_of _ (by decide +kernel)) ggL_law_X9_count
set_option maxRecDepth 20000 in
theorem ggL_law_X8_word : GoodIn wsL_law wsX8_word := goodIn_r _ [641, 19, 36, 471, 472, 473, 62, 474, 78, 642, 284, 285, 286, 77, 287, 194, 195, 43, 196, 55, 643, 397, 398, 35, 399, 124, 378, 644, 570, 571, 572, 125, 645, 384, 385, 386, 123, 646, 647, 648, 649, 126, 650, 651, 652, 653, 127, 654, 655, 656, 2, 657, 31, 27, 658, 541, 542, 30, 543, 112, 114, 327, 328, 329, 26, 330, 106, 395, 544, 301, 302, 303, 105, 659, 388, 389, 390, 660, 661, 305, 306, 307, 662, 546, 547, 548, 549, 550, 551, 828, 829, 830, 831, 832, 833, 834, 852, 853, 854, 855, 856, 876, 877, 878, 879, 880, 875, 866, 867, 868, 869, 870, 871, 872, 873, 874, 864, 865, 859, 860, 861, 862, 863] (by decide +kernel) (by decide +kernel)
set_option maxRecDepth 20000 in
theorem gL_law_X8_word : GoodIn wsL_law (wsV RL 60 RX8 yX8_word wsX8_word) := goodIn_app (goodIn_of _ (by decide +kernel)) ggL_law_X8_word
set_option maxRecDepth 20000 in
theorem ggL_law_X9_word : GoodIn wsL_law wsX9_word := goodIn_r _ [666, 135, 142, 141, 143, 144, 667, 668, 669, 5, 670, 166, 167, 168, 583, 584, 585, 586, 587, 588, 589, 590, 581, 582, 139, 591, 592, 593, 594, 138, 140, 595, 596, 597, 598, 599, 600, 601, 602, 603, 604, 605, 606, 607, 608, 609, 610, 611, 612, 613, 614, 615, 616, 617, 618, 619, 620, 621, 622, 623, 624, 625, 626, 671, 672, 673, 674, 631, 632, 633, 634, 635, 636, 637, 835, 836, 837, 838, 839, 840, 841, 842, 843, 844, 845, 846, 847, 848, 849] (by decide +kernel) (by decide +kernel)
set_option maxRecDepth 20000 in
theorem gL_law_X9_word : GoodIn wsL_law (wsV RL 63 RX9 yX9_word wsX9_word) := goodIn_app (goodIn_of _ (by decide +kernel)) ggL_law_X9_word
set_option maxRecDepth 20000 in
theorem ggL_law_X8_letter : GoodIn wsL_law wsX8_letter := goodIn_r _ [678, 19, 36, 471, 472, 473, 62, 474, 78, 645, 384, 385, 35, 386, 123, 378, 194, 195, 43, 196, 55, 642, 284, 285, 286, 77, 287, 679, 369, 370, 371, 76, 74, 828, 829, 830, 831, 832, 833, 834, 852, 853, 854, 855, 856, 876, 877, 878, 879, 880, 866, 867, 868, 869, 870, 871, 872, 873, 874, 875] (by decide +kernel) (by decide +kernel)
set_option maxRecDepth 20000 in
theorem gL_law_X8_letter : GoodIn wsL_law (wsV RL 64 RX8 yX8_letter wsX8_letter) := goodIn_app (goodIn_of _ (by decide +kernel)) ggL_law_X8_letter
set_option maxRecDepth 20000 in
theorem ggL_law_X9_letter : GoodIn wsL_law wsX9_letter := goodIn_r _ [683, 141, 135, 667, 668, 669, 5, 670, 583, 584, 585, 586, 587, 588, 589, 590, 581, 582, 142, 139, 143, 144, 591, 592, 593, 594, 138, 140, 595, 596, 597, 598, 599, 600, 601, 602, 603, 604, 605, 606, 607, 608, 609, 610, 611, 612, 613, 614, 615, 616, 617, 618, 619, 620, 621, 622, 623, 624, 625, 626, 835, 836, 837, 838, 839, 840, 841, 842, 843, 844, 845, 846, 847, 848, 849] (by decide +kernel) (by decide +kernel)
set_option maxRecDepth 20000 in
theorem gL_law_X9_letter : GoodIn wsL_law (wsV RL 67 RX9 yX9_letter wsX9_letter) := goodIn_app (goodIn_of _ (by decide +kernel)) ggL_law_X9_letter
set_option maxRecDepth 20000 in
theorem ggL_law_X8_line : GoodIn wsL_law wsX8_line := goodIn_r _ [687, 36, 19, 688, 51, 52, 53, 689, 690, 691, 35, 692, 129, 693, 694, 695, 696, 128, 378, 194, 195, 43, 196, 55, 697, 698, 699, 700, 120, 359, 297, 298, 62, 299, 78, 701, 702, 703, 704, 569, 570, 571, 572, 125, 322, 523, 524, 525, 526, 383, 384, 385, 386, 123, 828, 829, 830, 831, 832, 833, 834, 852, 853, 854, 855, 856, 866, 867, 868, 869, 870, 871, 872, 873, 874, 875, 876, 877, 878, 879, 880] (by decide +kernel) (by decide +kernel)
set_option maxRecDepth 20000 in
theorem gL_law_X8_line : GoodIn wsL_law (wsV RL 68 RX8 yX8_line wsX8_line) := goodIn_app (goodIn_of _ (by decide +kernel)) ggL_law_X8_line
set_option maxRecDepth 20000 in
theorem ggL_law_X9_line : GoodIn wsL_law wsX9_line := goodIn_r _ [708, 581, 135, 583, 584, 585, 5, 586, 587, 588, 589, 590, 141, 582, 142, 139, 143, 144, 591, 592, 593, 594, 138, 140, 595, 596, 597, 598, 599, 600, 601, 602, 603, 604, 605, 606, 607, 608, 609, 610, 611, 612, 613, 614, 615, 616, 617, 618, 619, 620, 621, 622, 623, 624, 625, 626, 166, 167, 168, 709, 710, 711, 712, 835, 836, 837, 838, 839, 840, 841, 842, 843, 844, 845, 846, 847, 848, 849] (by decide +kernel) (by decide +kernel)
set_option maxRecDepth 20000 in
theorem gL_law_X9_line : GoodIn wsL_law (wsV RL 71 RX9 yX9_line wsX9_line) := goodIn_app (goodIn_of _ (by decide +kernel)) ggL_law_X9_line
set_option maxRecDepth 20000 in
theorem ggL_law_X8_widthAgain : GoodIn wsL_law wsX8_widthAgain := goodIn_r _ [716, 36, 689, 690, 691, 35, 692, 129, 697, 698, 699, 700, 128, 120, 378, 194, 195, 43, 196, 55, 359, 297, 298, 62, 299, 78, 650, 651, 652, 653, 127, 644, 570, 571, 572, 125, 828, 829, 830, 831, 832, 833, 834, 866, 867, 868, 869, 870, 871, 872, 873, 874, 852, 853, 854, 855, 856, 875, 876, 877, 878, 879, 880] (by decide +kernel) (by decide +kernel)
set_option maxRecDepth 20000 in
theorem gL_law_X8_widthAgain : GoodIn wsL_law (wsV RL 72 RX8 yX8_widthAgain wsX8_widthAgain) := goodIn_app (goodIn_of _ (by decide +kernel)) ggL_law_X8_widthAgain
set_option maxRecDepth 20000 in
theorem ggL_law_X9_widthAgain : GoodIn wsL_law wsX9_widthAgain := goodIn_r _ [720, 581, 135, 143, 144, 142, 583, 584, 585, 5, 586, 587, 588, 589, 590, 141, 582, 139, 591, 592, 593, 594, 138, 140, 595, 596, 597, 598, 599, 600, 601, 602, 603, 604, 605, 606, 607, 608, 609, 610, 611, 612, 613, 614, 615, 616, 617, 618, 619, 620, 621, 622, 623, 624, 625, 626, 835, 836, 837, 838, 839, 840, 841, 842, 843, 844, 845, 846, 847, 848, 849] (by decide +kernel) (by decide +kernel)
set_option maxRecDepth 20000 in
theorem gL_law_X9_widthAgain : GoodIn wsL_law (wsV RL 75 RX9 yX9_widthAgain wsX9_widthAgain) := goodIn_app (goodIn_of _ (by decide +kernel)) ggL_law_X9_widthAgain
set_option maxRecDepth 20000 in
theorem ggL_law_X8_form : GoodIn wsL_law wsX8_form := goodIn_r _ [724, 19, 27, 31, 36, 471, 472, 473, 62, 474, 78, 725, 726, 727, 26, 728, 105, 729, 730, 731, 18, 732, 64, 65, 367, 284, 285, 286, 77, 287, 194, 195, 43, 196, 55, 733, 336, 337, 338, 102, 321, 734, 392, 393, 30, 394, 114, 395, 735, 736, 737, 35, 738, 120, 359, 297, 298, 299, 387, 388, 389, 390, 123, 378, 828, 829, 830, 831, 832, 833, 834, 852, 853, 854, 855, 856, 876, 877, 878, 879, 880, 859, 860, 861, 862, 863, 875, 864, 865, 866, 867, 868, 869, 870, 871, 872, 873, 874] (by decide +kernel) (by decide +kernel)
set_option maxRecDepth 20000 in
theorem gL_law_X8_form : GoodIn wsL_law (wsV RL 76 RX8 yX8_form wsX8_form) := goodIn_app (goodIn_of _ (by decide +kernel)) ggL_law_X8_form
set_option maxRecDepth 20000 in
theorem ggL_law_X9_form : GoodIn wsL_law wsX9_form := goodIn_r _ [742, 135, 138, 139, 141, 743, 744, 745, 5, 746, 166, 167, 168, 583, 584, 585, 586, 587, 588, 589, 590, 581, 582, 142, 143, 144, 591, 592, 593, 594, 140, 595, 596, 597, 598, 599, 600, 601, 602, 603, 604, 605, 606, 607, 608, 609, 610, 611, 612, 613, 614, 615, 616, 617, 618, 619, 620, 621, 622, 623, 624, 625, 626, 835, 836, 837, 838, 839, 840, 841, 842, 843, 844, 845, 846, 847, 848, 849] (by decide +kernel) (by decide +kernel)
set_option maxRecDepth 20000 in
theorem gL_law_X9_form : GoodIn wsL_law (wsV RL 80 RX9 yX9_form wsX9_form) := goodIn_app (goodIn_of _ (by decide +kernel)) ggL_law_X9_form
set_option maxRecDepth 20000 in
theorem ggL_law_X8_under : GoodIn wsL_law wsX8_under := goodIn_r _ [750, 31, 658, 541, 542, 30, 543, 112, 114, 327, 328, 329, 26, 330, 106, 395, 194, 195, 43, 196, 55, 544, 301, 302, 303, 105, 828, 829, 830, 831, 832, 833, 834, 864, 865, 859, 860, 861, 862, 863, 875] (by decide +kernel) (by decide +kernel)
set_option maxRecDepth 20000 in
theorem gL_law_X8_under : GoodIn wsL_law (wsV RL 81 RX8 yX8_under wsX8_under) := goodIn_app (goodIn_of _ (by decide +kernel)) ggL_law_X8_under
set_option maxRecDepth 20000 in
theorem ggL_law_X9_under : GoodIn wsL_law wsX9_under := goodIn_r _ [754, 166, 167, 5, 168, 583, 584, 585, 586, 135, 587, 588, 589, 590, 581, 141, 582, 142, 139, 143, 144, 591, 592, 593, 594, 138, 140, 595, 596, 597, 598, 599, 600, 601, 602, 603, 604, 605, 606, 607, 608, 609, 610, 611, 612, 613, 614, 615, 616, 617, 618, 619, 620, 621, 622, 623, 624, 625, 626, 631, 632, 633, 634, 835, 836, 837, 838, 839, 840, 841, 842, 843, 844, 845, 846, 847, 848, 849] (by decide +kernel) (by decide +kernel)
set_option maxRecDepth 20000 in
theorem gL_law_X9_under : GoodIn wsL_law (wsV RL 84 RX9 yX9_under wsX9_under) := goodIn_app (goodIn_of _ (by decide +kernel)) ggL_law_X9_under
set_option maxRecDepth 20000 in
theorem ggL_law_X8_guess : GoodIn wsL_law wsX8_guess := goodIn_r _ [758, 19, 36, 31, 471, 472, 473, 62, 474, 78, 645, 384, 385, 35, 386, 123, 378, 194, 195, 43, 196, 55, 644, 570, 571, 572, 125, 400, 297, 298, 299, 759, 760, 761, 30, 762, 112, 114, 763, 249, 52, 250, 327, 328, 329, 26, 330, 106, 544, 301, 302, 303, 105, 395, 335, 336, 337, 338, 102, 321, 764, 765, 766, 2, 767, 828, 829, 830, 831, 832, 833, 834, 852, 853, 854, 855, 856, 876, 877, 878, 879, 880, 866, 867, 868, 869, 870, 871, 872, 873, 874, 875, 864, 865, 859, 860, 861, 862, 863] (by decide +kernel) (by decide +kernel)
set_option maxRecDepth 20000 in
theorem gL_law_X8_guess : GoodIn wsL_law (wsV RL 85 RX8 yX8_guess wsX8_guess) := goodIn_app (goodIn_of _ (by decide +kernel)) ggL_law_X8_guess
set_option maxRecDepth 20000 in
theorem ggL_law_X9_guess : GoodIn wsL_law wsX9_guess := goodIn_r _ [771, 141, 142, 667, 668, 669, 5, 670, 135, 166, 167, 168, 583, 584, 585, 586, 587, 588, 589, 590, 581, 582, 139, 143, 144, 591, 592, 593, 594, 138, 140, 595, 596, 597, 598, 599, 600, 601, 602, 603, 604, 605, 606, 607, 608, 609, 610, 611, 612, 613, 614, 615, 616, 617, 618, 619, 620, 621, 622, 623, 624, 625, 626, 772, 773, 774, 775, 776, 777, 778, 779, 835, 836, 837, 838, 839, 840, 841, 842, 843, 844, 845, 846, 847, 848, 849] (by decide +kernel) (by decide +kernel)
set_option maxRecDepth 20000 in
theorem gL_law_X9_guess : GoodIn wsL_law (wsV RL 88 RX9 yX9_guess wsX9_guess) := goodIn_app (goodIn_of _ (by decide +kernel)) ggL_law_X9_guess
set_option maxRecDepth 20000 in
theorem ggL_law_X8_same : GoodIn wsL_law wsX8_same := goodIn_r _ [783, 19, 36, 471, 472, 473, 62, 474, 78, 400, 297, 298, 299, 645, 384, 385, 35, 386, 123, 378, 194, 195, 43, 196, 55, 784, 785, 786, 2, 787, 27, 31, 659, 388, 389, 390, 660, 301, 302, 26, 303, 105, 661, 305, 306, 307, 725, 726, 727, 728, 734, 392, 393, 30, 394, 114, 395, 828, 829, 830, 831, 832, 833, 834, 852, 853, 854, 855, 856, 876, 877, 878, 879, 880, 866, 867, 868, 869, 870, 871, 872, 873, 874, 875, 859, 860, 861, 862, 863, 864, 865] (by decide +kernel) (by decide +kernel)
set_option maxRecDepth 20000 in
theorem gL_law_X8_same : GoodIn wsL_law (wsV RL 89 RX8 yX8_same wsX8_same) := goodIn_app (goodIn_of _ (by decide +kernel)) ggL_law_X8_same
set_option maxRecDepth 20000 in
theorem ggL_law_X9_same : GoodIn wsL_law wsX9_same := goodIn_r _ [791, 135, 141, 139, 142, 743, 744, 745, 5, 746, 583, 584, 585, 586, 587, 588, 589, 590, 581, 582, 143, 144, 591, 592, 593, 594, 138, 140, 595, 596, 597, 598, 599, 600, 601, 602, 603, 604, 605, 606, 607, 608, 609, 610, 611, 612, 613, 614, 615, 616, 617, 618, 619, 620, 621, 622, 623, 624, 625, 626, 835, 836, 837, 838, 839, 840, 841, 842, 843, 844, 845, 846, 847, 848, 849] (by decide +kernel) (by decide +kernel)
set_option maxRecDepth 20000 in
theorem gL_law_X9_same : GoodIn wsL_law (wsV RL 92 RX9 yX9_same wsX9_same) := goodIn_app (goodIn_of _ (by decide +kernel)) ggL_law_X9_same
set_option maxRecDepth 20000 in
theorem ggL_law_X8_stepFor : GoodIn wsL_law wsX8_stepFor := goodIn_r _ [795, 32, 19, 36, 322, 194, 195, 43, 196, 55, 323, 324, 325, 30, 326, 112, 114, 327, 328, 329, 26, 330, 106, 331, 332, 333, 334, 335, 336, 337, 338, 102, 321, 339, 340, 341, 342, 343, 344, 345, 103, 346, 347, 348, 349, 350, 351, 352, 353, 104, 354, 158, 159, 160, 796, 797, 798, 35, 799, 120, 359, 297, 298, 62, 299, 78, 383, 384, 385, 386, 123, 378, 536, 537, 538, 539, 387, 388, 389, 390, 391, 392, 393, 394, 395, 540, 541, 542, 543, 544, 301, 302, 303, 105, 545, 546, 547, 548, 549, 550, 551, 828, 829, 830, 831, 832, 833, 834, 852, 853, 854, 855, 856, 875, 864, 865, 859, 860, 861, 862, 863, 866, 867, 868, 869, 870, 871, 872, 873, 874, 876, 877, 878, 879, 880] (by decide +kernel) (by decide +kernel)
set_option maxRecDepth 20000 in
theorem gL_law_X8_stepFor : GoodIn wsL_law (wsV RL 93 RX8 yX8_stepFor wsX8_stepFor) := goodIn_app (goodIn_of _ (by decide +kernel)) ggL_law_X8_stepFor
set_option maxRecDepth 20000 in
theorem ggL_law_X9_stepFor : GoodIn wsL_law wsX9_stepFor := goodIn_r _ [803, 166, 167, 5, 168, 587, 588, 589, 590, 581, 135, 141, 582, 142, 139, 143, 144, 591, 592, 593, 594, 138, 140, 595, 596, 597, 598, 599, 600, 601, 602, 603, 604, 605, 606, 607, 608, 609, 610, 611, 612, 613, 614, 615, 616, 617, 618, 619, 620, 621, 622, 623, 624, 625, 626, 804, 805, 806, 807, 631, 632, 633, 634, 635, 636, 637, 835, 836, 837, 838, 839, 840, 841, 842, 843, 844, 845, 846, 847, 848, 849] (by decide +kernel) (by decide +kernel)
set_option maxRecDepth 20000 in
theorem gL_law_X9_stepFor : GoodIn wsL_law (wsV RL 96 RX9 yX9_stepFor wsX9_stepFor) := goodIn_app (goodIn_of _ (by decide +kernel)) ggL_law_X9_stepFor
set_option maxRecDepth 20000 in
theorem ggL_law_X8_modeFor : GoodIn wsL_law wsX8_modeFor := goodIn_r _ [811, 32, 19, 36, 322, 194, 195, 43, 196, 55, 323, 324, 325, 30, 326, 112, 114, 327, 328, 329, 26, 330, 106, 331, 332, 333, 334, 335, 336, 337, 338, 102, 321, 339, 340, 341, 342, 343, 344, 345, 103, 346, 347, 348, 349, 350, 351, 352, 353, 104, 354, 158, 159, 160, 552, 553, 554, 35, 555, 120, 359, 297, 298, 62, 299, 78, 379, 380, 381, 382, 383, 384, 385, 386, 123, 378, 387, 388, 389, 390, 391, 392, 393, 394, 395, 396, 397, 398, 399, 124, 532, 533, 534, 535, 536, 537, 538, 539, 540, 541, 542, 543, 544, 301, 302, 303, 105, 545, 546, 547, 548, 549, 550, 551, 828, 829, 830, 831, 832, 833, 834, 852, 853, 854, 855, 856, 875, 864, 865, 859, 860, 861, 862, 863, 866, 867, 868, 869, 870, 871, 872, 873, 874, 876, 877, 878, 879, 880] (by decide +kernel) (by decide +kernel)
set_option maxRecDepth 20000 in
theorem gL_law_X8_modeFor : GoodIn wsL_law (wsV RL 97 RX8 yX8_modeFor wsX8_modeFor) := goodIn_app (goodIn_of _ (by decide +kernel)) ggL_law_X8_modeFor
set_option maxRecDepth 20000 in
theorem ggL_law_X9_modeFor : GoodIn wsL_law wsX9_modeFor := goodIn_r _ [815, 135, 587, 588, 589, 5, 590, 581, 141, 582, 142, 139, 143, 144, 591, 592, 593, 594, 138, 140, 595, 596, 597, 598, 599, 600, 601, 602, 603, 604, 605, 606, 607, 608, 609, 610, 611, 612, 613, 614, 615, 616, 617, 618, 619, 620, 621, 622, 623, 624, 625, 626, 627, 628, 629, 630, 631, 632, 633, 634, 635, 636, 637, 835, 836, 837, 838, 839, 840, 841, 842, 843, 844, 845, 846, 847, 848, 849] (by decide +kernel) (by decide +kernel)
set_option maxRecDepth 20000 in
theorem gL_law_X9_modeFor : GoodIn wsL_law (wsV RL 100 RX9 yX9_modeFor wsX9_modeFor) := goodIn_app (goodIn_of _ (by decide +kernel)) ggL_law_X9_modeFor
set_option maxRecDepth 20000 in
theorem ggL_law_X8_undo : GoodIn wsL_law wsX8_undo := goodIn_r _ [819, 23, 19, 573, 574, 575, 22, 576, 95, 820, 821, 822, 823, 236, 237, 238, 239, 94, 240, 241, 242, 18, 243, 63, 64, 65, 67, 68, 244, 245, 246, 62, 247, 76, 77, 73, 78, 248, 249, 52, 250, 251, 252, 253, 43, 254, 55, 255, 256, 257, 258, 259, 260, 288, 289, 290, 2, 291, 27, 31, 36, 292, 293, 294, 26, 295, 105, 106, 102, 103, 104, 296, 297, 298, 299, 300, 301, 302, 303, 304, 305, 306, 307, 308, 309, 310, 311, 312, 313, 314, 315, 74, 287, 194, 195, 196, 316, 158, 159, 160, 317, 318, 319, 320, 321, 322, 323, 324, 325, 30, 326, 112, 114, 327, 328, 329, 330, 331, 332, 333, 334, 335, 336, 337, 338, 339, 340, 341, 342, 343, 344, 345, 346, 347, 348, 349, 350, 351, 352, 353, 354, 355, 356, 357, 35, 358, 120, 121, 123, 124, 359, 360, 361, 362, 363, 364, 365, 366, 367, 284, 285, 286, 368, 369, 370, 371, 372, 373, 374, 375, 376, 377, 129, 128, 125, 126, 127, 378, 379, 380, 381, 382, 383, 384, 385, 386, 387, 388, 389, 390, 391, 392, 393, 394, 395, 396, 397, 398, 399, 828, 829, 830, 831, 832, 833, 834, 857, 858, 852, 853, 854, 855, 856, 876, 877, 878, 879, 880, 875, 859, 860, 861, 862, 863, 864, 865, 866, 867, 868, 869, 870, 871, 872, 873, 874] (by decide +kernel) (by decide +kernel)
set_option maxRecDepth 20000 in
theorem gL_law_X8_undo : GoodIn wsL_law (wsV RL 101 RX8 yX8_undo wsX8_undo) := goodIn_app (goodIn_of _ (by decide +kernel)) ggL_law_X8_undo
set_option maxRecDepth 20000 in
theorem ggL_law_X9_undo : GoodIn wsL_law wsX9_undo := goodIn_r _ [827, 409, 135, 136, 835, 836, 837, 838, 839, 840, 841, 842, 843, 844, 845, 846, 847, 848, 849] (by decide +kernel) (by decide +kernel)
set_option maxRecDepth 20000 in
theorem gL_law_X9_undo : GoodIn wsL_law (wsV RL 104 RX9 yX9_undo wsX9_undo) := goodIn_app (goodIn_of _ (by decide +kernel)) ggL_law_X9_undo
theorem dL_law_0 : decode cL_law 0 = .ok (.new 7, 3) := by decide +kernel
theorem dL_law_3 : decode cL_law 3 = .ok (.dup, 1) := by decide +kernel
theorem dL_law_4 : decode cL_law 4 = .ok (.invokespecial 9, 3) := by decide +kernel
theorem dL_law_7 : decode cL_law 7 = .ok (.astore_n 1, 1) := by decide +kernel
theorem dL_law_8 : decode cL_law 8 = .ok (.new 10, 3) := by decide +kernel
theorem dL_law_11 : decode cL_law 11 = .ok (.dup, 1) := by decide +kernel
theorem dL_law_12 : decode cL_law 12 = .ok (.invokespecial 12, 3) := by decide +kernel
theorem dL_law_15 : decode cL_law 15 = .ok (.astore_n 2, 1) := by decide +kernel
theorem dL_law_16 : decode cL_law 16 = .ok (.iconst 0, 1) := by decide +kernel
theorem dL_law_17 : decode cL_law 17 = .ok (.istore_n 3, 1) := by decide +kernel
theorem dL_law_18 : decode cL_law 18 = .ok (.iload_n 3, 1) := by decide +kernel
theorem dL_law_19 : decode cL_law 19 = .ok (.aload_n 0, 1) := by decide +kernel
theorem dL_law_20 : decode cL_law 20 = .ok (.arraylength, 1) := by decide +kernel
theorem dL_law_21 : decode cL_law 21 = .ok (.iconst 4, 1) := by decide +kernel
theorem dL_law_22 : decode cL_law 22 = .ok (.isub, 1) := by decide +kernel
theorem dL_law_23 : decode cL_law 23 = .ok (.if_icmp .gt 665, 3) := by decide +kernel
theorem dL_law_26 : decode cL_law 26 = .ok (.aload_n 0, 1) := by decide +kernel
theorem dL_law_27 : decode cL_law 27 = .ok (.iload_n 3, 1) := by decide +kernel
theorem dL_law_28 : decode cL_law 28 = .ok (.iaload, 1) := by decide +kernel
theorem dL_law_29 : decode cL_law 29 = .ok (.bipush 31, 2) := by decide +kernel
theorem dL_law_31 : decode cL_law 31 = .ok (.iand, 1) := by decide +kernel
theorem dL_law_32 : decode cL_law 32 = .ok (.tableswitch 650 0 21 #[104, 127, 140, 163, 176, 189, 202, 225, 248, 281, 314, 337, 370, 403, 436, 459, 502, 525, 568, 601, 624, 637], 104) := by decide +kernel
theorem dL_law_136 : decode cL_law 136 = .ok (.aload_n 1, 1) := by decide +kernel
theorem dL_law_137 : decode cL_law 137 = .ok (.aload_n 0, 1) := by decide +kernel
theorem dL_law_138 : decode cL_law 138 = .ok (.iload_n 3, 1) := by decide +kernel
theorem dL_law_139 : decode cL_law 139 = .ok (.iconst 1, 1) := by decide +kernel
theorem dL_law_140 : decode cL_law 140 = .ok (.iadd, 1) := by decide +kernel
theorem dL_law_141 : decode cL_law 141 = .ok (.iaload, 1) := by decide +kernel
theorem dL_law_142 : decode cL_law 142 = .ok (.invokevirtual 13, 3) := by decide +kernel
theorem dL_law_145 : decode cL_law 145 = .ok (.aload_n 2, 1) := by decide +kernel
theorem dL_law_146 : decode cL_law 146 = .ok (.aload_n 0, 1) := by decide +kernel
theorem dL_law_147 : decode cL_law 147 = .ok (.iload_n 3, 1) := by decide +kernel
theorem dL_law_148 : decode cL_law 148 = .ok (.iconst 1, 1) := by decide +kernel
theorem dL_law_149 : decode cL_law 149 = .ok (.iadd, 1) := by decide +kernel
theorem dL_law_150 : decode cL_law 150 = .ok (.iaload, 1) := by decide +kernel
theorem dL_law_151 : decode cL_law 151 = .ok (.invokevirtual 17, 3) := by decide +kernel
theorem dL_law_154 : decode cL_law 154 = .ok (.if_icmp .eq 528, 3) := by decide +kernel
theorem dL_law_157 : decode cL_law 157 = .ok (.iconst 0, 1) := by decide +kernel
theorem dL_law_158 : decode cL_law 158 = .ok (.ireturn, 1) := by decide +kernel
theorem dL_law_159 : decode cL_law 159 = .ok (.aload_n 1, 1) := by decide +kernel
theorem dL_law_160 : decode cL_law 160 = .ok (.invokevirtual 18, 3) := by decide +kernel
theorem dL_law_163 : decode cL_law 163 = .ok (.aload_n 2, 1) := by decide +kernel
theorem dL_law_164 : decode cL_law 164 = .ok (.invokevirtual 22, 3) := by decide +kernel
theorem dL_law_167 : decode cL_law 167 = .ok (.if_icmp .eq 515, 3) := by decide +kernel
theorem dL_law_170 : decode cL_law 170 = .ok (.iconst 0, 1) := by decide +kernel
theorem dL_law_171 : decode cL_law 171 = .ok (.ireturn, 1) := by decide +kernel
theorem dL_law_172 : decode cL_law 172 = .ok (.aload_n 1, 1) := by decide +kernel
theorem dL_law_173 : decode cL_law 173 = .ok (.aload_n 0, 1) := by decide +kernel
theorem dL_law_174 : decode cL_law 174 = .ok (.iload_n 3, 1) := by decide +kernel
theorem dL_law_175 : decode cL_law 175 = .ok (.iconst 1, 1) := by decide +kernel
theorem dL_law_176 : decode cL_law 176 = .ok (.iadd, 1) := by decide +kernel
theorem dL_law_177 : decode cL_law 177 = .ok (.iaload, 1) := by decide +kernel
theorem dL_law_178 : decode cL_law 178 = .ok (.invokevirtual 23, 3) := by decide +kernel
theorem dL_law_181 : decode cL_law 181 = .ok (.aload_n 2, 1) := by decide +kernel
theorem dL_law_182 : decode cL_law 182 = .ok (.aload_n 0, 1) := by decide +kernel
theorem dL_law_183 : decode cL_law 183 = .ok (.iload_n 3, 1) := by decide +kernel
theorem dL_law_184 : decode cL_law 184 = .ok (.iconst 1, 1) := by decide +kernel
theorem dL_law_185 : decode cL_law 185 = .ok (.iadd, 1) := by decide +kernel
theorem dL_law_186 : decode cL_law 186 = .ok (.iaload, 1) := by decide +kernel
theorem dL_law_187 : decode cL_law 187 = .ok (.invokevirtual 26, 3) := by decide +kernel
theorem dL_law_190 : decode cL_law 190 = .ok (.if_icmp .eq 492, 3) := by decide +kernel
theorem dL_law_193 : decode cL_law 193 = .ok (.iconst 0, 1) := by decide +kernel
theorem dL_law_194 : decode cL_law 194 = .ok (.ireturn, 1) := by decide +kernel
theorem dL_law_195 : decode cL_law 195 = .ok (.aload_n 1, 1) := by decide +kernel
theorem dL_law_196 : decode cL_law 196 = .ok (.invokevirtual 27, 3) := by decide +kernel
theorem dL_law_199 : decode cL_law 199 = .ok (.aload_n 2, 1) := by decide +kernel
theorem dL_law_200 : decode cL_law 200 = .ok (.invokevirtual 30, 3) := by decide +kernel
theorem dL_law_203 : decode cL_law 203 = .ok (.if_icmp .eq 479, 3) := by decide +kernel
theorem dL_law_206 : decode cL_law 206 = .ok (.iconst 0, 1) := by decide +kernel
theorem dL_law_207 : decode cL_law 207 = .ok (.ireturn, 1) := by decide +kernel
theorem dL_law_208 : decode cL_law 208 = .ok (.aload_n 1, 1) := by decide +kernel
theorem dL_law_209 : decode cL_law 209 = .ok (.invokevirtual 31, 3) := by decide +kernel
theorem dL_law_212 : decode cL_law 212 = .ok (.aload_n 2, 1) := by decide +kernel
theorem dL_law_213 : decode cL_law 213 = .ok (.invokevirtual 34, 3) := by decide +kernel
theorem dL_law_216 : decode cL_law 216 = .ok (.if_icmp .eq 466, 3) := by decide +kernel
theorem dL_law_219 : decode cL_law 219 = .ok (.iconst 0, 1) := by decide +kernel
theorem dL_law_220 : decode cL_law 220 = .ok (.ireturn, 1) := by decide +kernel
theorem dL_law_221 : decode cL_law 221 = .ok (.aload_n 1, 1) := by decide +kernel
theorem dL_law_222 : decode cL_law 222 = .ok (.invokevirtual 35, 3) := by decide +kernel
theorem dL_law_225 : decode cL_law 225 = .ok (.aload_n 2, 1) := by decide +kernel
theorem dL_law_226 : decode cL_law 226 = .ok (.invokevirtual 38, 3) := by decide +kernel
theorem dL_law_229 : decode cL_law 229 = .ok (.if_icmp .eq 453, 3) := by decide +kernel
theorem dL_law_232 : decode cL_law 232 = .ok (.iconst 0, 1) := by decide +kernel
theorem dL_law_233 : decode cL_law 233 = .ok (.ireturn, 1) := by decide +kernel
theorem dL_law_234 : decode cL_law 234 = .ok (.aload_n 1, 1) := by decide +kernel
theorem dL_law_235 : decode cL_law 235 = .ok (.aload_n 0, 1) := by decide +kernel
theorem dL_law_236 : decode cL_law 236 = .ok (.iload_n 3, 1) := by decide +kernel
theorem dL_law_237 : decode cL_law 237 = .ok (.iconst 1, 1) := by decide +kernel
theorem dL_law_238 : decode cL_law 238 = .ok (.iadd, 1) := by decide +kernel
theorem dL_law_239 : decode cL_law 239 = .ok (.iaload, 1) := by decide +kernel
theorem dL_law_240 : decode cL_law 240 = .ok (.invokevirtual 39, 3) := by decide +kernel
theorem dL_law_243 : decode cL_law 243 = .ok (.aload_n 2, 1) := by decide +kernel
theorem dL_law_244 : decode cL_law 244 = .ok (.aload_n 0, 1) := by decide +kernel
theorem dL_law_245 : decode cL_law 245 = .ok (.iload_n 3, 1) := by decide +kernel
theorem dL_law_246 : decode cL_law 246 = .ok (.iconst 1, 1) := by decide +kernel
theorem dL_law_247 : decode cL_law 247 = .ok (.iadd, 1) := by decide +kernel
theorem dL_law_248 : decode cL_law 248 = .ok (.iaload, 1) := by decide +kernel
theorem dL_law_249 : decode cL_law 249 = .ok (.invokevirtual 42, 3) := by decide +kernel
theorem dL_law_252 : decode cL_law 252 = .ok (.if_icmp .eq 430, 3) := by decide +kernel
theorem dL_law_255 : decode cL_law 255 = .ok (.iconst 0, 1) := by decide +kernel
theorem dL_law_256 : decode cL_law 256 = .ok (.ireturn, 1) := by decide +kernel
theorem dL_law_257 : decode cL_law 257 = .ok (.aload_n 1, 1) := by decide +kernel
theorem dL_law_258 : decode cL_law 258 = .ok (.aload_n 0, 1) := by decide +kernel
theorem dL_law_259 : decode cL_law 259 = .ok (.iload_n 3, 1) := by decide +kernel
theorem dL_law_260 : decode cL_law 260 = .ok (.iconst 1, 1) := by decide +kernel
theorem dL_law_261 : decode cL_law 261 = .ok (.iadd, 1) := by decide +kernel
theorem dL_law_262 : decode cL_law 262 = .ok (.iaload, 1) := by decide +kernel
theorem dL_law_263 : decode cL_law 263 = .ok (.invokevirtual 43, 3) := by decide +kernel
theorem dL_law_266 : decode cL_law 266 = .ok (.aload_n 2, 1) := by decide +kernel
theorem dL_law_267 : decode cL_law 267 = .ok (.aload_n 0, 1) := by decide +kernel
theorem dL_law_268 : decode cL_law 268 = .ok (.iload_n 3, 1) := by decide +kernel
theorem dL_law_269 : decode cL_law 269 = .ok (.iconst 1, 1) := by decide +kernel
theorem dL_law_270 : decode cL_law 270 = .ok (.iadd, 1) := by decide +kernel
theorem dL_law_271 : decode cL_law 271 = .ok (.iaload, 1) := by decide +kernel
theorem dL_law_272 : decode cL_law 272 = .ok (.invokevirtual 46, 3) := by decide +kernel
theorem dL_law_275 : decode cL_law 275 = .ok (.if_icmp .eq 407, 3) := by decide +kernel
theorem dL_law_278 : decode cL_law 278 = .ok (.iconst 0, 1) := by decide +kernel
theorem dL_law_279 : decode cL_law 279 = .ok (.ireturn, 1) := by decide +kernel
theorem dL_law_280 : decode cL_law 280 = .ok (.aload_n 1, 1) := by decide +kernel
theorem dL_law_281 : decode cL_law 281 = .ok (.aload_n 0, 1) := by decide +kernel
theorem dL_law_282 : decode cL_law 282 = .ok (.iload_n 3, 1) := by decide +kernel
theorem dL_law_283 : decode cL_law 283 = .ok (.iconst 1, 1) := by decide +kernel
theorem dL_law_284 : decode cL_law 284 = .ok (.iadd, 1) := by decide +kernel
theorem dL_law_285 : decode cL_law 285 = .ok (.iaload, 1) := by decide +kernel
theorem dL_law_286 : decode cL_law 286 = .ok (.aload_n 0, 1) := by decide +kernel
theorem dL_law_287 : decode cL_law 287 = .ok (.iload_n 3, 1) := by decide +kernel
theorem dL_law_288 : decode cL_law 288 = .ok (.iconst 2, 1) := by decide +kernel
theorem dL_law_289 : decode cL_law 289 = .ok (.iadd, 1) := by decide +kernel
theorem dL_law_290 : decode cL_law 290 = .ok (.iaload, 1) := by decide +kernel
theorem dL_law_291 : decode cL_law 291 = .ok (.invokevirtual 47, 3) := by decide +kernel
theorem dL_law_294 : decode cL_law 294 = .ok (.aload_n 2, 1) := by decide +kernel
theorem dL_law_295 : decode cL_law 295 = .ok (.aload_n 0, 1) := by decide +kernel
theorem dL_law_296 : decode cL_law 296 = .ok (.iload_n 3, 1) := by decide +kernel
theorem dL_law_297 : decode cL_law 297 = .ok (.iconst 1, 1) := by decide +kernel
theorem dL_law_298 : decode cL_law 298 = .ok (.iadd, 1) := by decide +kernel
theorem dL_law_299 : decode cL_law 299 = .ok (.iaload, 1) := by decide +kernel
theorem dL_law_300 : decode cL_law 300 = .ok (.aload_n 0, 1) := by decide +kernel
theorem dL_law_301 : decode cL_law 301 = .ok (.iload_n 3, 1) := by decide +kernel
theorem dL_law_302 : decode cL_law 302 = .ok (.iconst 2, 1) := by decide +kernel
theorem dL_law_303 : decode cL_law 303 = .ok (.iadd, 1) := by decide +kernel
theorem dL_law_304 : decode cL_law 304 = .ok (.iaload, 1) := by decide +kernel
theorem dL_law_305 : decode cL_law 305 = .ok (.invokevirtual 51, 3) := by decide +kernel
theorem dL_law_308 : decode cL_law 308 = .ok (.if_icmp .eq 374, 3) := by decide +kernel
theorem dL_law_311 : decode cL_law 311 = .ok (.iconst 0, 1) := by decide +kernel
theorem dL_law_312 : decode cL_law 312 = .ok (.ireturn, 1) := by decide +kernel
theorem dL_law_313 : decode cL_law 313 = .ok (.aload_n 1, 1) := by decide +kernel
theorem dL_law_314 : decode cL_law 314 = .ok (.aload_n 0, 1) := by decide +kernel
theorem dL_law_315 : decode cL_law 315 = .ok (.iload_n 3, 1) := by decide +kernel
theorem dL_law_316 : decode cL_law 316 = .ok (.iconst 1, 1) := by decide +kernel
theorem dL_law_317 : decode cL_law 317 = .ok (.iadd, 1) := by decide +kernel
theorem dL_law_318 : decode cL_law 318 = .ok (.iaload, 1) := by decide +kernel
theorem dL_law_319 : decode cL_law 319 = .ok (.aload_n 0, 1) := by decide +kernel
theorem dL_law_320 : decode cL_law 320 = .ok (.iload_n 3, 1) := by decide +kernel
theorem dL_law_321 : decode cL_law 321 = .ok (.iconst 2, 1) := by decide +kernel
theorem dL_law_322 : decode cL_law 322 = .ok (.iadd, 1) := by decide +kernel
theorem dL_law_323 : decode cL_law 323 = .ok (.iaload, 1) := by decide +kernel
theorem dL_law_324 : decode cL_law 324 = .ok (.invokevirtual 52, 3) := by decide +kernel
theorem dL_law_327 : decode cL_law 327 = .ok (.aload_n 2, 1) := by decide +kernel
theorem dL_law_328 : decode cL_law 328 = .ok (.aload_n 0, 1) := by decide +kernel
theorem dL_law_329 : decode cL_law 329 = .ok (.iload_n 3, 1) := by decide +kernel
theorem dL_law_330 : decode cL_law 330 = .ok (.iconst 1, 1) := by decide +kernel
theorem dL_law_331 : decode cL_law 331 = .ok (.iadd, 1) := by decide +kernel
theorem dL_law_332 : decode cL_law 332 = .ok (.iaload, 1) := by decide +kernel
theorem dL_law_333 : decode cL_law 333 = .ok (.aload_n 0, 1) := by decide +kernel
theorem dL_law_334 : decode cL_law 334 = .ok (.iload_n 3, 1) := by decide +kernel
theorem dL_law_335 : decode cL_law 335 = .ok (.iconst 2, 1) := by decide +kernel
theorem dL_law_336 : decode cL_law 336 = .ok (.iadd, 1) := by decide +kernel
theorem dL_law_337 : decode cL_law 337 = .ok (.iaload, 1) := by decide +kernel
theorem dL_law_338 : decode cL_law 338 = .ok (.invokevirtual 55, 3) := by decide +kernel
theorem dL_law_341 : decode cL_law 341 = .ok (.if_icmp .eq 341, 3) := by decide +kernel
theorem dL_law_344 : decode cL_law 344 = .ok (.iconst 0, 1) := by decide +kernel
theorem dL_law_345 : decode cL_law 345 = .ok (.ireturn, 1) := by decide +kernel
theorem dL_law_346 : decode cL_law 346 = .ok (.aload_n 1, 1) := by decide +kernel
theorem dL_law_347 : decode cL_law 347 = .ok (.aload_n 0, 1) := by decide +kernel
theorem dL_law_348 : decode cL_law 348 = .ok (.iload_n 3, 1) := by decide +kernel
theorem dL_law_349 : decode cL_law 349 = .ok (.iconst 1, 1) := by decide +kernel
theorem dL_law_350 : decode cL_law 350 = .ok (.iadd, 1) := by decide +kernel
theorem dL_law_351 : decode cL_law 351 = .ok (.iaload, 1) := by decide +kernel
theorem dL_law_352 : decode cL_law 352 = .ok (.invokevirtual 56, 3) := by decide +kernel
theorem dL_law_355 : decode cL_law 355 = .ok (.aload_n 2, 1) := by decide +kernel
theorem dL_law_356 : decode cL_law 356 = .ok (.aload_n 0, 1) := by decide +kernel
theorem dL_law_357 : decode cL_law 357 = .ok (.iload_n 3, 1) := by decide +kernel
theorem dL_law_358 : decode cL_law 358 = .ok (.iconst 1, 1) := by decide +kernel
theorem dL_law_359 : decode cL_law 359 = .ok (.iadd, 1) := by decide +kernel
theorem dL_law_360 : decode cL_law 360 = .ok (.iaload, 1) := by decide +kernel
theorem dL_law_361 : decode cL_law 361 = .ok (.invokevirtual 59, 3) := by decide +kernel
theorem dL_law_364 : decode cL_law 364 = .ok (.if_icmp .eq 318, 3) := by decide +kernel
theorem dL_law_367 : decode cL_law 367 = .ok (.iconst 0, 1) := by decide +kernel
theorem dL_law_368 : decode cL_law 368 = .ok (.ireturn, 1) := by decide +kernel
theorem dL_law_369 : decode cL_law 369 = .ok (.aload_n 1, 1) := by decide +kernel
theorem dL_law_370 : decode cL_law 370 = .ok (.aload_n 0, 1) := by decide +kernel
theorem dL_law_371 : decode cL_law 371 = .ok (.iload_n 3, 1) := by decide +kernel
theorem dL_law_372 : decode cL_law 372 = .ok (.iconst 1, 1) := by decide +kernel
theorem dL_law_373 : decode cL_law 373 = .ok (.iadd, 1) := by decide +kernel
theorem dL_law_374 : decode cL_law 374 = .ok (.iaload, 1) := by decide +kernel
theorem dL_law_375 : decode cL_law 375 = .ok (.aload_n 0, 1) := by decide +kernel
theorem dL_law_376 : decode cL_law 376 = .ok (.iload_n 3, 1) := by decide +kernel
theorem dL_law_377 : decode cL_law 377 = .ok (.iconst 2, 1) := by decide +kernel
theorem dL_law_378 : decode cL_law 378 = .ok (.iadd, 1) := by decide +kernel
theorem dL_law_379 : decode cL_law 379 = .ok (.iaload, 1) := by decide +kernel
theorem dL_law_380 : decode cL_law 380 = .ok (.invokevirtual 60, 3) := by decide +kernel
theorem dL_law_383 : decode cL_law 383 = .ok (.aload_n 2, 1) := by decide +kernel
theorem dL_law_384 : decode cL_law 384 = .ok (.aload_n 0, 1) := by decide +kernel
theorem dL_law_385 : decode cL_law 385 = .ok (.iload_n 3, 1) := by decide +kernel
theorem dL_law_386 : decode cL_law 386 = .ok (.iconst 1, 1) := by decide +kernel
theorem dL_law_387 : decode cL_law 387 = .ok (.iadd, 1) := by decide +kernel
theorem dL_law_388 : decode cL_law 388 = .ok (.iaload, 1) := by decide +kernel
theorem dL_law_389 : decode cL_law 389 = .ok (.aload_n 0, 1) := by decide +kernel
theorem dL_law_390 : decode cL_law 390 = .ok (.iload_n 3, 1) := by decide +kernel
theorem dL_law_391 : decode cL_law 391 = .ok (.iconst 2, 1) := by decide +kernel
theorem dL_law_392 : decode cL_law 392 = .ok (.iadd, 1) := by decide +kernel
theorem dL_law_393 : decode cL_law 393 = .ok (.iaload, 1) := by decide +kernel
theorem dL_law_394 : decode cL_law 394 = .ok (.invokevirtual 63, 3) := by decide +kernel
theorem dL_law_397 : decode cL_law 397 = .ok (.if_icmp .eq 285, 3) := by decide +kernel
theorem dL_law_400 : decode cL_law 400 = .ok (.iconst 0, 1) := by decide +kernel
theorem dL_law_401 : decode cL_law 401 = .ok (.ireturn, 1) := by decide +kernel
theorem dL_law_402 : decode cL_law 402 = .ok (.aload_n 1, 1) := by decide +kernel
theorem dL_law_403 : decode cL_law 403 = .ok (.aload_n 0, 1) := by decide +kernel
theorem dL_law_404 : decode cL_law 404 = .ok (.iload_n 3, 1) := by decide +kernel
theorem dL_law_405 : decode cL_law 405 = .ok (.iconst 1, 1) := by decide +kernel
theorem dL_law_406 : decode cL_law 406 = .ok (.iadd, 1) := by decide +kernel
theorem dL_law_407 : decode cL_law 407 = .ok (.iaload, 1) := by decide +kernel
theorem dL_law_408 : decode cL_law 408 = .ok (.aload_n 0, 1) := by decide +kernel
theorem dL_law_409 : decode cL_law 409 = .ok (.iload_n 3, 1) := by decide +kernel
theorem dL_law_410 : decode cL_law 410 = .ok (.iconst 2, 1) := by decide +kernel
theorem dL_law_411 : decode cL_law 411 = .ok (.iadd, 1) := by decide +kernel
theorem dL_law_412 : decode cL_law 412 = .ok (.iaload, 1) := by decide +kernel
theorem dL_law_413 : decode cL_law 413 = .ok (.invokevirtual 64, 3) := by decide +kernel
theorem dL_law_416 : decode cL_law 416 = .ok (.aload_n 2, 1) := by decide +kernel
theorem dL_law_417 : decode cL_law 417 = .ok (.aload_n 0, 1) := by decide +kernel
theorem dL_law_418 : decode cL_law 418 = .ok (.iload_n 3, 1) := by decide +kernel
theorem dL_law_419 : decode cL_law 419 = .ok (.iconst 1, 1) := by decide +kernel
theorem dL_law_420 : decode cL_law 420 = .ok (.iadd, 1) := by decide +kernel
theorem dL_law_421 : decode cL_law 421 = .ok (.iaload, 1) := by decide +kernel
theorem dL_law_422 : decode cL_law 422 = .ok (.aload_n 0, 1) := by decide +kernel
theorem dL_law_423 : decode cL_law 423 = .ok (.iload_n 3, 1) := by decide +kernel
theorem dL_law_424 : decode cL_law 424 = .ok (.iconst 2, 1) := by decide +kernel
theorem dL_law_425 : decode cL_law 425 = .ok (.iadd, 1) := by decide +kernel
theorem dL_law_426 : decode cL_law 426 = .ok (.iaload, 1) := by decide +kernel
theorem dL_law_427 : decode cL_law 427 = .ok (.invokevirtual 67, 3) := by decide +kernel
theorem dL_law_430 : decode cL_law 430 = .ok (.if_icmp .eq 252, 3) := by decide +kernel
theorem dL_law_433 : decode cL_law 433 = .ok (.iconst 0, 1) := by decide +kernel
theorem dL_law_434 : decode cL_law 434 = .ok (.ireturn, 1) := by decide +kernel
theorem dL_law_435 : decode cL_law 435 = .ok (.aload_n 1, 1) := by decide +kernel
theorem dL_law_436 : decode cL_law 436 = .ok (.aload_n 0, 1) := by decide +kernel
theorem dL_law_437 : decode cL_law 437 = .ok (.iload_n 3, 1) := by decide +kernel
theorem dL_law_438 : decode cL_law 438 = .ok (.iconst 1, 1) := by decide +kernel
theorem dL_law_439 : decode cL_law 439 = .ok (.iadd, 1) := by decide +kernel
theorem dL_law_440 : decode cL_law 440 = .ok (.iaload, 1) := by decide +kernel
theorem dL_law_441 : decode cL_law 441 = .ok (.aload_n 0, 1) := by decide +kernel
theorem dL_law_442 : decode cL_law 442 = .ok (.iload_n 3, 1) := by decide +kernel
theorem dL_law_443 : decode cL_law 443 = .ok (.iconst 2, 1) := by decide +kernel
theorem dL_law_444 : decode cL_law 444 = .ok (.iadd, 1) := by decide +kernel
theorem dL_law_445 : decode cL_law 445 = .ok (.iaload, 1) := by decide +kernel
theorem dL_law_446 : decode cL_law 446 = .ok (.invokevirtual 68, 3) := by decide +kernel
theorem dL_law_449 : decode cL_law 449 = .ok (.aload_n 2, 1) := by decide +kernel
theorem dL_law_450 : decode cL_law 450 = .ok (.aload_n 0, 1) := by decide +kernel
theorem dL_law_451 : decode cL_law 451 = .ok (.iload_n 3, 1) := by decide +kernel
theorem dL_law_452 : decode cL_law 452 = .ok (.iconst 1, 1) := by decide +kernel
theorem dL_law_453 : decode cL_law 453 = .ok (.iadd, 1) := by decide +kernel
theorem dL_law_454 : decode cL_law 454 = .ok (.iaload, 1) := by decide +kernel
theorem dL_law_455 : decode cL_law 455 = .ok (.aload_n 0, 1) := by decide +kernel
theorem dL_law_456 : decode cL_law 456 = .ok (.iload_n 3, 1) := by decide +kernel
theorem dL_law_457 : decode cL_law 457 = .ok (.iconst 2, 1) := by decide +kernel
theorem dL_law_458 : decode cL_law 458 = .ok (.iadd, 1) := by decide +kernel
theorem dL_law_459 : decode cL_law 459 = .ok (.iaload, 1) := by decide +kernel
theorem dL_law_460 : decode cL_law 460 = .ok (.invokevirtual 71, 3) := by decide +kernel
theorem dL_law_463 : decode cL_law 463 = .ok (.if_icmp .eq 219, 3) := by decide +kernel
theorem dL_law_466 : decode cL_law 466 = .ok (.iconst 0, 1) := by decide +kernel
theorem dL_law_467 : decode cL_law 467 = .ok (.ireturn, 1) := by decide +kernel
theorem dL_law_468 : decode cL_law 468 = .ok (.aload_n 1, 1) := by decide +kernel
theorem dL_law_469 : decode cL_law 469 = .ok (.aload_n 0, 1) := by decide +kernel
theorem dL_law_470 : decode cL_law 470 = .ok (.iload_n 3, 1) := by decide +kernel
theorem dL_law_471 : decode cL_law 471 = .ok (.iconst 1, 1) := by decide +kernel
theorem dL_law_472 : decode cL_law 472 = .ok (.iadd, 1) := by decide +kernel
theorem dL_law_473 : decode cL_law 473 = .ok (.iaload, 1) := by decide +kernel
theorem dL_law_474 : decode cL_law 474 = .ok (.invokevirtual 72, 3) := by decide +kernel
theorem dL_law_477 : decode cL_law 477 = .ok (.aload_n 2, 1) := by decide +kernel
theorem dL_law_478 : decode cL_law 478 = .ok (.aload_n 0, 1) := by decide +kernel
theorem dL_law_479 : decode cL_law 479 = .ok (.iload_n 3, 1) := by decide +kernel
theorem dL_law_480 : decode cL_law 480 = .ok (.iconst 1, 1) := by decide +kernel
theorem dL_law_481 : decode cL_law 481 = .ok (.iadd, 1) := by decide +kernel
theorem dL_law_482 : decode cL_law 482 = .ok (.iaload, 1) := by decide +kernel
theorem dL_law_483 : decode cL_law 483 = .ok (.invokevirtual 75, 3) := by decide +kernel
theorem dL_law_486 : decode cL_law 486 = .ok (.if_icmp .eq 196, 3) := by decide +kernel
theorem dL_law_489 : decode cL_law 489 = .ok (.iconst 0, 1) := by decide +kernel
theorem dL_law_490 : decode cL_law 490 = .ok (.ireturn, 1) := by decide +kernel
theorem dL_law_491 : decode cL_law 491 = .ok (.aload_n 1, 1) := by decide +kernel
theorem dL_law_492 : decode cL_law 492 = .ok (.aload_n 0, 1) := by decide +kernel
theorem dL_law_493 : decode cL_law 493 = .ok (.iload_n 3, 1) := by decide +kernel
theorem dL_law_494 : decode cL_law 494 = .ok (.iconst 1, 1) := by decide +kernel
theorem dL_law_495 : decode cL_law 495 = .ok (.iadd, 1) := by decide +kernel
theorem dL_law_496 : decode cL_law 496 = .ok (.iaload, 1) := by decide +kernel
theorem dL_law_497 : decode cL_law 497 = .ok (.aload_n 0, 1) := by decide +kernel
theorem dL_law_498 : decode cL_law 498 = .ok (.iload_n 3, 1) := by decide +kernel
theorem dL_law_499 : decode cL_law 499 = .ok (.iconst 2, 1) := by decide +kernel
theorem dL_law_500 : decode cL_law 500 = .ok (.iadd, 1) := by decide +kernel
theorem dL_law_501 : decode cL_law 501 = .ok (.iaload, 1) := by decide +kernel
theorem dL_law_502 : decode cL_law 502 = .ok (.aload_n 0, 1) := by decide +kernel
theorem dL_law_503 : decode cL_law 503 = .ok (.iload_n 3, 1) := by decide +kernel
theorem dL_law_504 : decode cL_law 504 = .ok (.iconst 3, 1) := by decide +kernel
theorem dL_law_505 : decode cL_law 505 = .ok (.iadd, 1) := by decide +kernel
theorem dL_law_506 : decode cL_law 506 = .ok (.iaload, 1) := by decide +kernel
theorem dL_law_507 : decode cL_law 507 = .ok (.invokevirtual 76, 3) := by decide +kernel
theorem dL_law_510 : decode cL_law 510 = .ok (.aload_n 2, 1) := by decide +kernel
theorem dL_law_511 : decode cL_law 511 = .ok (.aload_n 0, 1) := by decide +kernel
theorem dL_law_512 : decode cL_law 512 = .ok (.iload_n 3, 1) := by decide +kernel
theorem dL_law_513 : decode cL_law 513 = .ok (.iconst 1, 1) := by decide +kernel
theorem dL_law_514 : decode cL_law 514 = .ok (.iadd, 1) := by decide +kernel
theorem dL_law_515 : decode cL_law 515 = .ok (.iaload, 1) := by decide +kernel
theorem dL_law_516 : decode cL_law 516 = .ok (.aload_n 0, 1) := by decide +kernel
theorem dL_law_517 : decode cL_law 517 = .ok (.iload_n 3, 1) := by decide +kernel
theorem dL_law_518 : decode cL_law 518 = .ok (.iconst 2, 1) := by decide +kernel
theorem dL_law_519 : decode cL_law 519 = .ok (.iadd, 1) := by decide +kernel
theorem dL_law_520 : decode cL_law 520 = .ok (.iaload, 1) := by decide +kernel
theorem dL_law_521 : decode cL_law 521 = .ok (.aload_n 0, 1) := by decide +kernel
theorem dL_law_522 : decode cL_law 522 = .ok (.iload_n 3, 1) := by decide +kernel
theorem dL_law_523 : decode cL_law 523 = .ok (.iconst 3, 1) := by decide +kernel
theorem dL_law_524 : decode cL_law 524 = .ok (.iadd, 1) := by decide +kernel
theorem dL_law_525 : decode cL_law 525 = .ok (.iaload, 1) := by decide +kernel
theorem dL_law_526 : decode cL_law 526 = .ok (.invokevirtual 80, 3) := by decide +kernel
theorem dL_law_529 : decode cL_law 529 = .ok (.if_icmp .eq 153, 3) := by decide +kernel
theorem dL_law_532 : decode cL_law 532 = .ok (.iconst 0, 1) := by decide +kernel
theorem dL_law_533 : decode cL_law 533 = .ok (.ireturn, 1) := by decide +kernel
theorem dL_law_534 : decode cL_law 534 = .ok (.aload_n 1, 1) := by decide +kernel
theorem dL_law_535 : decode cL_law 535 = .ok (.aload_n 0, 1) := by decide +kernel
theorem dL_law_536 : decode cL_law 536 = .ok (.iload_n 3, 1) := by decide +kernel
theorem dL_law_537 : decode cL_law 537 = .ok (.iconst 1, 1) := by decide +kernel
theorem dL_law_538 : decode cL_law 538 = .ok (.iadd, 1) := by decide +kernel
theorem dL_law_539 : decode cL_law 539 = .ok (.iaload, 1) := by decide +kernel
theorem dL_law_540 : decode cL_law 540 = .ok (.invokevirtual 81, 3) := by decide +kernel
theorem dL_law_543 : decode cL_law 543 = .ok (.aload_n 2, 1) := by decide +kernel
theorem dL_law_544 : decode cL_law 544 = .ok (.aload_n 0, 1) := by decide +kernel
theorem dL_law_545 : decode cL_law 545 = .ok (.iload_n 3, 1) := by decide +kernel
theorem dL_law_546 : decode cL_law 546 = .ok (.iconst 1, 1) := by decide +kernel
theorem dL_law_547 : decode cL_law 547 = .ok (.iadd, 1) := by decide +kernel
theorem dL_law_548 : decode cL_law 548 = .ok (.iaload, 1) := by decide +kernel
theorem dL_law_549 : decode cL_law 549 = .ok (.invokevirtual 84, 3) := by decide +kernel
theorem dL_law_552 : decode cL_law 552 = .ok (.if_icmp .eq 130, 3) := by decide +kernel
theorem dL_law_555 : decode cL_law 555 = .ok (.iconst 0, 1) := by decide +kernel
theorem dL_law_556 : decode cL_law 556 = .ok (.ireturn, 1) := by decide +kernel
theorem dL_law_557 : decode cL_law 557 = .ok (.aload_n 1, 1) := by decide +kernel
theorem dL_law_558 : decode cL_law 558 = .ok (.aload_n 0, 1) := by decide +kernel
theorem dL_law_559 : decode cL_law 559 = .ok (.iload_n 3, 1) := by decide +kernel
theorem dL_law_560 : decode cL_law 560 = .ok (.iconst 1, 1) := by decide +kernel
theorem dL_law_561 : decode cL_law 561 = .ok (.iadd, 1) := by decide +kernel
theorem dL_law_562 : decode cL_law 562 = .ok (.iaload, 1) := by decide +kernel
theorem dL_law_563 : decode cL_law 563 = .ok (.aload_n 0, 1) := by decide +kernel
theorem dL_law_564 : decode cL_law 564 = .ok (.iload_n 3, 1) := by decide +kernel
theorem dL_law_565 : decode cL_law 565 = .ok (.iconst 2, 1) := by decide +kernel
theorem dL_law_566 : decode cL_law 566 = .ok (.iadd, 1) := by decide +kernel
theorem dL_law_567 : decode cL_law 567 = .ok (.iaload, 1) := by decide +kernel
theorem dL_law_568 : decode cL_law 568 = .ok (.aload_n 0, 1) := by decide +kernel
theorem dL_law_569 : decode cL_law 569 = .ok (.iload_n 3, 1) := by decide +kernel
theorem dL_law_570 : decode cL_law 570 = .ok (.iconst 3, 1) := by decide +kernel
theorem dL_law_571 : decode cL_law 571 = .ok (.iadd, 1) := by decide +kernel
theorem dL_law_572 : decode cL_law 572 = .ok (.iaload, 1) := by decide +kernel
theorem dL_law_573 : decode cL_law 573 = .ok (.invokevirtual 85, 3) := by decide +kernel
theorem dL_law_576 : decode cL_law 576 = .ok (.aload_n 2, 1) := by decide +kernel
theorem dL_law_577 : decode cL_law 577 = .ok (.aload_n 0, 1) := by decide +kernel
theorem dL_law_578 : decode cL_law 578 = .ok (.iload_n 3, 1) := by decide +kernel
theorem dL_law_579 : decode cL_law 579 = .ok (.iconst 1, 1) := by decide +kernel
theorem dL_law_580 : decode cL_law 580 = .ok (.iadd, 1) := by decide +kernel
theorem dL_law_581 : decode cL_law 581 = .ok (.iaload, 1) := by decide +kernel
theorem dL_law_582 : decode cL_law 582 = .ok (.aload_n 0, 1) := by decide +kernel
theorem dL_law_583 : decode cL_law 583 = .ok (.iload_n 3, 1) := by decide +kernel
theorem dL_law_584 : decode cL_law 584 = .ok (.iconst 2, 1) := by decide +kernel
theorem dL_law_585 : decode cL_law 585 = .ok (.iadd, 1) := by decide +kernel
theorem dL_law_586 : decode cL_law 586 = .ok (.iaload, 1) := by decide +kernel
theorem dL_law_587 : decode cL_law 587 = .ok (.aload_n 0, 1) := by decide +kernel
theorem dL_law_588 : decode cL_law 588 = .ok (.iload_n 3, 1) := by decide +kernel
theorem dL_law_589 : decode cL_law 589 = .ok (.iconst 3, 1) := by decide +kernel
theorem dL_law_590 : decode cL_law 590 = .ok (.iadd, 1) := by decide +kernel
theorem dL_law_591 : decode cL_law 591 = .ok (.iaload, 1) := by decide +kernel
theorem dL_law_592 : decode cL_law 592 = .ok (.invokevirtual 88, 3) := by decide +kernel
theorem dL_law_595 : decode cL_law 595 = .ok (.if_icmp .eq 87, 3) := by decide +kernel
theorem dL_law_598 : decode cL_law 598 = .ok (.iconst 0, 1) := by decide +kernel
theorem dL_law_599 : decode cL_law 599 = .ok (.ireturn, 1) := by decide +kernel
theorem dL_law_600 : decode cL_law 600 = .ok (.aload_n 1, 1) := by decide +kernel
theorem dL_law_601 : decode cL_law 601 = .ok (.aload_n 0, 1) := by decide +kernel
theorem dL_law_602 : decode cL_law 602 = .ok (.iload_n 3, 1) := by decide +kernel
theorem dL_law_603 : decode cL_law 603 = .ok (.iconst 1, 1) := by decide +kernel
theorem dL_law_604 : decode cL_law 604 = .ok (.iadd, 1) := by decide +kernel
theorem dL_law_605 : decode cL_law 605 = .ok (.iaload, 1) := by decide +kernel
theorem dL_law_606 : decode cL_law 606 = .ok (.aload_n 0, 1) := by decide +kernel
theorem dL_law_607 : decode cL_law 607 = .ok (.iload_n 3, 1) := by decide +kernel
theorem dL_law_608 : decode cL_law 608 = .ok (.iconst 2, 1) := by decide +kernel
theorem dL_law_609 : decode cL_law 609 = .ok (.iadd, 1) := by decide +kernel
theorem dL_law_610 : decode cL_law 610 = .ok (.iaload, 1) := by decide +kernel
theorem dL_law_611 : decode cL_law 611 = .ok (.invokevirtual 89, 3) := by decide +kernel
theorem dL_law_614 : decode cL_law 614 = .ok (.aload_n 2, 1) := by decide +kernel
theorem dL_law_615 : decode cL_law 615 = .ok (.aload_n 0, 1) := by decide +kernel
theorem dL_law_616 : decode cL_law 616 = .ok (.iload_n 3, 1) := by decide +kernel
theorem dL_law_617 : decode cL_law 617 = .ok (.iconst 1, 1) := by decide +kernel
theorem dL_law_618 : decode cL_law 618 = .ok (.iadd, 1) := by decide +kernel
theorem dL_law_619 : decode cL_law 619 = .ok (.iaload, 1) := by decide +kernel
theorem dL_law_620 : decode cL_law 620 = .ok (.aload_n 0, 1) := by decide +kernel
theorem dL_law_621 : decode cL_law 621 = .ok (.iload_n 3, 1) := by decide +kernel
theorem dL_law_622 : decode cL_law 622 = .ok (.iconst 2, 1) := by decide +kernel
theorem dL_law_623 : decode cL_law 623 = .ok (.iadd, 1) := by decide +kernel
theorem dL_law_624 : decode cL_law 624 = .ok (.iaload, 1) := by decide +kernel
theorem dL_law_625 : decode cL_law 625 = .ok (.invokevirtual 92, 3) := by decide +kernel
theorem dL_law_628 : decode cL_law 628 = .ok (.if_icmp .eq 54, 3) := by decide +kernel
theorem dL_law_631 : decode cL_law 631 = .ok (.iconst 0, 1) := by decide +kernel
theorem dL_law_632 : decode cL_law 632 = .ok (.ireturn, 1) := by decide +kernel
theorem dL_law_633 : decode cL_law 633 = .ok (.aload_n 1, 1) := by decide +kernel
theorem dL_law_634 : decode cL_law 634 = .ok (.aload_n 0, 1) := by decide +kernel
theorem dL_law_635 : decode cL_law 635 = .ok (.iload_n 3, 1) := by decide +kernel
theorem dL_law_636 : decode cL_law 636 = .ok (.iconst 1, 1) := by decide +kernel
theorem dL_law_637 : decode cL_law 637 = .ok (.iadd, 1) := by decide +kernel
theorem dL_law_638 : decode cL_law 638 = .ok (.iaload, 1) := by decide +kernel
theorem dL_law_639 : decode cL_law 639 = .ok (.invokevirtual 93, 3) := by decide +kernel
theorem dL_law_642 : decode cL_law 642 = .ok (.aload_n 2, 1) := by decide +kernel
theorem dL_law_643 : decode cL_law 643 = .ok (.aload_n 0, 1) := by decide +kernel
theorem dL_law_644 : decode cL_law 644 = .ok (.iload_n 3, 1) := by decide +kernel
theorem dL_law_645 : decode cL_law 645 = .ok (.iconst 1, 1) := by decide +kernel
theorem dL_law_646 : decode cL_law 646 = .ok (.iadd, 1) := by decide +kernel
theorem dL_law_647 : decode cL_law 647 = .ok (.iaload, 1) := by decide +kernel
theorem dL_law_648 : decode cL_law 648 = .ok (.invokevirtual 96, 3) := by decide +kernel
theorem dL_law_651 : decode cL_law 651 = .ok (.if_icmp .eq 31, 3) := by decide +kernel
theorem dL_law_654 : decode cL_law 654 = .ok (.iconst 0, 1) := by decide +kernel
theorem dL_law_655 : decode cL_law 655 = .ok (.ireturn, 1) := by decide +kernel
theorem dL_law_656 : decode cL_law 656 = .ok (.aload_n 1, 1) := by decide +kernel
theorem dL_law_657 : decode cL_law 657 = .ok (.invokevirtual 97, 3) := by decide +kernel
theorem dL_law_660 : decode cL_law 660 = .ok (.aload_n 2, 1) := by decide +kernel
theorem dL_law_661 : decode cL_law 661 = .ok (.invokevirtual 100, 3) := by decide +kernel
theorem dL_law_664 : decode cL_law 664 = .ok (.if_icmp .eq 18, 3) := by decide +kernel
theorem dL_law_667 : decode cL_law 667 = .ok (.iconst 0, 1) := by decide +kernel
theorem dL_law_668 : decode cL_law 668 = .ok (.ireturn, 1) := by decide +kernel
theorem dL_law_669 : decode cL_law 669 = .ok (.aload_n 1, 1) := by decide +kernel
theorem dL_law_670 : decode cL_law 670 = .ok (.invokevirtual 101, 3) := by decide +kernel
theorem dL_law_673 : decode cL_law 673 = .ok (.aload_n 2, 1) := by decide +kernel
theorem dL_law_674 : decode cL_law 674 = .ok (.invokevirtual 104, 3) := by decide +kernel
theorem dL_law_677 : decode cL_law 677 = .ok (.if_icmp .eq 5, 3) := by decide +kernel
theorem dL_law_680 : decode cL_law 680 = .ok (.iconst 0, 1) := by decide +kernel
theorem dL_law_681 : decode cL_law 681 = .ok (.ireturn, 1) := by decide +kernel
theorem dL_law_682 : decode cL_law 682 = .ok (.iinc 3 4, 3) := by decide +kernel
theorem dL_law_685 : decode cL_law 685 = .ok (.goto (-667), 3) := by decide +kernel
theorem dL_law_688 : decode cL_law 688 = .ok (.iconst 1, 1) := by decide +kernel
theorem dL_law_689 : decode cL_law 689 = .ok (.ireturn, 1) := by decide +kernel
abbrev vwCl : List vw_C := [(RX0, TX0, 2), (RX1, TX1, 5), (RX2, TX2, 2), (RX3, TX3, 1), (RX4, TX4, 9), (RX5, TX5, 5), (RX6, TX6, 2), (RX7, TX7, 5), (RX8, TX8, 7), (RX9, TX9, 15)]
