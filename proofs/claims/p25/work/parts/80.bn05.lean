theorem dX7_isWord_16 : decode cX7_isWord 16 = .ok (.iload_n 3, 1) := by decide +kernel
theorem dX7_isWord_17 : decode cX7_isWord 17 = .ok (.aload_n 2, 1) := by decide +kernel
theorem dX7_isWord_18 : decode cX7_isWord 18 = .ok (.invokevirtual 42, 3) := by decide +kernel
theorem dX7_isWord_21 : decode cX7_isWord 21 = .ok (.if_icmp .ge 25, 3) := by decide +kernel
theorem dX7_isWord_24 : decode cX7_isWord 24 = .ok (.aload_n 0, 1) := by decide +kernel
theorem dX7_isWord_25 : decode cX7_isWord 25 = .ok (.iload_n 1, 1) := by decide +kernel
theorem dX7_isWord_26 : decode cX7_isWord 26 = .ok (.iload_n 3, 1) := by decide +kernel
theorem dX7_isWord_27 : decode cX7_isWord 27 = .ok (.invokevirtual 47, 3) := by decide +kernel
theorem dX7_isWord_30 : decode cX7_isWord 30 = .ok (.aload_n 2, 1) := by decide +kernel
theorem dX7_isWord_31 : decode cX7_isWord 31 = .ok (.iload_n 3, 1) := by decide +kernel
theorem dX7_isWord_32 : decode cX7_isWord 32 = .ok (.invokevirtual 51, 3) := by decide +kernel
theorem dX7_isWord_35 : decode cX7_isWord 35 = .ok (.if_icmp .eq 5, 3) := by decide +kernel
theorem dX7_isWord_38 : decode cX7_isWord 38 = .ok (.iconst 0, 1) := by decide +kernel
theorem dX7_isWord_39 : decode cX7_isWord 39 = .ok (.ireturn, 1) := by decide +kernel
theorem dX7_isWord_40 : decode cX7_isWord 40 = .ok (.iinc 3 1, 3) := by decide +kernel
theorem dX7_isWord_43 : decode cX7_isWord 43 = .ok (.goto (-27), 3) := by decide +kernel
theorem dX7_isWord_46 : decode cX7_isWord 46 = .ok (.iconst 1, 1) := by decide +kernel
theorem dX7_isWord_47 : decode cX7_isWord 47 = .ok (.ireturn, 1) := by decide +kernel
theorem dX7_empty_0 : decode cX7_empty 0 = .ok (.aload_n 0, 1) := by decide +kernel
theorem dX7_empty_1 : decode cX7_empty 1 = .ok (.iconst 0, 1) := by decide +kernel
theorem dX7_empty_2 : decode cX7_empty 2 = .ok (.putfield 28, 3) := by decide +kernel
theorem dX7_empty_5 : decode cX7_empty 5 = .ok (.return_, 1) := by decide +kernel
set_option maxRecDepth 20000 in
theorem ggX7_addWordsOf_X6_size : GoodIn wsX7_addWordsOf wsX6_size := goodIn_r _ [5, 6, 44, 45] (by decide +kernel) (by decide +kernel)
set_option maxRecDepth 20000 in
theorem gX7_addWordsOf_X6_size : GoodIn wsX7_addWordsOf (wsV RX7 42 RX6 yX6_size wsX6_size) := goodIn_app (goodIn_of _ (by decide +kernel)) ggX7_addWordsOf_X6_size
set_option maxRecDepth 20000 in
theorem ggX7_addWordsOf_X6_at : GoodIn wsX7_addWordsOf wsX6_at := goodIn_r _ [10, 11, 12, 13, 14, 15, 16, 17, 44, 45, 46] (by decide +kernel) (by decide +kernel)
set_option maxRecDepth 20000 in
theorem gX7_addWordsOf_X6_at : GoodIn wsX7_addWordsOf (wsV RX7 51 RX6 yX6_at wsX6_at) := goodIn_app (goodIn_of _ (by decide +kernel)) ggX7_addWordsOf_X6_at
set_option maxRecDepth 20000 in
theorem ggX7_addWordsOf_X8_isLetter : GoodIn wsX7_addWordsOf wsX8_isLetter := goodIn_r _ [20] (by decide +kernel) (by decide +kernel)
set_option maxRecDepth 20000 in
theorem gX7_addWordsOf_X8_isLetter_n52 : GoodIn wsX7_addWordsOf (wsX8_isLetter) := ggX7_addWordsOf_X8_isLetter
set_option maxRecDepth 20000 in
theorem ggX7_addWordsOf_X7_beginWord : GoodIn wsX7_addWordsOf wsX7_beginWord := goodIn_r _ [25, 26, 27, 28, 29, 30, 31, 15, 32, 17, 47, 48, 49, 50, 51, 46] (by decide +kernel) (by decide +kernel)
set_option maxRecDepth 20000 in
theorem gX7_addWordsOf_X7_beginWord : GoodIn wsX7_addWordsOf (wsV RX7 58 RX7 yX7_beginWord wsX7_beginWord) := goodIn_app (goodIn_of _ (by decide +kernel)) ggX7_addWordsOf_X7_beginWord
set_option maxRecDepth 20000 in
theorem ggX7_addWordsOf_X7_addLetter : GoodIn wsX7_addWordsOf wsX7_addLetter := goodIn_r _ [36, 26, 37, 38, 28, 39, 40, 41, 24, 42, 43, 13, 14, 15, 16, 17, 29, 30, 31, 32, 47, 48, 49, 50, 51, 46] (by decide +kernel) (by decide +kernel)
set_option maxRecDepth 20000 in
theorem gX7_addWordsOf_X7_addLetter : GoodIn wsX7_addWordsOf (wsV RX7 61 RX7 yX7_addLetter wsX7_addLetter) := goodIn_app (goodIn_of _ (by decide +kernel)) ggX7_addWordsOf_X7_addLetter
theorem dX7_addWordsOf_0 : decode cX7_addWordsOf 0 = .ok (.iconst 0, 1) := by decide +kernel
theorem dX7_addWordsOf_1 : decode cX7_addWordsOf 1 = .ok (.istore_n 2, 1) := by decide +kernel
theorem dX7_addWordsOf_2 : decode cX7_addWordsOf 2 = .ok (.iconst 0, 1) := by decide +kernel
theorem dX7_addWordsOf_3 : decode cX7_addWordsOf 3 = .ok (.istore_n 3, 1) := by decide +kernel
theorem dX7_addWordsOf_4 : decode cX7_addWordsOf 4 = .ok (.iload_n 3, 1) := by decide +kernel
theorem dX7_addWordsOf_5 : decode cX7_addWordsOf 5 = .ok (.aload_n 1, 1) := by decide +kernel
theorem dX7_addWordsOf_6 : decode cX7_addWordsOf 6 = .ok (.invokevirtual 42, 3) := by decide +kernel
theorem dX7_addWordsOf_9 : decode cX7_addWordsOf 9 = .ok (.if_icmp .ge 44, 3) := by decide +kernel
theorem dX7_addWordsOf_12 : decode cX7_addWordsOf 12 = .ok (.aload_n 1, 1) := by decide +kernel
theorem dX7_addWordsOf_13 : decode cX7_addWordsOf 13 = .ok (.iload_n 3, 1) := by decide +kernel
theorem dX7_addWordsOf_14 : decode cX7_addWordsOf 14 = .ok (.invokevirtual 51, 3) := by decide +kernel
theorem dX7_addWordsOf_17 : decode cX7_addWordsOf 17 = .ok (.invokestatic 52, 3) := by decide +kernel
theorem dX7_addWordsOf_20 : decode cX7_addWordsOf 20 = .ok (.ifCond .ne 8, 3) := by decide +kernel
theorem dX7_addWordsOf_23 : decode cX7_addWordsOf 23 = .ok (.iconst 0, 1) := by decide +kernel
theorem dX7_addWordsOf_24 : decode cX7_addWordsOf 24 = .ok (.istore_n 2, 1) := by decide +kernel
theorem dX7_addWordsOf_25 : decode cX7_addWordsOf 25 = .ok (.goto 22, 3) := by decide +kernel
theorem dX7_addWordsOf_28 : decode cX7_addWordsOf 28 = .ok (.iload_n 2, 1) := by decide +kernel
theorem dX7_addWordsOf_29 : decode cX7_addWordsOf 29 = .ok (.ifCond .ne 7, 3) := by decide +kernel
theorem dX7_addWordsOf_32 : decode cX7_addWordsOf 32 = .ok (.aload_n 0, 1) := by decide +kernel
theorem dX7_addWordsOf_33 : decode cX7_addWordsOf 33 = .ok (.invokevirtual 58, 3) := by decide +kernel
theorem dX7_addWordsOf_36 : decode cX7_addWordsOf 36 = .ok (.iconst 1, 1) := by decide +kernel
theorem dX7_addWordsOf_37 : decode cX7_addWordsOf 37 = .ok (.istore_n 2, 1) := by decide +kernel
theorem dX7_addWordsOf_38 : decode cX7_addWordsOf 38 = .ok (.aload_n 0, 1) := by decide +kernel
theorem dX7_addWordsOf_39 : decode cX7_addWordsOf 39 = .ok (.aload_n 1, 1) := by decide +kernel
theorem dX7_addWordsOf_40 : decode cX7_addWordsOf 40 = .ok (.iload_n 3, 1) := by decide +kernel
theorem dX7_addWordsOf_41 : decode cX7_addWordsOf 41 = .ok (.invokevirtual 51, 3) := by decide +kernel
theorem dX7_addWordsOf_44 : decode cX7_addWordsOf 44 = .ok (.invokevirtual 61, 3) := by decide +kernel
theorem dX7_addWordsOf_47 : decode cX7_addWordsOf 47 = .ok (.iinc 3 1, 3) := by decide +kernel
theorem dX7_addWordsOf_50 : decode cX7_addWordsOf 50 = .ok (.goto (-46), 3) := by decide +kernel
theorem dX7_addWordsOf_53 : decode cX7_addWordsOf 53 = .ok (.return_, 1) := by decide +kernel
set_option maxRecDepth 20000 in
theorem ggX7_beginWord_X3_put : GoodIn wsX7_beginWord wsX3_put := goodIn_r _ [8, 9, 15] (by decide +kernel) (by decide +kernel)
set_option maxRecDepth 20000 in
theorem gX7_beginWord_X3_put : GoodIn wsX7_beginWord (wsV RX7 64 RX3 yX3_put wsX3_put) := goodIn_app (goodIn_of _ (by decide +kernel)) ggX7_beginWord_X3_put
theorem dX7_beginWord_0 : decode cX7_beginWord 0 = .ok (.aload_n 0, 1) := by decide +kernel
theorem dX7_beginWord_1 : decode cX7_beginWord 1 = .ok (.getfield 28, 3) := by decide +kernel
theorem dX7_beginWord_4 : decode cX7_beginWord 4 = .ok (.aload_n 0, 1) := by decide +kernel
theorem dX7_beginWord_5 : decode cX7_beginWord 5 = .ok (.getfield 7, 3) := by decide +kernel
theorem dX7_beginWord_8 : decode cX7_beginWord 8 = .ok (.if_icmp .ge 25, 3) := by decide +kernel
theorem dX7_beginWord_11 : decode cX7_beginWord 11 = .ok (.aload_n 0, 1) := by decide +kernel
theorem dX7_beginWord_12 : decode cX7_beginWord 12 = .ok (.getfield 25, 3) := by decide +kernel
theorem dX7_beginWord_15 : decode cX7_beginWord 15 = .ok (.aload_n 0, 1) := by decide +kernel
theorem dX7_beginWord_16 : decode cX7_beginWord 16 = .ok (.getfield 28, 3) := by decide +kernel
theorem dX7_beginWord_19 : decode cX7_beginWord 19 = .ok (.iconst 0, 1) := by decide +kernel
theorem dX7_beginWord_20 : decode cX7_beginWord 20 = .ok (.invokevirtual 64, 3) := by decide +kernel
theorem dX7_beginWord_23 : decode cX7_beginWord 23 = .ok (.aload_n 0, 1) := by decide +kernel
theorem dX7_beginWord_24 : decode cX7_beginWord 24 = .ok (.dup, 1) := by decide +kernel
theorem dX7_beginWord_25 : decode cX7_beginWord 25 = .ok (.getfield 28, 3) := by decide +kernel
theorem dX7_beginWord_28 : decode cX7_beginWord 28 = .ok (.iconst 1, 1) := by decide +kernel
theorem dX7_beginWord_29 : decode cX7_beginWord 29 = .ok (.iadd, 1) := by decide +kernel
theorem dX7_beginWord_30 : decode cX7_beginWord 30 = .ok (.putfield 28, 3) := by decide +kernel
theorem dX7_beginWord_33 : decode cX7_beginWord 33 = .ok (.return_, 1) := by decide +kernel
set_option maxRecDepth 20000 in
theorem ggX7_addLetter_X7_lengthOf : GoodIn wsX7_addLetter wsX7_lengthOf := goodIn_r _ [9, 4, 10, 11, 12, 13, 14, 15, 20, 21, 22, 23, 24, 25] (by decide +kernel) (by decide +kernel)
set_option maxRecDepth 20000 in
theorem gX7_addLetter_X7_lengthOf : GoodIn wsX7_addLetter (wsV RX7 39 RX7 yX7_lengthOf wsX7_lengthOf) := goodIn_app (goodIn_of _ (by decide +kernel)) ggX7_addLetter_X7_lengthOf
set_option maxRecDepth 20000 in
theorem ggX7_addLetter_X3_put : GoodIn wsX7_addLetter wsX3_put := goodIn_r _ [19, 15, 25] (by decide +kernel) (by decide +kernel)
set_option maxRecDepth 20000 in
theorem gX7_addLetter_X3_put : GoodIn wsX7_addLetter (wsV RX7 64 RX3 yX3_put wsX3_put) := goodIn_app (goodIn_of _ (by decide +kernel)) ggX7_addLetter_X3_put
theorem dX7_addLetter_0 : decode cX7_addLetter 0 = .ok (.aload_n 0, 1) := by decide +kernel
theorem dX7_addLetter_1 : decode cX7_addLetter 1 = .ok (.getfield 28, 3) := by decide +kernel
theorem dX7_addLetter_4 : decode cX7_addLetter 4 = .ok (.iconst 1, 1) := by decide +kernel
theorem dX7_addLetter_5 : decode cX7_addLetter 5 = .ok (.isub, 1) := by decide +kernel
theorem dX7_addLetter_6 : decode cX7_addLetter 6 = .ok (.istore_n 2, 1) := by decide +kernel
theorem dX7_addLetter_7 : decode cX7_addLetter 7 = .ok (.aload_n 0, 1) := by decide +kernel
theorem dX7_addLetter_8 : decode cX7_addLetter 8 = .ok (.iload_n 2, 1) := by decide +kernel
theorem dX7_addLetter_9 : decode cX7_addLetter 9 = .ok (.invokevirtual 39, 3) := by decide +kernel
theorem dX7_addLetter_12 : decode cX7_addLetter 12 = .ok (.istore_n 3, 1) := by decide +kernel
theorem dX7_addLetter_13 : decode cX7_addLetter 13 = .ok (.iload_n 2, 1) := by decide +kernel
theorem dX7_addLetter_14 : decode cX7_addLetter 14 = .ok (.ifCond .lt 38, 3) := by decide +kernel
theorem dX7_addLetter_17 : decode cX7_addLetter 17 = .ok (.iload_n 3, 1) := by decide +kernel
theorem dX7_addLetter_18 : decode cX7_addLetter 18 = .ok (.aload_n 0, 1) := by decide +kernel
theorem dX7_addLetter_19 : decode cX7_addLetter 19 = .ok (.getfield 13, 3) := by decide +kernel
theorem dX7_addLetter_22 : decode cX7_addLetter 22 = .ok (.if_icmp .ge 30, 3) := by decide +kernel
theorem dX7_addLetter_25 : decode cX7_addLetter 25 = .ok (.aload_n 0, 1) := by decide +kernel
theorem dX7_addLetter_26 : decode cX7_addLetter 26 = .ok (.getfield 21, 3) := by decide +kernel
theorem dX7_addLetter_29 : decode cX7_addLetter 29 = .ok (.iload_n 2, 1) := by decide +kernel
theorem dX7_addLetter_30 : decode cX7_addLetter 30 = .ok (.aload_n 0, 1) := by decide +kernel
theorem dX7_addLetter_31 : decode cX7_addLetter 31 = .ok (.getfield 13, 3) := by decide +kernel
theorem dX7_addLetter_34 : decode cX7_addLetter 34 = .ok (.imul, 1) := by decide +kernel
theorem dX7_addLetter_35 : decode cX7_addLetter 35 = .ok (.iload_n 3, 1) := by decide +kernel
theorem dX7_addLetter_36 : decode cX7_addLetter 36 = .ok (.iadd, 1) := by decide +kernel
theorem dX7_addLetter_37 : decode cX7_addLetter 37 = .ok (.iload_n 1, 1) := by decide +kernel
theorem dX7_addLetter_38 : decode cX7_addLetter 38 = .ok (.invokevirtual 64, 3) := by decide +kernel
theorem dX7_addLetter_41 : decode cX7_addLetter 41 = .ok (.aload_n 0, 1) := by decide +kernel
theorem dX7_addLetter_42 : decode cX7_addLetter 42 = .ok (.getfield 25, 3) := by decide +kernel
theorem dX7_addLetter_45 : decode cX7_addLetter 45 = .ok (.iload_n 2, 1) := by decide +kernel
theorem dX7_addLetter_46 : decode cX7_addLetter 46 = .ok (.iload_n 3, 1) := by decide +kernel
theorem dX7_addLetter_47 : decode cX7_addLetter 47 = .ok (.iconst 1, 1) := by decide +kernel
theorem dX7_addLetter_48 : decode cX7_addLetter 48 = .ok (.iadd, 1) := by decide +kernel
theorem dX7_addLetter_49 : decode cX7_addLetter 49 = .ok (.invokevirtual 64, 3) := by decide +kernel
theorem dX7_addLetter_52 : decode cX7_addLetter 52 = .ok (.return_, 1) := by decide +kernel
set_option maxRecDepth 20000 in
theorem ggX7_remove_X7_has : GoodIn wsX7_remove wsX7_has := goodIn_r _ [9, 1, 28, 29, 30, 31, 32] (by decide +kernel) (by decide +kernel)
set_option maxRecDepth 20000 in
theorem gX7_remove_X7_has : GoodIn wsX7_remove (wsV RX7 68 RX7 yX7_has wsX7_has) := goodIn_app (goodIn_of _ (by decide +kernel)) ggX7_remove_X7_has
set_option maxRecDepth 20000 in
theorem ggX7_remove_X7_lengthOf : GoodIn wsX7_remove wsX7_lengthOf := goodIn_r _ [13, 2, 14, 15, 16, 17, 18, 19, 28, 29, 30, 31, 32, 33] (by decide +kernel) (by decide +kernel)
set_option maxRecDepth 20000 in
theorem gX7_remove_X7_lengthOf : GoodIn wsX7_remove (wsV RX7 39 RX7 yX7_lengthOf wsX7_lengthOf) := goodIn_app (goodIn_of _ (by decide +kernel)) ggX7_remove_X7_lengthOf
set_option maxRecDepth 20000 in
theorem ggX7_remove_X3_put : GoodIn wsX7_remove wsX3_put := goodIn_r _ [23, 19, 33] (by decide +kernel) (by decide +kernel)
set_option maxRecDepth 20000 in
theorem gX7_remove_X3_put : GoodIn wsX7_remove (wsV RX7 64 RX3 yX3_put wsX3_put) := goodIn_app (goodIn_of _ (by decide +kernel)) ggX7_remove_X3_put
set_option maxRecDepth 20000 in
theorem ggX7_remove_X7_letterOf : GoodIn wsX7_remove wsX7_letterOf := goodIn_r _ [27, 4, 3, 14, 15, 16, 17, 18, 19, 28, 29, 30, 31, 32, 33] (by decide +kernel) (by decide +kernel)
set_option maxRecDepth 20000 in
theorem gX7_remove_X7_letterOf : GoodIn wsX7_remove (wsV RX7 47 RX7 yX7_letterOf wsX7_letterOf) := goodIn_app (goodIn_of _ (by decide +kernel)) ggX7_remove_X7_letterOf
theorem dX7_remove_0 : decode cX7_remove 0 = .ok (.aload_n 0, 1) := by decide +kernel
theorem dX7_remove_1 : decode cX7_remove 1 = .ok (.iload_n 1, 1) := by decide +kernel
theorem dX7_remove_2 : decode cX7_remove 2 = .ok (.invokevirtual 68, 3) := by decide +kernel
theorem dX7_remove_5 : decode cX7_remove 5 = .ok (.ifCond .ne 4, 3) := by decide +kernel
theorem dX7_remove_8 : decode cX7_remove 8 = .ok (.return_, 1) := by decide +kernel
theorem dX7_remove_9 : decode cX7_remove 9 = .ok (.iload_n 1, 1) := by decide +kernel
theorem dX7_remove_10 : decode cX7_remove 10 = .ok (.istore_n 2, 1) := by decide +kernel
theorem dX7_remove_11 : decode cX7_remove 11 = .ok (.iload_n 2, 1) := by decide +kernel
theorem dX7_remove_12 : decode cX7_remove 12 = .ok (.aload_n 0, 1) := by decide +kernel
theorem dX7_remove_13 : decode cX7_remove 13 = .ok (.getfield 28, 3) := by decide +kernel
theorem dX7_remove_16 : decode cX7_remove 16 = .ok (.iconst 1, 1) := by decide +kernel
theorem dX7_remove_17 : decode cX7_remove 17 = .ok (.isub, 1) := by decide +kernel
theorem dX7_remove_18 : decode cX7_remove 18 = .ok (.if_icmp .ge 63, 3) := by decide +kernel
theorem dX7_remove_21 : decode cX7_remove 21 = .ok (.aload_n 0, 1) := by decide +kernel
theorem dX7_remove_22 : decode cX7_remove 22 = .ok (.getfield 25, 3) := by decide +kernel
theorem dX7_remove_25 : decode cX7_remove 25 = .ok (.iload_n 2, 1) := by decide +kernel
theorem dX7_remove_26 : decode cX7_remove 26 = .ok (.aload_n 0, 1) := by decide +kernel
theorem dX7_remove_27 : decode cX7_remove 27 = .ok (.iload_n 2, 1) := by decide +kernel
theorem dX7_remove_28 : decode cX7_remove 28 = .ok (.iconst 1, 1) := by decide +kernel
theorem dX7_remove_29 : decode cX7_remove 29 = .ok (.iadd, 1) := by decide +kernel
theorem dX7_remove_30 : decode cX7_remove 30 = .ok (.invokevirtual 39, 3) := by decide +kernel
theorem dX7_remove_33 : decode cX7_remove 33 = .ok (.invokevirtual 64, 3) := by decide +kernel
theorem dX7_remove_36 : decode cX7_remove 36 = .ok (.iconst 0, 1) := by decide +kernel
theorem dX7_remove_37 : decode cX7_remove 37 = .ok (.istore_n 3, 1) := by decide +kernel
theorem dX7_remove_38 : decode cX7_remove 38 = .ok (.iload_n 3, 1) := by decide +kernel
theorem dX7_remove_39 : decode cX7_remove 39 = .ok (.aload_n 0, 1) := by decide +kernel
theorem dX7_remove_40 : decode cX7_remove 40 = .ok (.getfield 13, 3) := by decide +kernel
theorem dX7_remove_43 : decode cX7_remove 43 = .ok (.if_icmp .ge 32, 3) := by decide +kernel
theorem dX7_remove_46 : decode cX7_remove 46 = .ok (.aload_n 0, 1) := by decide +kernel
theorem dX7_remove_47 : decode cX7_remove 47 = .ok (.getfield 21, 3) := by decide +kernel
theorem dX7_remove_50 : decode cX7_remove 50 = .ok (.iload_n 2, 1) := by decide +kernel
theorem dX7_remove_51 : decode cX7_remove 51 = .ok (.aload_n 0, 1) := by decide +kernel
theorem dX7_remove_52 : decode cX7_remove 52 = .ok (.getfield 13, 3) := by decide +kernel
theorem dX7_remove_55 : decode cX7_remove 55 = .ok (.imul, 1) := by decide +kernel
theorem dX7_remove_56 : decode cX7_remove 56 = .ok (.iload_n 3, 1) := by decide +kernel
theorem dX7_remove_57 : decode cX7_remove 57 = .ok (.iadd, 1) := by decide +kernel
theorem dX7_remove_58 : decode cX7_remove 58 = .ok (.aload_n 0, 1) := by decide +kernel
theorem dX7_remove_59 : decode cX7_remove 59 = .ok (.iload_n 2, 1) := by decide +kernel
theorem dX7_remove_60 : decode cX7_remove 60 = .ok (.iconst 1, 1) := by decide +kernel
theorem dX7_remove_61 : decode cX7_remove 61 = .ok (.iadd, 1) := by decide +kernel
theorem dX7_remove_62 : decode cX7_remove 62 = .ok (.iload_n 3, 1) := by decide +kernel
theorem dX7_remove_63 : decode cX7_remove 63 = .ok (.invokevirtual 47, 3) := by decide +kernel
theorem dX7_remove_66 : decode cX7_remove 66 = .ok (.invokevirtual 64, 3) := by decide +kernel
theorem dX7_remove_69 : decode cX7_remove 69 = .ok (.iinc 3 1, 3) := by decide +kernel
theorem dX7_remove_72 : decode cX7_remove 72 = .ok (.goto (-34), 3) := by decide +kernel
theorem dX7_remove_75 : decode cX7_remove 75 = .ok (.iinc 2 1, 3) := by decide +kernel
theorem dX7_remove_78 : decode cX7_remove 78 = .ok (.goto (-67), 3) := by decide +kernel
theorem dX7_remove_81 : decode cX7_remove 81 = .ok (.aload_n 0, 1) := by decide +kernel
theorem dX7_remove_82 : decode cX7_remove 82 = .ok (.dup, 1) := by decide +kernel
theorem dX7_remove_83 : decode cX7_remove 83 = .ok (.getfield 28, 3) := by decide +kernel
theorem dX7_remove_86 : decode cX7_remove 86 = .ok (.iconst 1, 1) := by decide +kernel
theorem dX7_remove_87 : decode cX7_remove 87 = .ok (.isub, 1) := by decide +kernel
theorem dX7_remove_88 : decode cX7_remove 88 = .ok (.putfield 28, 3) := by decide +kernel
theorem dX7_remove_91 : decode cX7_remove 91 = .ok (.return_, 1) := by decide +kernel
set_option maxRecDepth 20000 in
theorem ggX7_copyFrom_X3_copyFrom : GoodIn wsX7_copyFrom wsX3_copyFrom := goodIn_r _ [13, 14, 15, 6, 7, 8, 16, 17, 18, 19, 25] (by decide +kernel) (by decide +kernel)
set_option maxRecDepth 20000 in
theorem gX7_copyFrom_X3_copyFrom : GoodIn wsX7_copyFrom (wsV RX7 71 RX3 yX3_copyFrom wsX3_copyFrom) := goodIn_app (goodIn_of _ (by decide +kernel)) ggX7_copyFrom_X3_copyFrom
theorem dX7_copyFrom_0 : decode cX7_copyFrom 0 = .ok (.aload_n 0, 1) := by decide +kernel
theorem dX7_copyFrom_1 : decode cX7_copyFrom 1 = .ok (.getfield 21, 3) := by decide +kernel
theorem dX7_copyFrom_4 : decode cX7_copyFrom 4 = .ok (.aload_n 1, 1) := by decide +kernel
theorem dX7_copyFrom_5 : decode cX7_copyFrom 5 = .ok (.getfield 21, 3) := by decide +kernel
theorem dX7_copyFrom_8 : decode cX7_copyFrom 8 = .ok (.invokevirtual 71, 3) := by decide +kernel
theorem dX7_copyFrom_11 : decode cX7_copyFrom 11 = .ok (.aload_n 0, 1) := by decide +kernel
theorem dX7_copyFrom_12 : decode cX7_copyFrom 12 = .ok (.getfield 25, 3) := by decide +kernel
theorem dX7_copyFrom_15 : decode cX7_copyFrom 15 = .ok (.aload_n 1, 1) := by decide +kernel
theorem dX7_copyFrom_16 : decode cX7_copyFrom 16 = .ok (.getfield 25, 3) := by decide +kernel
theorem dX7_copyFrom_19 : decode cX7_copyFrom 19 = .ok (.invokevirtual 71, 3) := by decide +kernel
theorem dX7_copyFrom_22 : decode cX7_copyFrom 22 = .ok (.aload_n 0, 1) := by decide +kernel
theorem dX7_copyFrom_23 : decode cX7_copyFrom 23 = .ok (.aload_n 0, 1) := by decide +kernel
theorem dX7_copyFrom_24 : decode cX7_copyFrom 24 = .ok (.getfield 7, 3) := by decide +kernel
theorem dX7_copyFrom_27 : decode cX7_copyFrom 27 = .ok (.aload_n 1, 1) := by decide +kernel
theorem dX7_copyFrom_28 : decode cX7_copyFrom 28 = .ok (.getfield 28, 3) := by decide +kernel
theorem dX7_copyFrom_31 : decode cX7_copyFrom 31 = .ok (.invokestatic 75, 3) := by decide +kernel
theorem dX7_copyFrom_34 : decode cX7_copyFrom 34 = .ok (.putfield 28, 3) := by decide +kernel
theorem dX7_copyFrom_37 : decode cX7_copyFrom 37 = .ok (.return_, 1) := by decide +kernel
set_option maxRecDepth 20000 in
theorem ggX8_init_X6_init : GoodIn wsX8_init wsX6_init := goodIn_r _ [31, 32, 2, 3, 33, 34, 35, 36, 37, 38, 39, 40, 41, 42, 43, 44, 45, 46, 47, 155, 123, 124] (by decide +kernel) (by decide +kernel)
set_option maxRecDepth 20000 in
theorem gX8_init_X6_init : GoodIn wsX8_init (wsX6_init) := ggX8_init_X6_init
set_option maxRecDepth 20000 in
theorem ggX8_init_X5_init : GoodIn wsX8_init wsX5_init := goodIn_r _ [50, 51, 2, 3, 52, 53, 54, 55, 56, 57, 58, 34, 35, 59, 60, 61, 62, 63, 64, 65, 66, 67, 68, 69, 70, 71, 39, 40, 41, 42, 43, 44, 45, 46, 47, 72, 73, 74, 75, 76, 77, 78, 79, 80, 156, 157, 158, 159, 160, 132, 133, 134, 135, 136, 155] (by decide +kernel) (by decide +kernel)
set_option maxRecDepth 20000 in
theorem gX8_init_X5_init : GoodIn wsX8_init (wsX5_init) := ggX8_init_X5_init
set_option maxRecDepth 20000 in
theorem ggX8_init_X2_init : GoodIn wsX8_init wsX2_init := goodIn_r _ [83, 84, 2, 3, 85, 86, 9, 10, 87, 88, 49, 50, 51, 52, 53, 54, 55, 56, 57, 58, 34, 35, 59, 60, 61, 62, 63, 64, 65, 66, 67, 68, 69, 70, 71, 39, 40, 41, 42, 43, 44, 45, 46, 47, 72, 73, 74, 75, 76, 77, 78, 79, 80, 137, 138, 132, 133, 134, 135, 136, 156, 157, 158, 159, 160, 155] (by decide +kernel) (by decide +kernel)
set_option maxRecDepth 20000 in
theorem gX8_init_X2_init : GoodIn wsX8_init (wsX2_init) := ggX8_init_X2_init
set_option maxRecDepth 20000 in
theorem ggX8_init_X1_init : GoodIn wsX8_init wsX1_init := goodIn_r _ [91, 92, 2, 3, 93, 34, 35, 94, 95, 96, 97, 98, 99, 39, 40, 41, 42, 43, 44, 45, 46, 47, 155, 139, 140, 141, 142, 143] (by decide +kernel) (by decide +kernel)
set_option maxRecDepth 20000 in
theorem gX8_init_X1_init : GoodIn wsX8_init (wsX1_init) := ggX8_init_X1_init
set_option maxRecDepth 20000 in
theorem ggX8_init_X0_init : GoodIn wsX8_init wsX0_init := goodIn_r _ [102, 103, 2, 3, 104, 105, 34, 35, 106, 107, 39, 40, 41, 42, 43, 44, 45, 46, 47, 144, 145, 155] (by decide +kernel) (by decide +kernel)
set_option maxRecDepth 20000 in
theorem gX8_init_X0_init : GoodIn wsX8_init (wsX0_init) := ggX8_init_X0_init
set_option maxRecDepth 20000 in
theorem ggX8_init_X4_init : GoodIn wsX8_init wsX4_init := goodIn_r _ [110, 111, 2, 3, 112, 113, 114, 34, 35, 115, 116, 117, 118, 119, 120, 121, 122, 39, 40, 41, 42, 43, 44, 45, 46, 47, 146, 147, 148, 149, 150, 151, 152, 153, 154, 155] (by decide +kernel) (by decide +kernel)
set_option maxRecDepth 20000 in
theorem gX8_init_X4_init : GoodIn wsX8_init (wsX4_init) := ggX8_init_X4_init
theorem dX8_init_0 : decode cX8_init 0 = .ok (.aload_n 0, 1) := by decide +kernel
theorem dX8_init_1 : decode cX8_init 1 = .ok (.invokespecial 3, 3) := by decide +kernel
theorem dX8_init_4 : decode cX8_init 4 = .ok (.aload_n 0, 1) := by decide +kernel
theorem dX8_init_5 : decode cX8_init 5 = .ok (.new 9, 3) := by decide +kernel
theorem dX8_init_8 : decode cX8_init 8 = .ok (.dup, 1) := by decide +kernel
theorem dX8_init_9 : decode cX8_init 9 = .ok (.invokespecial 11, 3) := by decide +kernel
theorem dX8_init_12 : decode cX8_init 12 = .ok (.putfield 12, 3) := by decide +kernel
theorem dX8_init_15 : decode cX8_init 15 = .ok (.aload_n 0, 1) := by decide +kernel
theorem dX8_init_16 : decode cX8_init 16 = .ok (.new 16, 3) := by decide +kernel
theorem dX8_init_19 : decode cX8_init 19 = .ok (.dup, 1) := by decide +kernel
theorem dX8_init_20 : decode cX8_init 20 = .ok (.invokespecial 18, 3) := by decide +kernel
theorem dX8_init_23 : decode cX8_init 23 = .ok (.putfield 19, 3) := by decide +kernel
theorem dX8_init_26 : decode cX8_init 26 = .ok (.aload_n 0, 1) := by decide +kernel
theorem dX8_init_27 : decode cX8_init 27 = .ok (.new 23, 3) := by decide +kernel
theorem dX8_init_30 : decode cX8_init 30 = .ok (.dup, 1) := by decide +kernel
theorem dX8_init_31 : decode cX8_init 31 = .ok (.invokespecial 25, 3) := by decide +kernel
theorem dX8_init_34 : decode cX8_init 34 = .ok (.putfield 26, 3) := by decide +kernel
theorem dX8_init_37 : decode cX8_init 37 = .ok (.aload_n 0, 1) := by decide +kernel
theorem dX8_init_38 : decode cX8_init 38 = .ok (.new 30, 3) := by decide +kernel
theorem dX8_init_41 : decode cX8_init 41 = .ok (.dup, 1) := by decide +kernel
theorem dX8_init_42 : decode cX8_init 42 = .ok (.invokespecial 32, 3) := by decide +kernel
theorem dX8_init_45 : decode cX8_init 45 = .ok (.putfield 33, 3) := by decide +kernel
theorem dX8_init_48 : decode cX8_init 48 = .ok (.aload_n 0, 1) := by decide +kernel
theorem dX8_init_49 : decode cX8_init 49 = .ok (.new 37, 3) := by decide +kernel
theorem dX8_init_52 : decode cX8_init 52 = .ok (.dup, 1) := by decide +kernel
theorem dX8_init_53 : decode cX8_init 53 = .ok (.aload_n 0, 1) := by decide +kernel
theorem dX8_init_54 : decode cX8_init 54 = .ok (.getfield 33, 3) := by decide +kernel
theorem dX8_init_57 : decode cX8_init 57 = .ok (.invokespecial 39, 3) := by decide +kernel
theorem dX8_init_60 : decode cX8_init 60 = .ok (.putfield 42, 3) := by decide +kernel
theorem dX8_init_63 : decode cX8_init 63 = .ok (.aload_n 0, 1) := by decide +kernel
theorem dX8_init_64 : decode cX8_init 64 = .ok (.new 37, 3) := by decide +kernel
theorem dX8_init_67 : decode cX8_init 67 = .ok (.dup, 1) := by decide +kernel
theorem dX8_init_68 : decode cX8_init 68 = .ok (.aload_n 0, 1) := by decide +kernel
theorem dX8_init_69 : decode cX8_init 69 = .ok (.getfield 33, 3) := by decide +kernel
theorem dX8_init_72 : decode cX8_init 72 = .ok (.invokespecial 39, 3) := by decide +kernel
theorem dX8_init_75 : decode cX8_init 75 = .ok (.putfield 46, 3) := by decide +kernel
theorem dX8_init_78 : decode cX8_init 78 = .ok (.aload_n 0, 1) := by decide +kernel
theorem dX8_init_79 : decode cX8_init 79 = .ok (.new 49, 3) := by decide +kernel
theorem dX8_init_82 : decode cX8_init 82 = .ok (.dup, 1) := by decide +kernel
theorem dX8_init_83 : decode cX8_init 83 = .ok (.aload_n 0, 1) := by decide +kernel
theorem dX8_init_84 : decode cX8_init 84 = .ok (.getfield 19, 3) := by decide +kernel
theorem dX8_init_87 : decode cX8_init 87 = .ok (.aload_n 0, 1) := by decide +kernel
theorem dX8_init_88 : decode cX8_init 88 = .ok (.getfield 33, 3) := by decide +kernel
theorem dX8_init_91 : decode cX8_init 91 = .ok (.invokespecial 51, 3) := by decide +kernel
theorem dX8_init_94 : decode cX8_init 94 = .ok (.putfield 54, 3) := by decide +kernel
theorem dX8_init_97 : decode cX8_init 97 = .ok (.return_, 1) := by decide +kernel
set_option maxRecDepth 20000 in
theorem ggX8_type_X6_size : GoodIn wsX8_type wsX6_size := goodIn_r _ [6, 7, 26, 27] (by decide +kernel) (by decide +kernel)
set_option maxRecDepth 20000 in
theorem gX8_type_X6_size : GoodIn wsX8_type (wsV RX8 58 RX6 yX6_size wsX6_size) := goodIn_app (goodIn_of _ (by decide +kernel)) ggX8_type_X6_size
set_option maxRecDepth 20000 in
theorem ggX8_type_X6_append : GoodIn wsX8_type wsX6_append := goodIn_r _ [11, 7, 12, 13, 14, 15, 16, 17, 18, 26, 27, 28] (by decide +kernel) (by decide +kernel)
set_option maxRecDepth 20000 in
theorem gX8_type_X6_append : GoodIn wsX8_type (wsV RX8 62 RX6 yX6_append wsX6_append) := goodIn_app (goodIn_of _ (by decide +kernel)) ggX8_type_X6_append
theorem dX8_type_0 : decode cX8_type 0 = .ok (.iload_n 1, 1) := by decide +kernel
theorem dX8_type_1 : decode cX8_type 1 = .ok (.bipush 32, 2) := by decide +kernel
theorem dX8_type_3 : decode cX8_type 3 = .ok (.if_icmp .lt 9, 3) := by decide +kernel
theorem dX8_type_6 : decode cX8_type 6 = .ok (.iload_n 1, 1) := by decide +kernel
theorem dX8_type_7 : decode cX8_type 7 = .ok (.bipush 126, 2) := by decide +kernel
theorem dX8_type_9 : decode cX8_type 9 = .ok (.if_icmp .le 6, 3) := by decide +kernel
theorem dX8_type_12 : decode cX8_type 12 = .ok (.bipush (-11), 2) := by decide +kernel
theorem dX8_type_14 : decode cX8_type 14 = .ok (.ireturn, 1) := by decide +kernel
theorem dX8_type_15 : decode cX8_type 15 = .ok (.aload_n 0, 1) := by decide +kernel
theorem dX8_type_16 : decode cX8_type 16 = .ok (.getfield 12, 3) := by decide +kernel
theorem dX8_type_19 : decode cX8_type 19 = .ok (.invokevirtual 58, 3) := by decide +kernel
theorem dX8_type_22 : decode cX8_type 22 = .ok (.sipush 200, 3) := by decide +kernel
theorem dX8_type_25 : decode cX8_type 25 = .ok (.if_icmp .lt 6, 3) := by decide +kernel
theorem dX8_type_28 : decode cX8_type 28 = .ok (.bipush (-13), 2) := by decide +kernel
theorem dX8_type_30 : decode cX8_type 30 = .ok (.ireturn, 1) := by decide +kernel
theorem dX8_type_31 : decode cX8_type 31 = .ok (.aload_n 0, 1) := by decide +kernel
theorem dX8_type_32 : decode cX8_type 32 = .ok (.getfield 12, 3) := by decide +kernel
theorem dX8_type_35 : decode cX8_type 35 = .ok (.iload_n 1, 1) := by decide +kernel
theorem dX8_type_36 : decode cX8_type 36 = .ok (.invokevirtual 62, 3) := by decide +kernel
theorem dX8_type_39 : decode cX8_type 39 = .ok (.aload_n 0, 1) := by decide +kernel
theorem dX8_type_40 : decode cX8_type 40 = .ok (.getfield 12, 3) := by decide +kernel
theorem dX8_type_43 : decode cX8_type 43 = .ok (.invokevirtual 58, 3) := by decide +kernel
theorem dX8_type_46 : decode cX8_type 46 = .ok (.ireturn, 1) := by decide +kernel
set_option maxRecDepth 20000 in
theorem ggX8_clearText_X6_size : GoodIn wsX8_clearText wsX6_size := goodIn_r _ [6, 7, 19, 20] (by decide +kernel) (by decide +kernel)
set_option maxRecDepth 20000 in
theorem gX8_clearText_X6_size : GoodIn wsX8_clearText (wsV RX8 58 RX6 yX6_size wsX6_size) := goodIn_app (goodIn_of _ (by decide +kernel)) ggX8_clearText_X6_size
set_option maxRecDepth 20000 in
theorem ggX8_clearText_X6_empty : GoodIn wsX8_clearText wsX6_empty := goodIn_r _ [11, 7, 19, 20] (by decide +kernel) (by decide +kernel)
set_option maxRecDepth 20000 in
theorem gX8_clearText_X6_empty : GoodIn wsX8_clearText (wsV RX8 66 RX6 yX6_empty wsX6_empty) := goodIn_app (goodIn_of _ (by decide +kernel)) ggX8_clearText_X6_empty
theorem dX8_clearText_0 : decode cX8_clearText 0 = .ok (.aload_n 0, 1) := by decide +kernel
theorem dX8_clearText_1 : decode cX8_clearText 1 = .ok (.getfield 12, 3) := by decide +kernel
theorem dX8_clearText_4 : decode cX8_clearText 4 = .ok (.invokevirtual 58, 3) := by decide +kernel
theorem dX8_clearText_7 : decode cX8_clearText 7 = .ok (.istore_n 1, 1) := by decide +kernel
theorem dX8_clearText_8 : decode cX8_clearText 8 = .ok (.aload_n 0, 1) := by decide +kernel
theorem dX8_clearText_9 : decode cX8_clearText 9 = .ok (.getfield 12, 3) := by decide +kernel
theorem dX8_clearText_12 : decode cX8_clearText 12 = .ok (.invokevirtual 66, 3) := by decide +kernel
theorem dX8_clearText_15 : decode cX8_clearText 15 = .ok (.iload_n 1, 1) := by decide +kernel
theorem dX8_clearText_16 : decode cX8_clearText 16 = .ok (.ireturn, 1) := by decide +kernel
set_option maxRecDepth 20000 in
theorem ggX8_page_X6_faultIndex : GoodIn wsX8_page wsX6_faultIndex := goodIn_r _ [8, 9, 10, 11, 12, 7, 13, 14, 15, 16, 17, 18, 19, 20, 21, 22, 23, 24, 25, 26, 27, 28, 29, 30, 31, 261, 262, 263] (by decide +kernel) (by decide +kernel)
set_option maxRecDepth 20000 in
theorem gX8_page_X6_faultIndex : GoodIn wsX8_page (wsV RX8 69 RX6 yX6_faultIndex wsX6_faultIndex) := goodIn_app (goodIn_of _ (by decide +kernel)) ggX8_page_X6_faultIndex
set_option maxRecDepth 20000 in
theorem ggX8_page_X2_keep : GoodIn wsX8_page wsX2_keep := goodIn_r _ [36, 37, 38, 39, 40, 41, 35, 42, 43, 44, 45, 46, 47, 48, 49, 50, 51, 52, 53, 54, 55, 56, 57, 58, 59, 60, 61, 62, 63, 64, 65, 66, 67, 68, 69, 70, 71, 72, 18, 73, 20, 74, 75, 76, 77, 78, 79, 264, 265, 256, 257, 258, 259, 260, 266, 267, 268, 269, 270, 263] (by decide +kernel) (by decide +kernel)
set_option maxRecDepth 20000 in
theorem gX8_page_X2_keep : GoodIn wsX8_page (wsV RX8 76 RX2 yX2_keep wsX2_keep) := goodIn_app (goodIn_of _ (by decide +kernel)) ggX8_page_X2_keep
set_option maxRecDepth 20000 in
theorem ggX8_page_X7_empty : GoodIn wsX8_page wsX7_empty := goodIn_r _ [83, 65, 266, 267, 268, 269, 270] (by decide +kernel) (by decide +kernel)
set_option maxRecDepth 20000 in
theorem gX8_page_X7_empty : GoodIn wsX8_page (wsV RX8 84 RX7 yX7_empty wsX7_empty) := goodIn_app (goodIn_of _ (by decide +kernel)) ggX8_page_X7_empty
set_option maxRecDepth 20000 in
theorem ggX8_page_X7_addWordsOf : GoodIn wsX8_page wsX7_addWordsOf := goodIn_r _ [87, 88, 89, 90, 7, 91, 9, 92, 93, 94, 95, 14, 15, 16, 17, 18, 19, 20, 25, 26, 27, 96, 97, 98, 60, 99, 65, 64, 63, 100, 101, 102, 103, 104, 105, 106, 107, 108, 62, 109, 110, 111, 112, 113, 261, 262, 263, 266, 267, 268, 269, 270] (by decide +kernel) (by decide +kernel)
set_option maxRecDepth 20000 in
theorem gX8_page_X7_addWordsOf : GoodIn wsX8_page (wsV RX8 87 RX7 yX7_addWordsOf wsX7_addWordsOf) := goodIn_app (goodIn_of _ (by decide +kernel)) ggX8_page_X7_addWordsOf
