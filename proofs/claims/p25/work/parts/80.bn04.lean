theorem dX6_append_10 : decode cX6_append 10 = .ok (.aload_n 0, 1) := by decide +kernel
theorem dX6_append_11 : decode cX6_append 11 = .ok (.getfield 14, 3) := by decide +kernel
theorem dX6_append_14 : decode cX6_append 14 = .ok (.aload_n 0, 1) := by decide +kernel
theorem dX6_append_15 : decode cX6_append 15 = .ok (.getfield 20, 3) := by decide +kernel
theorem dX6_append_18 : decode cX6_append 18 = .ok (.iload_n 1, 1) := by decide +kernel
theorem dX6_append_19 : decode cX6_append 19 = .ok (.invokevirtual 28, 3) := by decide +kernel
theorem dX6_append_22 : decode cX6_append 22 = .ok (.aload_n 0, 1) := by decide +kernel
theorem dX6_append_23 : decode cX6_append 23 = .ok (.dup, 1) := by decide +kernel
theorem dX6_append_24 : decode cX6_append 24 = .ok (.getfield 20, 3) := by decide +kernel
theorem dX6_append_27 : decode cX6_append 27 = .ok (.iconst 1, 1) := by decide +kernel
theorem dX6_append_28 : decode cX6_append 28 = .ok (.iadd, 1) := by decide +kernel
theorem dX6_append_29 : decode cX6_append 29 = .ok (.putfield 20, 3) := by decide +kernel
theorem dX6_append_32 : decode cX6_append 32 = .ok (.return_, 1) := by decide +kernel
theorem dX6_empty_0 : decode cX6_empty 0 = .ok (.aload_n 0, 1) := by decide +kernel
theorem dX6_empty_1 : decode cX6_empty 1 = .ok (.iconst 0, 1) := by decide +kernel
theorem dX6_empty_2 : decode cX6_empty 2 = .ok (.putfield 20, 3) := by decide +kernel
theorem dX6_empty_5 : decode cX6_empty 5 = .ok (.return_, 1) := by decide +kernel
set_option maxRecDepth 20000 in
theorem ggX6_isOneWord_X3_at : GoodIn wsX6_isOneWord wsX3_at := goodIn_r _ [7, 8, 14] (by decide +kernel) (by decide +kernel)
set_option maxRecDepth 20000 in
theorem gX6_isOneWord_X3_at : GoodIn wsX6_isOneWord (wsV RX6 24 RX3 yX3_at wsX3_at) := goodIn_app (goodIn_of _ (by decide +kernel)) ggX6_isOneWord_X3_at
set_option maxRecDepth 20000 in
theorem ggX6_isOneWord_X8_isLetter : GoodIn wsX6_isOneWord wsX8_isLetter := goodIn_r _ [11] (by decide +kernel) (by decide +kernel)
set_option maxRecDepth 20000 in
theorem gX6_isOneWord_X8_isLetter_n32 : GoodIn wsX6_isOneWord (wsX8_isLetter) := ggX6_isOneWord_X8_isLetter
theorem dX6_isOneWord_0 : decode cX6_isOneWord 0 = .ok (.aload_n 0, 1) := by decide +kernel
theorem dX6_isOneWord_1 : decode cX6_isOneWord 1 = .ok (.getfield 20, 3) := by decide +kernel
theorem dX6_isOneWord_4 : decode cX6_isOneWord 4 = .ok (.iconst 1, 1) := by decide +kernel
theorem dX6_isOneWord_5 : decode cX6_isOneWord 5 = .ok (.if_icmp .lt 11, 3) := by decide +kernel
theorem dX6_isOneWord_8 : decode cX6_isOneWord 8 = .ok (.aload_n 0, 1) := by decide +kernel
theorem dX6_isOneWord_9 : decode cX6_isOneWord 9 = .ok (.getfield 20, 3) := by decide +kernel
theorem dX6_isOneWord_12 : decode cX6_isOneWord 12 = .ok (.iload_n 1, 1) := by decide +kernel
theorem dX6_isOneWord_13 : decode cX6_isOneWord 13 = .ok (.if_icmp .le 5, 3) := by decide +kernel
theorem dX6_isOneWord_16 : decode cX6_isOneWord 16 = .ok (.iconst 0, 1) := by decide +kernel
theorem dX6_isOneWord_17 : decode cX6_isOneWord 17 = .ok (.ireturn, 1) := by decide +kernel
theorem dX6_isOneWord_18 : decode cX6_isOneWord 18 = .ok (.iconst 0, 1) := by decide +kernel
theorem dX6_isOneWord_19 : decode cX6_isOneWord 19 = .ok (.istore_n 2, 1) := by decide +kernel
theorem dX6_isOneWord_20 : decode cX6_isOneWord 20 = .ok (.iload_n 2, 1) := by decide +kernel
theorem dX6_isOneWord_21 : decode cX6_isOneWord 21 = .ok (.aload_n 0, 1) := by decide +kernel
theorem dX6_isOneWord_22 : decode cX6_isOneWord 22 = .ok (.getfield 20, 3) := by decide +kernel
theorem dX6_isOneWord_25 : decode cX6_isOneWord 25 = .ok (.if_icmp .ge 25, 3) := by decide +kernel
theorem dX6_isOneWord_28 : decode cX6_isOneWord 28 = .ok (.aload_n 0, 1) := by decide +kernel
theorem dX6_isOneWord_29 : decode cX6_isOneWord 29 = .ok (.getfield 14, 3) := by decide +kernel
theorem dX6_isOneWord_32 : decode cX6_isOneWord 32 = .ok (.iload_n 2, 1) := by decide +kernel
theorem dX6_isOneWord_33 : decode cX6_isOneWord 33 = .ok (.invokevirtual 24, 3) := by decide +kernel
theorem dX6_isOneWord_36 : decode cX6_isOneWord 36 = .ok (.invokestatic 32, 3) := by decide +kernel
theorem dX6_isOneWord_39 : decode cX6_isOneWord 39 = .ok (.ifCond .ne 5, 3) := by decide +kernel
theorem dX6_isOneWord_42 : decode cX6_isOneWord 42 = .ok (.iconst 0, 1) := by decide +kernel
theorem dX6_isOneWord_43 : decode cX6_isOneWord 43 = .ok (.ireturn, 1) := by decide +kernel
theorem dX6_isOneWord_44 : decode cX6_isOneWord 44 = .ok (.iinc 2 1, 3) := by decide +kernel
theorem dX6_isOneWord_47 : decode cX6_isOneWord 47 = .ok (.goto (-27), 3) := by decide +kernel
theorem dX6_isOneWord_50 : decode cX6_isOneWord 50 = .ok (.iconst 1, 1) := by decide +kernel
theorem dX6_isOneWord_51 : decode cX6_isOneWord 51 = .ok (.ireturn, 1) := by decide +kernel
set_option maxRecDepth 20000 in
theorem ggX6_faultIndex_X6_faultReason : GoodIn wsX6_faultIndex wsX6_faultReason := goodIn_r _ [6, 7, 1, 8, 9, 10, 11, 12, 13, 14, 15, 16, 5, 17, 18, 19, 20, 21, 22, 23, 24, 25, 26, 27] (by decide +kernel) (by decide +kernel)
set_option maxRecDepth 20000 in
theorem gX6_faultIndex_X6_faultReason : GoodIn wsX6_faultIndex (wsV RX6 36 RX6 yX6_faultReason wsX6_faultReason) := goodIn_app (goodIn_of _ (by decide +kernel)) ggX6_faultIndex_X6_faultReason
theorem dX6_faultIndex_0 : decode cX6_faultIndex 0 = .ok (.iconst 0, 1) := by decide +kernel
theorem dX6_faultIndex_1 : decode cX6_faultIndex 1 = .ok (.istore_n 1, 1) := by decide +kernel
theorem dX6_faultIndex_2 : decode cX6_faultIndex 2 = .ok (.iload_n 1, 1) := by decide +kernel
theorem dX6_faultIndex_3 : decode cX6_faultIndex 3 = .ok (.aload_n 0, 1) := by decide +kernel
theorem dX6_faultIndex_4 : decode cX6_faultIndex 4 = .ok (.getfield 20, 3) := by decide +kernel
theorem dX6_faultIndex_7 : decode cX6_faultIndex 7 = .ok (.if_icmp .ge 19, 3) := by decide +kernel
theorem dX6_faultIndex_10 : decode cX6_faultIndex 10 = .ok (.aload_n 0, 1) := by decide +kernel
theorem dX6_faultIndex_11 : decode cX6_faultIndex 11 = .ok (.iload_n 1, 1) := by decide +kernel
theorem dX6_faultIndex_12 : decode cX6_faultIndex 12 = .ok (.invokevirtual 36, 3) := by decide +kernel
theorem dX6_faultIndex_15 : decode cX6_faultIndex 15 = .ok (.ifCond .eq 5, 3) := by decide +kernel
theorem dX6_faultIndex_18 : decode cX6_faultIndex 18 = .ok (.iload_n 1, 1) := by decide +kernel
theorem dX6_faultIndex_19 : decode cX6_faultIndex 19 = .ok (.ireturn, 1) := by decide +kernel
theorem dX6_faultIndex_20 : decode cX6_faultIndex 20 = .ok (.iinc 1 1, 3) := by decide +kernel
theorem dX6_faultIndex_23 : decode cX6_faultIndex 23 = .ok (.goto (-21), 3) := by decide +kernel
theorem dX6_faultIndex_26 : decode cX6_faultIndex 26 = .ok (.iconst (-1), 1) := by decide +kernel
theorem dX6_faultIndex_27 : decode cX6_faultIndex 27 = .ok (.ireturn, 1) := by decide +kernel
set_option maxRecDepth 20000 in
theorem ggX6_faultReason_X3_at : GoodIn wsX6_faultReason wsX3_at := goodIn_r _ [7, 8, 23] (by decide +kernel) (by decide +kernel)
set_option maxRecDepth 20000 in
theorem gX6_faultReason_X3_at : GoodIn wsX6_faultReason (wsV RX6 24 RX3 yX3_at wsX3_at) := goodIn_app (goodIn_of _ (by decide +kernel)) ggX6_faultReason_X3_at
set_option maxRecDepth 20000 in
theorem ggX6_faultReason_X6_lettersAhead : GoodIn wsX6_faultReason wsX6_lettersAhead := goodIn_r _ [13, 1, 3, 4, 5, 6, 7, 8, 14, 15, 16, 21, 22, 23] (by decide +kernel) (by decide +kernel)
set_option maxRecDepth 20000 in
theorem gX6_faultReason_X6_lettersAhead : GoodIn wsX6_faultReason (wsV RX6 39 RX6 yX6_lettersAhead wsX6_lettersAhead) := goodIn_app (goodIn_of _ (by decide +kernel)) ggX6_faultReason_X6_lettersAhead
set_option maxRecDepth 20000 in
theorem ggX6_faultReason_X8_isLetter : GoodIn wsX6_faultReason wsX8_isLetter := goodIn_r _ [16] (by decide +kernel) (by decide +kernel)
set_option maxRecDepth 20000 in
theorem gX6_faultReason_X8_isLetter_n32 : GoodIn wsX6_faultReason (wsX8_isLetter) := ggX6_faultReason_X8_isLetter
set_option maxRecDepth 20000 in
theorem ggX6_faultReason_X6_wordsAhead : GoodIn wsX6_faultReason wsX6_wordsAhead := goodIn_r _ [20, 1, 3, 4, 5, 6, 7, 8, 14, 15, 16, 21, 22, 23] (by decide +kernel) (by decide +kernel)
set_option maxRecDepth 20000 in
theorem gX6_faultReason_X6_wordsAhead : GoodIn wsX6_faultReason (wsV RX6 42 RX6 yX6_wordsAhead wsX6_wordsAhead) := goodIn_app (goodIn_of _ (by decide +kernel)) ggX6_faultReason_X6_wordsAhead
theorem dX6_faultReason_0 : decode cX6_faultReason 0 = .ok (.aload_n 0, 1) := by decide +kernel
theorem dX6_faultReason_1 : decode cX6_faultReason 1 = .ok (.getfield 14, 3) := by decide +kernel
theorem dX6_faultReason_4 : decode cX6_faultReason 4 = .ok (.iload_n 1, 1) := by decide +kernel
theorem dX6_faultReason_5 : decode cX6_faultReason 5 = .ok (.invokevirtual 24, 3) := by decide +kernel
theorem dX6_faultReason_8 : decode cX6_faultReason 8 = .ok (.istore_n 2, 1) := by decide +kernel
theorem dX6_faultReason_9 : decode cX6_faultReason 9 = .ok (.iload_n 2, 1) := by decide +kernel
theorem dX6_faultReason_10 : decode cX6_faultReason 10 = .ok (.bipush 32, 2) := by decide +kernel
theorem dX6_faultReason_12 : decode cX6_faultReason 12 = .ok (.if_icmp .ne 37, 3) := by decide +kernel
theorem dX6_faultReason_15 : decode cX6_faultReason 15 = .ok (.aload_n 0, 1) := by decide +kernel
theorem dX6_faultReason_16 : decode cX6_faultReason 16 = .ok (.iload_n 1, 1) := by decide +kernel
theorem dX6_faultReason_17 : decode cX6_faultReason 17 = .ok (.invokevirtual 39, 3) := by decide +kernel
theorem dX6_faultReason_20 : decode cX6_faultReason 20 = .ok (.ifCond .le 7, 3) := by decide +kernel
theorem dX6_faultReason_23 : decode cX6_faultReason 23 = .ok (.iconst 1, 1) := by decide +kernel
theorem dX6_faultReason_24 : decode cX6_faultReason 24 = .ok (.goto 4, 3) := by decide +kernel
theorem dX6_faultReason_27 : decode cX6_faultReason 27 = .ok (.iconst 0, 1) := by decide +kernel
theorem dX6_faultReason_28 : decode cX6_faultReason 28 = .ok (.istore_n 3, 1) := by decide +kernel
theorem dX6_faultReason_29 : decode cX6_faultReason 29 = .ok (.iload_n 3, 1) := by decide +kernel
theorem dX6_faultReason_30 : decode cX6_faultReason 30 = .ok (.ifCond .eq 17, 3) := by decide +kernel
theorem dX6_faultReason_33 : decode cX6_faultReason 33 = .ok (.iload_n 1, 1) := by decide +kernel
theorem dX6_faultReason_34 : decode cX6_faultReason 34 = .ok (.aload_n 0, 1) := by decide +kernel
theorem dX6_faultReason_35 : decode cX6_faultReason 35 = .ok (.getfield 20, 3) := by decide +kernel
theorem dX6_faultReason_38 : decode cX6_faultReason 38 = .ok (.iconst 1, 1) := by decide +kernel
theorem dX6_faultReason_39 : decode cX6_faultReason 39 = .ok (.isub, 1) := by decide +kernel
theorem dX6_faultReason_40 : decode cX6_faultReason 40 = .ok (.if_icmp .ge 7, 3) := by decide +kernel
theorem dX6_faultReason_43 : decode cX6_faultReason 43 = .ok (.iconst 0, 1) := by decide +kernel
theorem dX6_faultReason_44 : decode cX6_faultReason 44 = .ok (.goto 4, 3) := by decide +kernel
theorem dX6_faultReason_47 : decode cX6_faultReason 47 = .ok (.iconst 2, 1) := by decide +kernel
theorem dX6_faultReason_48 : decode cX6_faultReason 48 = .ok (.ireturn, 1) := by decide +kernel
theorem dX6_faultReason_49 : decode cX6_faultReason 49 = .ok (.iload_n 2, 1) := by decide +kernel
theorem dX6_faultReason_50 : decode cX6_faultReason 50 = .ok (.invokestatic 32, 3) := by decide +kernel
theorem dX6_faultReason_53 : decode cX6_faultReason 53 = .ok (.ifCond .ne 5, 3) := by decide +kernel
theorem dX6_faultReason_56 : decode cX6_faultReason 56 = .ok (.iconst 1, 1) := by decide +kernel
theorem dX6_faultReason_57 : decode cX6_faultReason 57 = .ok (.ireturn, 1) := by decide +kernel
theorem dX6_faultReason_58 : decode cX6_faultReason 58 = .ok (.aload_n 0, 1) := by decide +kernel
theorem dX6_faultReason_59 : decode cX6_faultReason 59 = .ok (.iload_n 1, 1) := by decide +kernel
theorem dX6_faultReason_60 : decode cX6_faultReason 60 = .ok (.invokevirtual 39, 3) := by decide +kernel
theorem dX6_faultReason_63 : decode cX6_faultReason 63 = .ok (.istore_n 3, 1) := by decide +kernel
theorem dX6_faultReason_64 : decode cX6_faultReason 64 = .ok (.iload_n 3, 1) := by decide +kernel
theorem dX6_faultReason_65 : decode cX6_faultReason 65 = .ok (.bipush 12, 2) := by decide +kernel
theorem dX6_faultReason_67 : decode cX6_faultReason 67 = .ok (.if_icmp .lt 5, 3) := by decide +kernel
theorem dX6_faultReason_70 : decode cX6_faultReason 70 = .ok (.iconst 3, 1) := by decide +kernel
theorem dX6_faultReason_71 : decode cX6_faultReason 71 = .ok (.ireturn, 1) := by decide +kernel
theorem dX6_faultReason_72 : decode cX6_faultReason 72 = .ok (.iload_n 3, 1) := by decide +kernel
theorem dX6_faultReason_73 : decode cX6_faultReason 73 = .ok (.ifCond .ne 17, 3) := by decide +kernel
theorem dX6_faultReason_76 : decode cX6_faultReason 76 = .ok (.aload_n 0, 1) := by decide +kernel
theorem dX6_faultReason_77 : decode cX6_faultReason 77 = .ok (.iload_n 1, 1) := by decide +kernel
theorem dX6_faultReason_78 : decode cX6_faultReason 78 = .ok (.invokevirtual 42, 3) := by decide +kernel
theorem dX6_faultReason_81 : decode cX6_faultReason 81 = .ok (.bipush 40, 2) := by decide +kernel
theorem dX6_faultReason_83 : decode cX6_faultReason 83 = .ok (.if_icmp .lt 7, 3) := by decide +kernel
theorem dX6_faultReason_86 : decode cX6_faultReason 86 = .ok (.iconst 4, 1) := by decide +kernel
theorem dX6_faultReason_87 : decode cX6_faultReason 87 = .ok (.goto 4, 3) := by decide +kernel
theorem dX6_faultReason_90 : decode cX6_faultReason 90 = .ok (.iconst 0, 1) := by decide +kernel
theorem dX6_faultReason_91 : decode cX6_faultReason 91 = .ok (.ireturn, 1) := by decide +kernel
set_option maxRecDepth 20000 in
theorem ggX6_lettersAhead_X3_at : GoodIn wsX6_lettersAhead wsX3_at := goodIn_r _ [6, 7, 13] (by decide +kernel) (by decide +kernel)
set_option maxRecDepth 20000 in
theorem gX6_lettersAhead_X3_at : GoodIn wsX6_lettersAhead (wsV RX6 24 RX3 yX3_at wsX3_at) := goodIn_app (goodIn_of _ (by decide +kernel)) ggX6_lettersAhead_X3_at
set_option maxRecDepth 20000 in
theorem ggX6_lettersAhead_X8_isLetter : GoodIn wsX6_lettersAhead wsX8_isLetter := goodIn_r _ [10] (by decide +kernel) (by decide +kernel)
set_option maxRecDepth 20000 in
theorem gX6_lettersAhead_X8_isLetter_n32 : GoodIn wsX6_lettersAhead (wsX8_isLetter) := ggX6_lettersAhead_X8_isLetter
theorem dX6_lettersAhead_0 : decode cX6_lettersAhead 0 = .ok (.iconst 0, 1) := by decide +kernel
theorem dX6_lettersAhead_1 : decode cX6_lettersAhead 1 = .ok (.istore_n 2, 1) := by decide +kernel
theorem dX6_lettersAhead_2 : decode cX6_lettersAhead 2 = .ok (.iload_n 2, 1) := by decide +kernel
theorem dX6_lettersAhead_3 : decode cX6_lettersAhead 3 = .ok (.bipush 12, 2) := by decide +kernel
theorem dX6_lettersAhead_5 : decode cX6_lettersAhead 5 = .ok (.if_icmp .ge 27, 3) := by decide +kernel
theorem dX6_lettersAhead_8 : decode cX6_lettersAhead 8 = .ok (.aload_n 0, 1) := by decide +kernel
theorem dX6_lettersAhead_9 : decode cX6_lettersAhead 9 = .ok (.getfield 14, 3) := by decide +kernel
theorem dX6_lettersAhead_12 : decode cX6_lettersAhead 12 = .ok (.iload_n 1, 1) := by decide +kernel
theorem dX6_lettersAhead_13 : decode cX6_lettersAhead 13 = .ok (.iconst 1, 1) := by decide +kernel
theorem dX6_lettersAhead_14 : decode cX6_lettersAhead 14 = .ok (.isub, 1) := by decide +kernel
theorem dX6_lettersAhead_15 : decode cX6_lettersAhead 15 = .ok (.iload_n 2, 1) := by decide +kernel
theorem dX6_lettersAhead_16 : decode cX6_lettersAhead 16 = .ok (.isub, 1) := by decide +kernel
theorem dX6_lettersAhead_17 : decode cX6_lettersAhead 17 = .ok (.invokevirtual 24, 3) := by decide +kernel
theorem dX6_lettersAhead_20 : decode cX6_lettersAhead 20 = .ok (.invokestatic 32, 3) := by decide +kernel
theorem dX6_lettersAhead_23 : decode cX6_lettersAhead 23 = .ok (.ifCond .eq 9, 3) := by decide +kernel
theorem dX6_lettersAhead_26 : decode cX6_lettersAhead 26 = .ok (.iinc 2 1, 3) := by decide +kernel
theorem dX6_lettersAhead_29 : decode cX6_lettersAhead 29 = .ok (.goto (-27), 3) := by decide +kernel
theorem dX6_lettersAhead_32 : decode cX6_lettersAhead 32 = .ok (.iload_n 2, 1) := by decide +kernel
theorem dX6_lettersAhead_33 : decode cX6_lettersAhead 33 = .ok (.ireturn, 1) := by decide +kernel
set_option maxRecDepth 20000 in
theorem ggX6_wordsAhead_X3_at : GoodIn wsX6_wordsAhead wsX3_at := goodIn_r _ [6, 7, 13] (by decide +kernel) (by decide +kernel)
set_option maxRecDepth 20000 in
theorem gX6_wordsAhead_X3_at : GoodIn wsX6_wordsAhead (wsV RX6 24 RX3 yX3_at wsX3_at) := goodIn_app (goodIn_of _ (by decide +kernel)) ggX6_wordsAhead_X3_at
set_option maxRecDepth 20000 in
theorem ggX6_wordsAhead_X8_isLetter : GoodIn wsX6_wordsAhead wsX8_isLetter := goodIn_r _ [10] (by decide +kernel) (by decide +kernel)
set_option maxRecDepth 20000 in
theorem gX6_wordsAhead_X8_isLetter_n32 : GoodIn wsX6_wordsAhead (wsX8_isLetter) := ggX6_wordsAhead_X8_isLetter
theorem dX6_wordsAhead_0 : decode cX6_wordsAhead 0 = .ok (.iconst 0, 1) := by decide +kernel
theorem dX6_wordsAhead_1 : decode cX6_wordsAhead 1 = .ok (.istore_n 2, 1) := by decide +kernel
theorem dX6_wordsAhead_2 : decode cX6_wordsAhead 2 = .ok (.iconst 0, 1) := by decide +kernel
theorem dX6_wordsAhead_3 : decode cX6_wordsAhead 3 = .ok (.istore_n 3, 1) := by decide +kernel
theorem dX6_wordsAhead_4 : decode cX6_wordsAhead 4 = .ok (.iload_n 3, 1) := by decide +kernel
theorem dX6_wordsAhead_5 : decode cX6_wordsAhead 5 = .ok (.iload_n 1, 1) := by decide +kernel
theorem dX6_wordsAhead_6 : decode cX6_wordsAhead 6 = .ok (.if_icmp .ge 42, 3) := by decide +kernel
theorem dX6_wordsAhead_9 : decode cX6_wordsAhead 9 = .ok (.aload_n 0, 1) := by decide +kernel
theorem dX6_wordsAhead_10 : decode cX6_wordsAhead 10 = .ok (.getfield 14, 3) := by decide +kernel
theorem dX6_wordsAhead_13 : decode cX6_wordsAhead 13 = .ok (.iload_n 3, 1) := by decide +kernel
theorem dX6_wordsAhead_14 : decode cX6_wordsAhead 14 = .ok (.invokevirtual 24, 3) := by decide +kernel
theorem dX6_wordsAhead_17 : decode cX6_wordsAhead 17 = .ok (.invokestatic 32, 3) := by decide +kernel
theorem dX6_wordsAhead_20 : decode cX6_wordsAhead 20 = .ok (.ifCond .eq 22, 3) := by decide +kernel
theorem dX6_wordsAhead_23 : decode cX6_wordsAhead 23 = .ok (.aload_n 0, 1) := by decide +kernel
theorem dX6_wordsAhead_24 : decode cX6_wordsAhead 24 = .ok (.getfield 14, 3) := by decide +kernel
theorem dX6_wordsAhead_27 : decode cX6_wordsAhead 27 = .ok (.iload_n 3, 1) := by decide +kernel
theorem dX6_wordsAhead_28 : decode cX6_wordsAhead 28 = .ok (.iconst 1, 1) := by decide +kernel
theorem dX6_wordsAhead_29 : decode cX6_wordsAhead 29 = .ok (.isub, 1) := by decide +kernel
theorem dX6_wordsAhead_30 : decode cX6_wordsAhead 30 = .ok (.invokevirtual 24, 3) := by decide +kernel
theorem dX6_wordsAhead_33 : decode cX6_wordsAhead 33 = .ok (.invokestatic 32, 3) := by decide +kernel
theorem dX6_wordsAhead_36 : decode cX6_wordsAhead 36 = .ok (.ifCond .ne 6, 3) := by decide +kernel
theorem dX6_wordsAhead_39 : decode cX6_wordsAhead 39 = .ok (.iinc 2 1, 3) := by decide +kernel
theorem dX6_wordsAhead_42 : decode cX6_wordsAhead 42 = .ok (.iinc 3 1, 3) := by decide +kernel
theorem dX6_wordsAhead_45 : decode cX6_wordsAhead 45 = .ok (.goto (-41), 3) := by decide +kernel
theorem dX6_wordsAhead_48 : decode cX6_wordsAhead 48 = .ok (.iload_n 2, 1) := by decide +kernel
theorem dX6_wordsAhead_49 : decode cX6_wordsAhead 49 = .ok (.ireturn, 1) := by decide +kernel
set_option maxRecDepth 20000 in
theorem ggX7_init_X3_init : GoodIn wsX7_init wsX3_init := goodIn_r _ [14, 15, 2, 3, 16, 17, 18, 19, 20, 21, 27] (by decide +kernel) (by decide +kernel)
set_option maxRecDepth 20000 in
theorem gX7_init_X3_init : GoodIn wsX7_init (wsX3_init) := ggX7_init_X3_init
theorem dX7_init_0 : decode cX7_init 0 = .ok (.aload_n 0, 1) := by decide +kernel
theorem dX7_init_1 : decode cX7_init 1 = .ok (.invokespecial 1, 3) := by decide +kernel
theorem dX7_init_4 : decode cX7_init 4 = .ok (.aload_n 0, 1) := by decide +kernel
theorem dX7_init_5 : decode cX7_init 5 = .ok (.iload_n 1, 1) := by decide +kernel
theorem dX7_init_6 : decode cX7_init 6 = .ok (.putfield 7, 3) := by decide +kernel
theorem dX7_init_9 : decode cX7_init 9 = .ok (.aload_n 0, 1) := by decide +kernel
theorem dX7_init_10 : decode cX7_init 10 = .ok (.iload_n 2, 1) := by decide +kernel
theorem dX7_init_11 : decode cX7_init 11 = .ok (.putfield 13, 3) := by decide +kernel
theorem dX7_init_14 : decode cX7_init 14 = .ok (.aload_n 0, 1) := by decide +kernel
theorem dX7_init_15 : decode cX7_init 15 = .ok (.new 16, 3) := by decide +kernel
theorem dX7_init_18 : decode cX7_init 18 = .ok (.dup, 1) := by decide +kernel
theorem dX7_init_19 : decode cX7_init 19 = .ok (.iload_n 1, 1) := by decide +kernel
theorem dX7_init_20 : decode cX7_init 20 = .ok (.iload_n 2, 1) := by decide +kernel
theorem dX7_init_21 : decode cX7_init 21 = .ok (.imul, 1) := by decide +kernel
theorem dX7_init_22 : decode cX7_init 22 = .ok (.invokespecial 18, 3) := by decide +kernel
theorem dX7_init_25 : decode cX7_init 25 = .ok (.putfield 21, 3) := by decide +kernel
theorem dX7_init_28 : decode cX7_init 28 = .ok (.aload_n 0, 1) := by decide +kernel
theorem dX7_init_29 : decode cX7_init 29 = .ok (.new 16, 3) := by decide +kernel
theorem dX7_init_32 : decode cX7_init 32 = .ok (.dup, 1) := by decide +kernel
theorem dX7_init_33 : decode cX7_init 33 = .ok (.iload_n 1, 1) := by decide +kernel
theorem dX7_init_34 : decode cX7_init 34 = .ok (.invokespecial 18, 3) := by decide +kernel
theorem dX7_init_37 : decode cX7_init 37 = .ok (.putfield 25, 3) := by decide +kernel
theorem dX7_init_40 : decode cX7_init 40 = .ok (.aload_n 0, 1) := by decide +kernel
theorem dX7_init_41 : decode cX7_init 41 = .ok (.iconst 0, 1) := by decide +kernel
theorem dX7_init_42 : decode cX7_init 42 = .ok (.putfield 28, 3) := by decide +kernel
theorem dX7_init_45 : decode cX7_init 45 = .ok (.return_, 1) := by decide +kernel
theorem dX7_size_0 : decode cX7_size 0 = .ok (.aload_n 0, 1) := by decide +kernel
theorem dX7_size_1 : decode cX7_size 1 = .ok (.getfield 28, 3) := by decide +kernel
theorem dX7_size_4 : decode cX7_size 4 = .ok (.ireturn, 1) := by decide +kernel
theorem dX7_has_0 : decode cX7_has 0 = .ok (.iload_n 1, 1) := by decide +kernel
theorem dX7_has_1 : decode cX7_has 1 = .ok (.ifCond .lt 15, 3) := by decide +kernel
theorem dX7_has_4 : decode cX7_has 4 = .ok (.iload_n 1, 1) := by decide +kernel
theorem dX7_has_5 : decode cX7_has 5 = .ok (.aload_n 0, 1) := by decide +kernel
theorem dX7_has_6 : decode cX7_has 6 = .ok (.getfield 28, 3) := by decide +kernel
theorem dX7_has_9 : decode cX7_has 9 = .ok (.if_icmp .ge 7, 3) := by decide +kernel
theorem dX7_has_12 : decode cX7_has 12 = .ok (.iconst 1, 1) := by decide +kernel
theorem dX7_has_13 : decode cX7_has 13 = .ok (.goto 4, 3) := by decide +kernel
theorem dX7_has_16 : decode cX7_has 16 = .ok (.iconst 0, 1) := by decide +kernel
theorem dX7_has_17 : decode cX7_has 17 = .ok (.ireturn, 1) := by decide +kernel
theorem dX7_isFull_0 : decode cX7_isFull 0 = .ok (.aload_n 0, 1) := by decide +kernel
theorem dX7_isFull_1 : decode cX7_isFull 1 = .ok (.getfield 28, 3) := by decide +kernel
theorem dX7_isFull_4 : decode cX7_isFull 4 = .ok (.aload_n 0, 1) := by decide +kernel
theorem dX7_isFull_5 : decode cX7_isFull 5 = .ok (.getfield 7, 3) := by decide +kernel
theorem dX7_isFull_8 : decode cX7_isFull 8 = .ok (.if_icmp .lt 7, 3) := by decide +kernel
theorem dX7_isFull_11 : decode cX7_isFull 11 = .ok (.iconst 1, 1) := by decide +kernel
theorem dX7_isFull_12 : decode cX7_isFull 12 = .ok (.goto 4, 3) := by decide +kernel
theorem dX7_isFull_15 : decode cX7_isFull 15 = .ok (.iconst 0, 1) := by decide +kernel
theorem dX7_isFull_16 : decode cX7_isFull 16 = .ok (.ireturn, 1) := by decide +kernel
theorem dX7_greatestLength_0 : decode cX7_greatestLength 0 = .ok (.aload_n 0, 1) := by decide +kernel
theorem dX7_greatestLength_1 : decode cX7_greatestLength 1 = .ok (.getfield 13, 3) := by decide +kernel
theorem dX7_greatestLength_4 : decode cX7_greatestLength 4 = .ok (.ireturn, 1) := by decide +kernel
set_option maxRecDepth 20000 in
theorem ggX7_lengthOf_X3_at : GoodIn wsX7_lengthOf wsX3_at := goodIn_r _ [6, 7, 13] (by decide +kernel) (by decide +kernel)
set_option maxRecDepth 20000 in
theorem gX7_lengthOf_X3_at : GoodIn wsX7_lengthOf (wsV RX7 31 RX3 yX3_at wsX3_at) := goodIn_app (goodIn_of _ (by decide +kernel)) ggX7_lengthOf_X3_at
theorem dX7_lengthOf_0 : decode cX7_lengthOf 0 = .ok (.aload_n 0, 1) := by decide +kernel
theorem dX7_lengthOf_1 : decode cX7_lengthOf 1 = .ok (.getfield 25, 3) := by decide +kernel
theorem dX7_lengthOf_4 : decode cX7_lengthOf 4 = .ok (.iload_n 1, 1) := by decide +kernel
theorem dX7_lengthOf_5 : decode cX7_lengthOf 5 = .ok (.invokevirtual 31, 3) := by decide +kernel
theorem dX7_lengthOf_8 : decode cX7_lengthOf 8 = .ok (.ireturn, 1) := by decide +kernel
set_option maxRecDepth 20000 in
theorem ggX7_letterOf_X3_at : GoodIn wsX7_letterOf wsX3_at := goodIn_r _ [7, 8, 14] (by decide +kernel) (by decide +kernel)
set_option maxRecDepth 20000 in
theorem gX7_letterOf_X3_at : GoodIn wsX7_letterOf (wsV RX7 31 RX3 yX3_at wsX3_at) := goodIn_app (goodIn_of _ (by decide +kernel)) ggX7_letterOf_X3_at
theorem dX7_letterOf_0 : decode cX7_letterOf 0 = .ok (.aload_n 0, 1) := by decide +kernel
theorem dX7_letterOf_1 : decode cX7_letterOf 1 = .ok (.getfield 21, 3) := by decide +kernel
theorem dX7_letterOf_4 : decode cX7_letterOf 4 = .ok (.iload_n 1, 1) := by decide +kernel
theorem dX7_letterOf_5 : decode cX7_letterOf 5 = .ok (.aload_n 0, 1) := by decide +kernel
theorem dX7_letterOf_6 : decode cX7_letterOf 6 = .ok (.getfield 13, 3) := by decide +kernel
theorem dX7_letterOf_9 : decode cX7_letterOf 9 = .ok (.imul, 1) := by decide +kernel
theorem dX7_letterOf_10 : decode cX7_letterOf 10 = .ok (.iload_n 2, 1) := by decide +kernel
theorem dX7_letterOf_11 : decode cX7_letterOf 11 = .ok (.iadd, 1) := by decide +kernel
theorem dX7_letterOf_12 : decode cX7_letterOf 12 = .ok (.invokevirtual 31, 3) := by decide +kernel
theorem dX7_letterOf_15 : decode cX7_letterOf 15 = .ok (.ireturn, 1) := by decide +kernel
set_option maxRecDepth 20000 in
theorem ggX7_widthOf_X3_at : GoodIn wsX7_widthOf wsX3_at := goodIn_r _ [8, 9, 15] (by decide +kernel) (by decide +kernel)
set_option maxRecDepth 20000 in
theorem gX7_widthOf_X3_at : GoodIn wsX7_widthOf (wsV RX7 31 RX3 yX3_at wsX3_at) := goodIn_app (goodIn_of _ (by decide +kernel)) ggX7_widthOf_X3_at
theorem dX7_widthOf_0 : decode cX7_widthOf 0 = .ok (.iload_n 1, 1) := by decide +kernel
theorem dX7_widthOf_1 : decode cX7_widthOf 1 = .ok (.aload_n 0, 1) := by decide +kernel
theorem dX7_widthOf_2 : decode cX7_widthOf 2 = .ok (.getfield 13, 3) := by decide +kernel
theorem dX7_widthOf_5 : decode cX7_widthOf 5 = .ok (.imul, 1) := by decide +kernel
theorem dX7_widthOf_6 : decode cX7_widthOf 6 = .ok (.istore_n 3, 1) := by decide +kernel
theorem dX7_widthOf_7 : decode cX7_widthOf 7 = .ok (.iload_n 3, 1) := by decide +kernel
theorem dX7_widthOf_8 : decode cX7_widthOf 8 = .ok (.aload_n 0, 1) := by decide +kernel
theorem dX7_widthOf_9 : decode cX7_widthOf 9 = .ok (.getfield 25, 3) := by decide +kernel
theorem dX7_widthOf_12 : decode cX7_widthOf 12 = .ok (.iload_n 1, 1) := by decide +kernel
theorem dX7_widthOf_13 : decode cX7_widthOf 13 = .ok (.invokevirtual 31, 3) := by decide +kernel
theorem dX7_widthOf_16 : decode cX7_widthOf 16 = .ok (.iadd, 1) := by decide +kernel
theorem dX7_widthOf_17 : decode cX7_widthOf 17 = .ok (.istore 4, 2) := by decide +kernel
theorem dX7_widthOf_19 : decode cX7_widthOf 19 = .ok (.iconst 0, 1) := by decide +kernel
theorem dX7_widthOf_20 : decode cX7_widthOf 20 = .ok (.istore 5, 2) := by decide +kernel
theorem dX7_widthOf_22 : decode cX7_widthOf 22 = .ok (.iload_n 3, 1) := by decide +kernel
theorem dX7_widthOf_23 : decode cX7_widthOf 23 = .ok (.istore 6, 2) := by decide +kernel
theorem dX7_widthOf_25 : decode cX7_widthOf 25 = .ok (.iload 6, 2) := by decide +kernel
theorem dX7_widthOf_27 : decode cX7_widthOf 27 = .ok (.iload 4, 2) := by decide +kernel
theorem dX7_widthOf_29 : decode cX7_widthOf 29 = .ok (.if_icmp .ge 30, 3) := by decide +kernel
theorem dX7_widthOf_32 : decode cX7_widthOf 32 = .ok (.iload 5, 2) := by decide +kernel
theorem dX7_widthOf_34 : decode cX7_widthOf 34 = .ok (.aload_n 2, 1) := by decide +kernel
theorem dX7_widthOf_35 : decode cX7_widthOf 35 = .ok (.aload_n 0, 1) := by decide +kernel
theorem dX7_widthOf_36 : decode cX7_widthOf 36 = .ok (.getfield 21, 3) := by decide +kernel
theorem dX7_widthOf_39 : decode cX7_widthOf 39 = .ok (.iload 6, 2) := by decide +kernel
theorem dX7_widthOf_41 : decode cX7_widthOf 41 = .ok (.invokevirtual 31, 3) := by decide +kernel
theorem dX7_widthOf_44 : decode cX7_widthOf 44 = .ok (.bipush 97, 2) := by decide +kernel
theorem dX7_widthOf_46 : decode cX7_widthOf 46 = .ok (.isub, 1) := by decide +kernel
theorem dX7_widthOf_47 : decode cX7_widthOf 47 = .ok (.invokevirtual 31, 3) := by decide +kernel
theorem dX7_widthOf_50 : decode cX7_widthOf 50 = .ok (.iadd, 1) := by decide +kernel
theorem dX7_widthOf_51 : decode cX7_widthOf 51 = .ok (.istore 5, 2) := by decide +kernel
theorem dX7_widthOf_53 : decode cX7_widthOf 53 = .ok (.iinc 6 1, 3) := by decide +kernel
theorem dX7_widthOf_56 : decode cX7_widthOf 56 = .ok (.goto (-31), 3) := by decide +kernel
theorem dX7_widthOf_59 : decode cX7_widthOf 59 = .ok (.iload 5, 2) := by decide +kernel
theorem dX7_widthOf_61 : decode cX7_widthOf 61 = .ok (.ireturn, 1) := by decide +kernel
set_option maxRecDepth 20000 in
theorem ggX7_hasWord_X7_isWord : GoodIn wsX7_hasWord wsX7_isWord := goodIn_r _ [6, 7, 8, 9, 5, 10, 11, 12, 13, 14, 15, 16, 17, 18, 19, 20, 21, 22, 23, 24, 25, 26, 27, 28, 29, 30, 31, 32, 33, 34, 35, 36, 37, 38, 39, 40, 41, 42, 43] (by decide +kernel) (by decide +kernel)
set_option maxRecDepth 20000 in
theorem gX7_hasWord_X7_isWord : GoodIn wsX7_hasWord (wsV RX7 35 RX7 yX7_isWord wsX7_isWord) := goodIn_app (goodIn_of _ (by decide +kernel)) ggX7_hasWord_X7_isWord
theorem dX7_hasWord_0 : decode cX7_hasWord 0 = .ok (.iconst 0, 1) := by decide +kernel
theorem dX7_hasWord_1 : decode cX7_hasWord 1 = .ok (.istore_n 2, 1) := by decide +kernel
theorem dX7_hasWord_2 : decode cX7_hasWord 2 = .ok (.iload_n 2, 1) := by decide +kernel
theorem dX7_hasWord_3 : decode cX7_hasWord 3 = .ok (.aload_n 0, 1) := by decide +kernel
theorem dX7_hasWord_4 : decode cX7_hasWord 4 = .ok (.getfield 28, 3) := by decide +kernel
theorem dX7_hasWord_7 : decode cX7_hasWord 7 = .ok (.if_icmp .ge 20, 3) := by decide +kernel
theorem dX7_hasWord_10 : decode cX7_hasWord 10 = .ok (.aload_n 0, 1) := by decide +kernel
theorem dX7_hasWord_11 : decode cX7_hasWord 11 = .ok (.iload_n 2, 1) := by decide +kernel
theorem dX7_hasWord_12 : decode cX7_hasWord 12 = .ok (.aload_n 1, 1) := by decide +kernel
theorem dX7_hasWord_13 : decode cX7_hasWord 13 = .ok (.invokevirtual 35, 3) := by decide +kernel
theorem dX7_hasWord_16 : decode cX7_hasWord 16 = .ok (.ifCond .eq 5, 3) := by decide +kernel
theorem dX7_hasWord_19 : decode cX7_hasWord 19 = .ok (.iconst 1, 1) := by decide +kernel
theorem dX7_hasWord_20 : decode cX7_hasWord 20 = .ok (.ireturn, 1) := by decide +kernel
theorem dX7_hasWord_21 : decode cX7_hasWord 21 = .ok (.iinc 2 1, 3) := by decide +kernel
theorem dX7_hasWord_24 : decode cX7_hasWord 24 = .ok (.goto (-22), 3) := by decide +kernel
theorem dX7_hasWord_27 : decode cX7_hasWord 27 = .ok (.iconst 0, 1) := by decide +kernel
theorem dX7_hasWord_28 : decode cX7_hasWord 28 = .ok (.ireturn, 1) := by decide +kernel
set_option maxRecDepth 20000 in
theorem ggX7_isWord_X7_lengthOf : GoodIn wsX7_isWord wsX7_lengthOf := goodIn_r _ [5, 6, 7, 8, 9, 10, 11, 12, 31, 32, 33, 34, 35, 36] (by decide +kernel) (by decide +kernel)
set_option maxRecDepth 20000 in
theorem gX7_isWord_X7_lengthOf : GoodIn wsX7_isWord (wsV RX7 39 RX7 yX7_lengthOf wsX7_lengthOf) := goodIn_app (goodIn_of _ (by decide +kernel)) ggX7_isWord_X7_lengthOf
set_option maxRecDepth 20000 in
theorem ggX7_isWord_X6_size : GoodIn wsX7_isWord wsX6_size := goodIn_r _ [17, 18, 37, 38] (by decide +kernel) (by decide +kernel)
set_option maxRecDepth 20000 in
theorem gX7_isWord_X6_size : GoodIn wsX7_isWord (wsV RX7 42 RX6 yX6_size wsX6_size) := goodIn_app (goodIn_of _ (by decide +kernel)) ggX7_isWord_X6_size
set_option maxRecDepth 20000 in
theorem ggX7_isWord_X7_letterOf : GoodIn wsX7_isWord wsX7_letterOf := goodIn_r _ [22, 23, 24, 7, 8, 9, 10, 11, 12, 31, 32, 33, 34, 35, 36] (by decide +kernel) (by decide +kernel)
set_option maxRecDepth 20000 in
theorem gX7_isWord_X7_letterOf : GoodIn wsX7_isWord (wsV RX7 47 RX7 yX7_letterOf wsX7_letterOf) := goodIn_app (goodIn_of _ (by decide +kernel)) ggX7_isWord_X7_letterOf
set_option maxRecDepth 20000 in
theorem ggX7_isWord_X6_at : GoodIn wsX7_isWord wsX6_at := goodIn_r _ [28, 29, 30, 8, 9, 10, 11, 12, 37, 38, 36] (by decide +kernel) (by decide +kernel)
set_option maxRecDepth 20000 in
theorem gX7_isWord_X6_at : GoodIn wsX7_isWord (wsV RX7 51 RX6 yX6_at wsX6_at) := goodIn_app (goodIn_of _ (by decide +kernel)) ggX7_isWord_X6_at
theorem dX7_isWord_0 : decode cX7_isWord 0 = .ok (.aload_n 0, 1) := by decide +kernel
theorem dX7_isWord_1 : decode cX7_isWord 1 = .ok (.iload_n 1, 1) := by decide +kernel
theorem dX7_isWord_2 : decode cX7_isWord 2 = .ok (.invokevirtual 39, 3) := by decide +kernel
theorem dX7_isWord_5 : decode cX7_isWord 5 = .ok (.aload_n 2, 1) := by decide +kernel
theorem dX7_isWord_6 : decode cX7_isWord 6 = .ok (.invokevirtual 42, 3) := by decide +kernel
theorem dX7_isWord_9 : decode cX7_isWord 9 = .ok (.if_icmp .eq 5, 3) := by decide +kernel
theorem dX7_isWord_12 : decode cX7_isWord 12 = .ok (.iconst 0, 1) := by decide +kernel
theorem dX7_isWord_13 : decode cX7_isWord 13 = .ok (.ireturn, 1) := by decide +kernel
theorem dX7_isWord_14 : decode cX7_isWord 14 = .ok (.iconst 0, 1) := by decide +kernel
theorem dX7_isWord_15 : decode cX7_isWord 15 = .ok (.istore_n 3, 1) := by decide +kernel
