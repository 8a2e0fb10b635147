theorem dX1_measure_74 : decode cX1_measure 74 = .ok (.if_icmp .ge 40, 3) := by decide +kernel
theorem dX1_measure_77 : decode cX1_measure 77 = .ok (.aload_n 0, 1) := by decide +kernel
theorem dX1_measure_78 : decode cX1_measure 78 = .ok (.iload_n 2, 1) := by decide +kernel
theorem dX1_measure_79 : decode cX1_measure 79 = .ok (.invokevirtual 65, 3) := by decide +kernel
theorem dX1_measure_82 : decode cX1_measure 82 = .ok (.istore_n 3, 1) := by decide +kernel
theorem dX1_measure_83 : decode cX1_measure 83 = .ok (.aload_n 0, 1) := by decide +kernel
theorem dX1_measure_84 : decode cX1_measure 84 = .ok (.getfield 20, 3) := by decide +kernel
theorem dX1_measure_87 : decode cX1_measure 87 = .ok (.iload_n 2, 1) := by decide +kernel
theorem dX1_measure_88 : decode cX1_measure 88 = .ok (.iload_n 3, 1) := by decide +kernel
theorem dX1_measure_89 : decode cX1_measure 89 = .ok (.invokevirtual 61, 3) := by decide +kernel
theorem dX1_measure_92 : decode cX1_measure 92 = .ok (.aload_n 0, 1) := by decide +kernel
theorem dX1_measure_93 : decode cX1_measure 93 = .ok (.getfield 23, 3) := by decide +kernel
theorem dX1_measure_96 : decode cX1_measure 96 = .ok (.iload_n 3, 1) := by decide +kernel
theorem dX1_measure_97 : decode cX1_measure 97 = .ok (.aload_n 0, 1) := by decide +kernel
theorem dX1_measure_98 : decode cX1_measure 98 = .ok (.getfield 14, 3) := by decide +kernel
theorem dX1_measure_101 : decode cX1_measure 101 = .ok (.iload_n 2, 1) := by decide +kernel
theorem dX1_measure_102 : decode cX1_measure 102 = .ok (.invokevirtual 33, 3) := by decide +kernel
theorem dX1_measure_105 : decode cX1_measure 105 = .ok (.invokevirtual 61, 3) := by decide +kernel
theorem dX1_measure_108 : decode cX1_measure 108 = .ok (.iinc 2 1, 3) := by decide +kernel
theorem dX1_measure_111 : decode cX1_measure 111 = .ok (.goto (-42), 3) := by decide +kernel
theorem dX1_measure_114 : decode cX1_measure 114 = .ok (.return_, 1) := by decide +kernel
set_option maxRecDepth 20000 in
theorem ggX1_formsAheadOf_X3_at : GoodIn wsX1_formsAheadOf wsX3_at := goodIn_r _ [7, 8, 14] (by decide +kernel) (by decide +kernel)
set_option maxRecDepth 20000 in
theorem gX1_formsAheadOf_X3_at : GoodIn wsX1_formsAheadOf (wsV RX1 33 RX3 yX3_at wsX3_at) := goodIn_app (goodIn_of _ (by decide +kernel)) ggX1_formsAheadOf_X3_at
theorem dX1_formsAheadOf_0 : decode cX1_formsAheadOf 0 = .ok (.aload_n 0, 1) := by decide +kernel
theorem dX1_formsAheadOf_1 : decode cX1_formsAheadOf 1 = .ok (.getfield 14, 3) := by decide +kernel
theorem dX1_formsAheadOf_4 : decode cX1_formsAheadOf 4 = .ok (.iload_n 1, 1) := by decide +kernel
theorem dX1_formsAheadOf_5 : decode cX1_formsAheadOf 5 = .ok (.invokevirtual 33, 3) := by decide +kernel
theorem dX1_formsAheadOf_8 : decode cX1_formsAheadOf 8 = .ok (.istore_n 2, 1) := by decide +kernel
theorem dX1_formsAheadOf_9 : decode cX1_formsAheadOf 9 = .ok (.iconst 0, 1) := by decide +kernel
theorem dX1_formsAheadOf_10 : decode cX1_formsAheadOf 10 = .ok (.istore_n 3, 1) := by decide +kernel
theorem dX1_formsAheadOf_11 : decode cX1_formsAheadOf 11 = .ok (.iconst 0, 1) := by decide +kernel
theorem dX1_formsAheadOf_12 : decode cX1_formsAheadOf 12 = .ok (.istore 4, 2) := by decide +kernel
theorem dX1_formsAheadOf_14 : decode cX1_formsAheadOf 14 = .ok (.iload 4, 2) := by decide +kernel
theorem dX1_formsAheadOf_16 : decode cX1_formsAheadOf 16 = .ok (.aload_n 0, 1) := by decide +kernel
theorem dX1_formsAheadOf_17 : decode cX1_formsAheadOf 17 = .ok (.getfield 30, 3) := by decide +kernel
theorem dX1_formsAheadOf_20 : decode cX1_formsAheadOf 20 = .ok (.if_icmp .ge 41, 3) := by decide +kernel
theorem dX1_formsAheadOf_23 : decode cX1_formsAheadOf 23 = .ok (.aload_n 0, 1) := by decide +kernel
theorem dX1_formsAheadOf_24 : decode cX1_formsAheadOf 24 = .ok (.getfield 14, 3) := by decide +kernel
theorem dX1_formsAheadOf_27 : decode cX1_formsAheadOf 27 = .ok (.iload 4, 2) := by decide +kernel
theorem dX1_formsAheadOf_29 : decode cX1_formsAheadOf 29 = .ok (.invokevirtual 33, 3) := by decide +kernel
theorem dX1_formsAheadOf_32 : decode cX1_formsAheadOf 32 = .ok (.istore 5, 2) := by decide +kernel
theorem dX1_formsAheadOf_34 : decode cX1_formsAheadOf 34 = .ok (.iload 5, 2) := by decide +kernel
theorem dX1_formsAheadOf_36 : decode cX1_formsAheadOf 36 = .ok (.iload_n 2, 1) := by decide +kernel
theorem dX1_formsAheadOf_37 : decode cX1_formsAheadOf 37 = .ok (.if_icmp .lt 15, 3) := by decide +kernel
theorem dX1_formsAheadOf_40 : decode cX1_formsAheadOf 40 = .ok (.iload 5, 2) := by decide +kernel
theorem dX1_formsAheadOf_42 : decode cX1_formsAheadOf 42 = .ok (.iload_n 2, 1) := by decide +kernel
theorem dX1_formsAheadOf_43 : decode cX1_formsAheadOf 43 = .ok (.if_icmp .ne 12, 3) := by decide +kernel
theorem dX1_formsAheadOf_46 : decode cX1_formsAheadOf 46 = .ok (.iload 4, 2) := by decide +kernel
theorem dX1_formsAheadOf_48 : decode cX1_formsAheadOf 48 = .ok (.iload_n 1, 1) := by decide +kernel
theorem dX1_formsAheadOf_49 : decode cX1_formsAheadOf 49 = .ok (.if_icmp .ge 6, 3) := by decide +kernel
theorem dX1_formsAheadOf_52 : decode cX1_formsAheadOf 52 = .ok (.iinc 3 1, 3) := by decide +kernel
theorem dX1_formsAheadOf_55 : decode cX1_formsAheadOf 55 = .ok (.iinc 4 1, 3) := by decide +kernel
theorem dX1_formsAheadOf_58 : decode cX1_formsAheadOf 58 = .ok (.goto (-44), 3) := by decide +kernel
theorem dX1_formsAheadOf_61 : decode cX1_formsAheadOf 61 = .ok (.iload_n 3, 1) := by decide +kernel
theorem dX1_formsAheadOf_62 : decode cX1_formsAheadOf 62 = .ok (.ireturn, 1) := by decide +kernel
set_option maxRecDepth 20000 in
theorem ggX2_init_X5_init : GoodIn wsX2_init wsX5_init := goodIn_r _ [11, 12, 2, 3, 13, 14, 15, 16, 17, 18, 19, 20, 21, 22, 23, 24, 25, 26, 27, 28, 29, 30, 31, 32, 33, 34, 35, 36, 37, 38, 39, 40, 41, 42, 43, 44, 45, 46, 47, 48, 49, 50, 51, 52, 60, 61, 62, 63, 64, 55, 56, 57, 58, 59, 65] (by decide +kernel) (by decide +kernel)
set_option maxRecDepth 20000 in
theorem gX2_init_X5_init : GoodIn wsX2_init (wsX5_init) := ggX2_init_X5_init
theorem dX2_init_0 : decode cX2_init 0 = .ok (.aload_n 0, 1) := by decide +kernel
theorem dX2_init_1 : decode cX2_init 1 = .ok (.invokespecial 3, 3) := by decide +kernel
theorem dX2_init_4 : decode cX2_init 4 = .ok (.aload_n 0, 1) := by decide +kernel
theorem dX2_init_5 : decode cX2_init 5 = .ok (.iconst 4, 1) := by decide +kernel
theorem dX2_init_6 : decode cX2_init 6 = .ok (.anewarray 9, 3) := by decide +kernel
theorem dX2_init_9 : decode cX2_init 9 = .ok (.putfield 11, 3) := by decide +kernel
theorem dX2_init_12 : decode cX2_init 12 = .ok (.iconst 0, 1) := by decide +kernel
theorem dX2_init_13 : decode cX2_init 13 = .ok (.istore_n 1, 1) := by decide +kernel
theorem dX2_init_14 : decode cX2_init 14 = .ok (.iload_n 1, 1) := by decide +kernel
theorem dX2_init_15 : decode cX2_init 15 = .ok (.aload_n 0, 1) := by decide +kernel
theorem dX2_init_16 : decode cX2_init 16 = .ok (.getfield 11, 3) := by decide +kernel
theorem dX2_init_19 : decode cX2_init 19 = .ok (.arraylength, 1) := by decide +kernel
theorem dX2_init_20 : decode cX2_init 20 = .ok (.if_icmp .ge 22, 3) := by decide +kernel
theorem dX2_init_23 : decode cX2_init 23 = .ok (.aload_n 0, 1) := by decide +kernel
theorem dX2_init_24 : decode cX2_init 24 = .ok (.getfield 11, 3) := by decide +kernel
theorem dX2_init_27 : decode cX2_init 27 = .ok (.iload_n 1, 1) := by decide +kernel
theorem dX2_init_28 : decode cX2_init 28 = .ok (.new 9, 3) := by decide +kernel
theorem dX2_init_31 : decode cX2_init 31 = .ok (.dup, 1) := by decide +kernel
theorem dX2_init_32 : decode cX2_init 32 = .ok (.invokespecial 17, 3) := by decide +kernel
theorem dX2_init_35 : decode cX2_init 35 = .ok (.aastore, 1) := by decide +kernel
theorem dX2_init_36 : decode cX2_init 36 = .ok (.iinc 1 1, 3) := by decide +kernel
theorem dX2_init_39 : decode cX2_init 39 = .ok (.goto (-25), 3) := by decide +kernel
theorem dX2_init_42 : decode cX2_init 42 = .ok (.aload_n 0, 1) := by decide +kernel
theorem dX2_init_43 : decode cX2_init 43 = .ok (.iconst 0, 1) := by decide +kernel
theorem dX2_init_44 : decode cX2_init 44 = .ok (.putfield 18, 3) := by decide +kernel
theorem dX2_init_47 : decode cX2_init 47 = .ok (.return_, 1) := by decide +kernel
theorem dX2_size_0 : decode cX2_size 0 = .ok (.aload_n 0, 1) := by decide +kernel
theorem dX2_size_1 : decode cX2_size 1 = .ok (.getfield 18, 3) := by decide +kernel
theorem dX2_size_4 : decode cX2_size 4 = .ok (.ireturn, 1) := by decide +kernel
set_option maxRecDepth 20000 in
theorem ggX2_keep_X2_moveOldestToEnd : GoodIn wsX2_keep wsX2_moveOldestToEnd := goodIn_r _ [7, 2, 47, 48] (by decide +kernel) (by decide +kernel)
set_option maxRecDepth 20000 in
theorem gX2_keep_X2_moveOldestToEnd : GoodIn wsX2_keep (wsV RX2 22 RX2 yX2_moveOldestToEnd wsX2_moveOldestToEnd) := goodIn_app (goodIn_of _ (by decide +kernel)) ggX2_keep_X2_moveOldestToEnd
set_option maxRecDepth 20000 in
theorem ggX2_keep_X2_latest : GoodIn wsX2_keep wsX2_latest := goodIn_r _ [11, 1, 2, 47, 48] (by decide +kernel) (by decide +kernel)
set_option maxRecDepth 20000 in
theorem gX2_keep_X2_latest : GoodIn wsX2_keep (wsV RX2 25 RX2 yX2_latest wsX2_latest) := goodIn_app (goodIn_of _ (by decide +kernel)) ggX2_keep_X2_latest
set_option maxRecDepth 20000 in
theorem ggX2_keep_X5_copyFrom : GoodIn wsX2_keep wsX5_copyFrom := goodIn_r _ [16, 17, 18, 19, 20, 21, 22, 23, 24, 25, 26, 27, 28, 29, 30, 31, 32, 33, 34, 35, 36, 37, 38, 39, 40, 41, 42, 43, 44, 45, 46, 49, 50, 51, 52, 53, 54, 55, 56, 57, 58, 59] (by decide +kernel) (by decide +kernel)
set_option maxRecDepth 20000 in
theorem gX2_keep_X5_copyFrom : GoodIn wsX2_keep (wsV RX2 29 RX5 yX5_copyFrom wsX5_copyFrom) := goodIn_app (goodIn_of _ (by decide +kernel)) ggX2_keep_X5_copyFrom
theorem dX2_keep_0 : decode cX2_keep 0 = .ok (.aload_n 0, 1) := by decide +kernel
theorem dX2_keep_1 : decode cX2_keep 1 = .ok (.getfield 18, 3) := by decide +kernel
theorem dX2_keep_4 : decode cX2_keep 4 = .ok (.aload_n 0, 1) := by decide +kernel
theorem dX2_keep_5 : decode cX2_keep 5 = .ok (.getfield 11, 3) := by decide +kernel
theorem dX2_keep_8 : decode cX2_keep 8 = .ok (.arraylength, 1) := by decide +kernel
theorem dX2_keep_9 : decode cX2_keep 9 = .ok (.if_icmp .ge 16, 3) := by decide +kernel
theorem dX2_keep_12 : decode cX2_keep 12 = .ok (.aload_n 0, 1) := by decide +kernel
theorem dX2_keep_13 : decode cX2_keep 13 = .ok (.dup, 1) := by decide +kernel
theorem dX2_keep_14 : decode cX2_keep 14 = .ok (.getfield 18, 3) := by decide +kernel
theorem dX2_keep_17 : decode cX2_keep 17 = .ok (.iconst 1, 1) := by decide +kernel
theorem dX2_keep_18 : decode cX2_keep 18 = .ok (.iadd, 1) := by decide +kernel
theorem dX2_keep_19 : decode cX2_keep 19 = .ok (.putfield 18, 3) := by decide +kernel
theorem dX2_keep_22 : decode cX2_keep 22 = .ok (.goto 7, 3) := by decide +kernel
theorem dX2_keep_25 : decode cX2_keep 25 = .ok (.aload_n 0, 1) := by decide +kernel
theorem dX2_keep_26 : decode cX2_keep 26 = .ok (.invokevirtual 22, 3) := by decide +kernel
theorem dX2_keep_29 : decode cX2_keep 29 = .ok (.aload_n 0, 1) := by decide +kernel
theorem dX2_keep_30 : decode cX2_keep 30 = .ok (.invokevirtual 25, 3) := by decide +kernel
theorem dX2_keep_33 : decode cX2_keep 33 = .ok (.astore_n 2, 1) := by decide +kernel
theorem dX2_keep_34 : decode cX2_keep 34 = .ok (.aload_n 2, 1) := by decide +kernel
theorem dX2_keep_35 : decode cX2_keep 35 = .ok (.ifnull 8, 3) := by decide +kernel
theorem dX2_keep_38 : decode cX2_keep 38 = .ok (.aload_n 2, 1) := by decide +kernel
theorem dX2_keep_39 : decode cX2_keep 39 = .ok (.aload_n 1, 1) := by decide +kernel
theorem dX2_keep_40 : decode cX2_keep 40 = .ok (.invokevirtual 29, 3) := by decide +kernel
theorem dX2_keep_43 : decode cX2_keep 43 = .ok (.return_, 1) := by decide +kernel
theorem dX2_latest_0 : decode cX2_latest 0 = .ok (.aload_n 0, 1) := by decide +kernel
theorem dX2_latest_1 : decode cX2_latest 1 = .ok (.getfield 18, 3) := by decide +kernel
theorem dX2_latest_4 : decode cX2_latest 4 = .ok (.ifCond .le 29, 3) := by decide +kernel
theorem dX2_latest_7 : decode cX2_latest 7 = .ok (.aload_n 0, 1) := by decide +kernel
theorem dX2_latest_8 : decode cX2_latest 8 = .ok (.getfield 18, 3) := by decide +kernel
theorem dX2_latest_11 : decode cX2_latest 11 = .ok (.aload_n 0, 1) := by decide +kernel
theorem dX2_latest_12 : decode cX2_latest 12 = .ok (.getfield 11, 3) := by decide +kernel
theorem dX2_latest_15 : decode cX2_latest 15 = .ok (.arraylength, 1) := by decide +kernel
theorem dX2_latest_16 : decode cX2_latest 16 = .ok (.if_icmp .gt 17, 3) := by decide +kernel
theorem dX2_latest_19 : decode cX2_latest 19 = .ok (.aload_n 0, 1) := by decide +kernel
theorem dX2_latest_20 : decode cX2_latest 20 = .ok (.getfield 11, 3) := by decide +kernel
theorem dX2_latest_23 : decode cX2_latest 23 = .ok (.aload_n 0, 1) := by decide +kernel
theorem dX2_latest_24 : decode cX2_latest 24 = .ok (.getfield 18, 3) := by decide +kernel
theorem dX2_latest_27 : decode cX2_latest 27 = .ok (.iconst 1, 1) := by decide +kernel
theorem dX2_latest_28 : decode cX2_latest 28 = .ok (.isub, 1) := by decide +kernel
theorem dX2_latest_29 : decode cX2_latest 29 = .ok (.aaload, 1) := by decide +kernel
theorem dX2_latest_30 : decode cX2_latest 30 = .ok (.goto 4, 3) := by decide +kernel
theorem dX2_latest_33 : decode cX2_latest 33 = .ok (.aconst_null, 1) := by decide +kernel
theorem dX2_latest_34 : decode cX2_latest 34 = .ok (.areturn, 1) := by decide +kernel
theorem dX2_moveOldestToEnd_0 : decode cX2_moveOldestToEnd 0 = .ok (.iconst 0, 1) := by decide +kernel
theorem dX2_moveOldestToEnd_1 : decode cX2_moveOldestToEnd 1 = .ok (.istore_n 1, 1) := by decide +kernel
theorem dX2_moveOldestToEnd_2 : decode cX2_moveOldestToEnd 2 = .ok (.iload_n 1, 1) := by decide +kernel
theorem dX2_moveOldestToEnd_3 : decode cX2_moveOldestToEnd 3 = .ok (.iconst 1, 1) := by decide +kernel
theorem dX2_moveOldestToEnd_4 : decode cX2_moveOldestToEnd 4 = .ok (.iadd, 1) := by decide +kernel
theorem dX2_moveOldestToEnd_5 : decode cX2_moveOldestToEnd 5 = .ok (.aload_n 0, 1) := by decide +kernel
theorem dX2_moveOldestToEnd_6 : decode cX2_moveOldestToEnd 6 = .ok (.getfield 11, 3) := by decide +kernel
theorem dX2_moveOldestToEnd_9 : decode cX2_moveOldestToEnd 9 = .ok (.arraylength, 1) := by decide +kernel
theorem dX2_moveOldestToEnd_10 : decode cX2_moveOldestToEnd 10 = .ok (.if_icmp .ge 39, 3) := by decide +kernel
theorem dX2_moveOldestToEnd_13 : decode cX2_moveOldestToEnd 13 = .ok (.aload_n 0, 1) := by decide +kernel
theorem dX2_moveOldestToEnd_14 : decode cX2_moveOldestToEnd 14 = .ok (.getfield 11, 3) := by decide +kernel
theorem dX2_moveOldestToEnd_17 : decode cX2_moveOldestToEnd 17 = .ok (.iload_n 1, 1) := by decide +kernel
theorem dX2_moveOldestToEnd_18 : decode cX2_moveOldestToEnd 18 = .ok (.aaload, 1) := by decide +kernel
theorem dX2_moveOldestToEnd_19 : decode cX2_moveOldestToEnd 19 = .ok (.astore_n 2, 1) := by decide +kernel
theorem dX2_moveOldestToEnd_20 : decode cX2_moveOldestToEnd 20 = .ok (.aload_n 0, 1) := by decide +kernel
theorem dX2_moveOldestToEnd_21 : decode cX2_moveOldestToEnd 21 = .ok (.getfield 11, 3) := by decide +kernel
theorem dX2_moveOldestToEnd_24 : decode cX2_moveOldestToEnd 24 = .ok (.iload_n 1, 1) := by decide +kernel
theorem dX2_moveOldestToEnd_25 : decode cX2_moveOldestToEnd 25 = .ok (.aload_n 0, 1) := by decide +kernel
theorem dX2_moveOldestToEnd_26 : decode cX2_moveOldestToEnd 26 = .ok (.getfield 11, 3) := by decide +kernel
theorem dX2_moveOldestToEnd_29 : decode cX2_moveOldestToEnd 29 = .ok (.iload_n 1, 1) := by decide +kernel
theorem dX2_moveOldestToEnd_30 : decode cX2_moveOldestToEnd 30 = .ok (.iconst 1, 1) := by decide +kernel
theorem dX2_moveOldestToEnd_31 : decode cX2_moveOldestToEnd 31 = .ok (.iadd, 1) := by decide +kernel
theorem dX2_moveOldestToEnd_32 : decode cX2_moveOldestToEnd 32 = .ok (.aaload, 1) := by decide +kernel
theorem dX2_moveOldestToEnd_33 : decode cX2_moveOldestToEnd 33 = .ok (.aastore, 1) := by decide +kernel
theorem dX2_moveOldestToEnd_34 : decode cX2_moveOldestToEnd 34 = .ok (.aload_n 0, 1) := by decide +kernel
theorem dX2_moveOldestToEnd_35 : decode cX2_moveOldestToEnd 35 = .ok (.getfield 11, 3) := by decide +kernel
theorem dX2_moveOldestToEnd_38 : decode cX2_moveOldestToEnd 38 = .ok (.iload_n 1, 1) := by decide +kernel
theorem dX2_moveOldestToEnd_39 : decode cX2_moveOldestToEnd 39 = .ok (.iconst 1, 1) := by decide +kernel
theorem dX2_moveOldestToEnd_40 : decode cX2_moveOldestToEnd 40 = .ok (.iadd, 1) := by decide +kernel
theorem dX2_moveOldestToEnd_41 : decode cX2_moveOldestToEnd 41 = .ok (.aload_n 2, 1) := by decide +kernel
theorem dX2_moveOldestToEnd_42 : decode cX2_moveOldestToEnd 42 = .ok (.aastore, 1) := by decide +kernel
theorem dX2_moveOldestToEnd_43 : decode cX2_moveOldestToEnd 43 = .ok (.iinc 1 1, 3) := by decide +kernel
theorem dX2_moveOldestToEnd_46 : decode cX2_moveOldestToEnd 46 = .ok (.goto (-44), 3) := by decide +kernel
theorem dX2_moveOldestToEnd_49 : decode cX2_moveOldestToEnd 49 = .ok (.return_, 1) := by decide +kernel
theorem dX3_init_0 : decode cX3_init 0 = .ok (.aload_n 0, 1) := by decide +kernel
theorem dX3_init_1 : decode cX3_init 1 = .ok (.invokespecial 1, 3) := by decide +kernel
theorem dX3_init_4 : decode cX3_init 4 = .ok (.aload_n 0, 1) := by decide +kernel
theorem dX3_init_5 : decode cX3_init 5 = .ok (.iconst 0, 1) := by decide +kernel
theorem dX3_init_6 : decode cX3_init 6 = .ok (.iload_n 1, 1) := by decide +kernel
theorem dX3_init_7 : decode cX3_init 7 = .ok (.invokestatic 7, 3) := by decide +kernel
theorem dX3_init_10 : decode cX3_init 10 = .ok (.newarray .int, 2) := by decide +kernel
theorem dX3_init_12 : decode cX3_init 12 = .ok (.putfield 13, 3) := by decide +kernel
theorem dX3_init_15 : decode cX3_init 15 = .ok (.return_, 1) := by decide +kernel
theorem dX3_init__0 : decode cX3_init_ 0 = .ok (.aload_n 0, 1) := by decide +kernel
theorem dX3_init__1 : decode cX3_init_ 1 = .ok (.invokespecial 1, 3) := by decide +kernel
theorem dX3_init__4 : decode cX3_init_ 4 = .ok (.aload_n 0, 1) := by decide +kernel
theorem dX3_init__5 : decode cX3_init_ 5 = .ok (.aload_n 1, 1) := by decide +kernel
theorem dX3_init__6 : decode cX3_init_ 6 = .ok (.invokevirtual 19, 3) := by decide +kernel
theorem dX3_init__9 : decode cX3_init_ 9 = .ok (.checkcast 20, 3) := by decide +kernel
theorem dX3_init__12 : decode cX3_init_ 12 = .ok (.putfield 13, 3) := by decide +kernel
theorem dX3_init__15 : decode cX3_init_ 15 = .ok (.return_, 1) := by decide +kernel
theorem dX3_at_0 : decode cX3_at 0 = .ok (.iload_n 1, 1) := by decide +kernel
theorem dX3_at_1 : decode cX3_at 1 = .ok (.ifCond .lt 21, 3) := by decide +kernel
theorem dX3_at_4 : decode cX3_at 4 = .ok (.iload_n 1, 1) := by decide +kernel
theorem dX3_at_5 : decode cX3_at 5 = .ok (.aload_n 0, 1) := by decide +kernel
theorem dX3_at_6 : decode cX3_at 6 = .ok (.getfield 13, 3) := by decide +kernel
theorem dX3_at_9 : decode cX3_at 9 = .ok (.arraylength, 1) := by decide +kernel
theorem dX3_at_10 : decode cX3_at 10 = .ok (.if_icmp .ge 12, 3) := by decide +kernel
theorem dX3_at_13 : decode cX3_at 13 = .ok (.aload_n 0, 1) := by decide +kernel
theorem dX3_at_14 : decode cX3_at 14 = .ok (.getfield 13, 3) := by decide +kernel
theorem dX3_at_17 : decode cX3_at 17 = .ok (.iload_n 1, 1) := by decide +kernel
theorem dX3_at_18 : decode cX3_at 18 = .ok (.iaload, 1) := by decide +kernel
theorem dX3_at_19 : decode cX3_at 19 = .ok (.goto 4, 3) := by decide +kernel
theorem dX3_at_22 : decode cX3_at 22 = .ok (.iconst 0, 1) := by decide +kernel
theorem dX3_at_23 : decode cX3_at 23 = .ok (.ireturn, 1) := by decide +kernel
theorem dX3_put_0 : decode cX3_put 0 = .ok (.iload_n 1, 1) := by decide +kernel
theorem dX3_put_1 : decode cX3_put 1 = .ok (.ifCond .lt 19, 3) := by decide +kernel
theorem dX3_put_4 : decode cX3_put 4 = .ok (.iload_n 1, 1) := by decide +kernel
theorem dX3_put_5 : decode cX3_put 5 = .ok (.aload_n 0, 1) := by decide +kernel
theorem dX3_put_6 : decode cX3_put 6 = .ok (.getfield 13, 3) := by decide +kernel
theorem dX3_put_9 : decode cX3_put 9 = .ok (.arraylength, 1) := by decide +kernel
theorem dX3_put_10 : decode cX3_put 10 = .ok (.if_icmp .ge 10, 3) := by decide +kernel
theorem dX3_put_13 : decode cX3_put 13 = .ok (.aload_n 0, 1) := by decide +kernel
theorem dX3_put_14 : decode cX3_put 14 = .ok (.getfield 13, 3) := by decide +kernel
theorem dX3_put_17 : decode cX3_put 17 = .ok (.iload_n 1, 1) := by decide +kernel
theorem dX3_put_18 : decode cX3_put 18 = .ok (.iload_n 2, 1) := by decide +kernel
theorem dX3_put_19 : decode cX3_put 19 = .ok (.iastore, 1) := by decide +kernel
theorem dX3_put_20 : decode cX3_put 20 = .ok (.return_, 1) := by decide +kernel
theorem dX3_copyFrom_0 : decode cX3_copyFrom 0 = .ok (.aload_n 1, 1) := by decide +kernel
theorem dX3_copyFrom_1 : decode cX3_copyFrom 1 = .ok (.getfield 13, 3) := by decide +kernel
theorem dX3_copyFrom_4 : decode cX3_copyFrom 4 = .ok (.iconst 0, 1) := by decide +kernel
theorem dX3_copyFrom_5 : decode cX3_copyFrom 5 = .ok (.aload_n 0, 1) := by decide +kernel
theorem dX3_copyFrom_6 : decode cX3_copyFrom 6 = .ok (.getfield 13, 3) := by decide +kernel
theorem dX3_copyFrom_9 : decode cX3_copyFrom 9 = .ok (.iconst 0, 1) := by decide +kernel
theorem dX3_copyFrom_10 : decode cX3_copyFrom 10 = .ok (.aload_n 0, 1) := by decide +kernel
theorem dX3_copyFrom_11 : decode cX3_copyFrom 11 = .ok (.getfield 13, 3) := by decide +kernel
theorem dX3_copyFrom_14 : decode cX3_copyFrom 14 = .ok (.arraylength, 1) := by decide +kernel
theorem dX3_copyFrom_15 : decode cX3_copyFrom 15 = .ok (.aload_n 1, 1) := by decide +kernel
theorem dX3_copyFrom_16 : decode cX3_copyFrom 16 = .ok (.getfield 13, 3) := by decide +kernel
theorem dX3_copyFrom_19 : decode cX3_copyFrom 19 = .ok (.arraylength, 1) := by decide +kernel
theorem dX3_copyFrom_20 : decode cX3_copyFrom 20 = .ok (.invokestatic 24, 3) := by decide +kernel
theorem dX3_copyFrom_23 : decode cX3_copyFrom 23 = .ok (.invokestatic 27, 3) := by decide +kernel
theorem dX3_copyFrom_26 : decode cX3_copyFrom 26 = .ok (.return_, 1) := by decide +kernel
set_option maxRecDepth 20000 in
theorem ggX4_init_X3_init : GoodIn wsX4_init wsX3_init := goodIn_r _ [18, 19, 2, 3, 20, 21, 22, 23, 24, 25, 35] (by decide +kernel) (by decide +kernel)
set_option maxRecDepth 20000 in
theorem gX4_init_X3_init : GoodIn wsX4_init (wsX3_init) := ggX4_init_X3_init
theorem dX4_init_0 : decode cX4_init 0 = .ok (.aload_n 0, 1) := by decide +kernel
theorem dX4_init_1 : decode cX4_init 1 = .ok (.invokespecial 3, 3) := by decide +kernel
theorem dX4_init_4 : decode cX4_init 4 = .ok (.aload_n 0, 1) := by decide +kernel
theorem dX4_init_5 : decode cX4_init 5 = .ok (.aload_n 1, 1) := by decide +kernel
theorem dX4_init_6 : decode cX4_init 6 = .ok (.putfield 9, 3) := by decide +kernel
theorem dX4_init_9 : decode cX4_init 9 = .ok (.aload_n 0, 1) := by decide +kernel
theorem dX4_init_10 : decode cX4_init 10 = .ok (.aload_n 2, 1) := by decide +kernel
theorem dX4_init_11 : decode cX4_init 11 = .ok (.putfield 15, 3) := by decide +kernel
theorem dX4_init_14 : decode cX4_init 14 = .ok (.aload_n 0, 1) := by decide +kernel
theorem dX4_init_15 : decode cX4_init 15 = .ok (.new 19, 3) := by decide +kernel
theorem dX4_init_18 : decode cX4_init 18 = .ok (.dup, 1) := by decide +kernel
theorem dX4_init_19 : decode cX4_init 19 = .ok (.bipush 40, 2) := by decide +kernel
theorem dX4_init_21 : decode cX4_init 21 = .ok (.invokespecial 21, 3) := by decide +kernel
theorem dX4_init_24 : decode cX4_init 24 = .ok (.putfield 24, 3) := by decide +kernel
theorem dX4_init_27 : decode cX4_init 27 = .ok (.aload_n 0, 1) := by decide +kernel
theorem dX4_init_28 : decode cX4_init 28 = .ok (.new 19, 3) := by decide +kernel
theorem dX4_init_31 : decode cX4_init 31 = .ok (.dup, 1) := by decide +kernel
theorem dX4_init_32 : decode cX4_init 32 = .ok (.bipush 40, 2) := by decide +kernel
theorem dX4_init_34 : decode cX4_init 34 = .ok (.invokespecial 21, 3) := by decide +kernel
theorem dX4_init_37 : decode cX4_init 37 = .ok (.putfield 28, 3) := by decide +kernel
theorem dX4_init_40 : decode cX4_init 40 = .ok (.aload_n 0, 1) := by decide +kernel
theorem dX4_init_41 : decode cX4_init 41 = .ok (.new 19, 3) := by decide +kernel
theorem dX4_init_44 : decode cX4_init 44 = .ok (.dup, 1) := by decide +kernel
theorem dX4_init_45 : decode cX4_init 45 = .ok (.bipush 40, 2) := by decide +kernel
theorem dX4_init_47 : decode cX4_init 47 = .ok (.invokespecial 21, 3) := by decide +kernel
theorem dX4_init_50 : decode cX4_init 50 = .ok (.putfield 31, 3) := by decide +kernel
theorem dX4_init_53 : decode cX4_init 53 = .ok (.aload_n 0, 1) := by decide +kernel
theorem dX4_init_54 : decode cX4_init 54 = .ok (.new 19, 3) := by decide +kernel
theorem dX4_init_57 : decode cX4_init 57 = .ok (.dup, 1) := by decide +kernel
theorem dX4_init_58 : decode cX4_init 58 = .ok (.bipush 40, 2) := by decide +kernel
theorem dX4_init_60 : decode cX4_init 60 = .ok (.invokespecial 21, 3) := by decide +kernel
theorem dX4_init_63 : decode cX4_init 63 = .ok (.putfield 34, 3) := by decide +kernel
theorem dX4_init_66 : decode cX4_init 66 = .ok (.aload_n 0, 1) := by decide +kernel
theorem dX4_init_67 : decode cX4_init 67 = .ok (.new 19, 3) := by decide +kernel
theorem dX4_init_70 : decode cX4_init 70 = .ok (.dup, 1) := by decide +kernel
theorem dX4_init_71 : decode cX4_init 71 = .ok (.bipush 40, 2) := by decide +kernel
theorem dX4_init_73 : decode cX4_init 73 = .ok (.invokespecial 21, 3) := by decide +kernel
theorem dX4_init_76 : decode cX4_init 76 = .ok (.putfield 37, 3) := by decide +kernel
theorem dX4_init_79 : decode cX4_init 79 = .ok (.aload_n 0, 1) := by decide +kernel
theorem dX4_init_80 : decode cX4_init 80 = .ok (.new 19, 3) := by decide +kernel
theorem dX4_init_83 : decode cX4_init 83 = .ok (.dup, 1) := by decide +kernel
theorem dX4_init_84 : decode cX4_init 84 = .ok (.bipush 40, 2) := by decide +kernel
theorem dX4_init_86 : decode cX4_init 86 = .ok (.invokespecial 21, 3) := by decide +kernel
theorem dX4_init_89 : decode cX4_init 89 = .ok (.putfield 40, 3) := by decide +kernel
theorem dX4_init_92 : decode cX4_init 92 = .ok (.aload_n 0, 1) := by decide +kernel
theorem dX4_init_93 : decode cX4_init 93 = .ok (.iconst 0, 1) := by decide +kernel
theorem dX4_init_94 : decode cX4_init 94 = .ok (.putfield 43, 3) := by decide +kernel
theorem dX4_init_97 : decode cX4_init 97 = .ok (.return_, 1) := by decide +kernel
set_option maxRecDepth 20000 in
theorem ggX4_hideWords_X7_size : GoodIn wsX4_hideWords wsX7_size := goodIn_r _ [9, 10, 73, 74, 75, 76, 77] (by decide +kernel) (by decide +kernel)
set_option maxRecDepth 20000 in
theorem gX4_hideWords_X7_size : GoodIn wsX4_hideWords (wsV RX4 53 RX7 yX7_size wsX7_size) := goodIn_app (goodIn_of _ (by decide +kernel)) ggX4_hideWords_X7_size
set_option maxRecDepth 20000 in
theorem ggX4_hideWords_X1_size : GoodIn wsX4_hideWords wsX1_size := goodIn_r _ [15, 16, 78, 79, 80, 81, 82] (by decide +kernel) (by decide +kernel)
set_option maxRecDepth 20000 in
theorem gX4_hideWords_X1_size : GoodIn wsX4_hideWords (wsV RX4 59 RX1 yX1_size wsX1_size) := goodIn_app (goodIn_of _ (by decide +kernel)) ggX4_hideWords_X1_size
set_option maxRecDepth 20000 in
theorem ggX4_hideWords_X1_nameOf : GoodIn wsX4_hideWords wsX1_nameOf := goodIn_r _ [20, 21, 78, 79, 80, 81, 82] (by decide +kernel) (by decide +kernel)
set_option maxRecDepth 20000 in
theorem gX4_hideWords_X1_nameOf : GoodIn wsX4_hideWords (wsV RX4 62 RX1 yX1_nameOf wsX1_nameOf) := goodIn_app (goodIn_of _ (by decide +kernel)) ggX4_hideWords_X1_nameOf
set_option maxRecDepth 20000 in
theorem ggX4_hideWords_X1_endingOf : GoodIn wsX4_hideWords wsX1_endingOf := goodIn_r _ [25, 21, 78, 79, 80, 81, 82] (by decide +kernel) (by decide +kernel)
set_option maxRecDepth 20000 in
theorem gX4_hideWords_X1_endingOf : GoodIn wsX4_hideWords (wsV RX4 66 RX1 yX1_endingOf wsX1_endingOf) := goodIn_app (goodIn_of _ (by decide +kernel)) ggX4_hideWords_X1_endingOf
set_option maxRecDepth 20000 in
theorem ggX4_hideWords_X5_isForm : GoodIn wsX4_hideWords wsX5_isForm := goodIn_r _ [30, 31, 32, 33, 34, 35, 36, 8, 37, 38, 39, 40, 41, 42, 43, 44, 45, 46, 47, 48, 49, 50, 68, 69, 70, 71, 72, 73, 74, 75, 76, 77, 83] (by decide +kernel) (by decide +kernel)
set_option maxRecDepth 20000 in
theorem gX4_hideWords_X5_isForm : GoodIn wsX4_hideWords (wsV RX4 69 RX5 yX5_isForm wsX5_isForm) := goodIn_app (goodIn_of _ (by decide +kernel)) ggX4_hideWords_X5_isForm
set_option maxRecDepth 20000 in
theorem ggX4_hideWords_X3_put : GoodIn wsX4_hideWords wsX3_put := goodIn_r _ [54, 44, 83] (by decide +kernel) (by decide +kernel)
set_option maxRecDepth 20000 in
theorem gX4_hideWords_X3_put : GoodIn wsX4_hideWords (wsV RX4 73 RX3 yX3_put wsX3_put) := goodIn_app (goodIn_of _ (by decide +kernel)) ggX4_hideWords_X3_put
set_option maxRecDepth 20000 in
theorem ggX4_hideWords_X7_widthOf : GoodIn wsX4_hideWords wsX7_widthOf := goodIn_r _ [58, 50, 38, 49, 39, 40, 41, 42, 43, 44, 73, 74, 75, 76, 77, 83] (by decide +kernel) (by decide +kernel)
set_option maxRecDepth 20000 in
theorem gX4_hideWords_X7_widthOf : GoodIn wsX4_hideWords (wsV RX4 80 RX7 yX7_widthOf wsX7_widthOf) := goodIn_app (goodIn_of _ (by decide +kernel)) ggX4_hideWords_X7_widthOf
theorem dX4_hideWords_0 : decode cX4_hideWords 0 = .ok (.iconst 0, 1) := by decide +kernel
theorem dX4_hideWords_1 : decode cX4_hideWords 1 = .ok (.istore_n 1, 1) := by decide +kernel
theorem dX4_hideWords_2 : decode cX4_hideWords 2 = .ok (.iload_n 1, 1) := by decide +kernel
theorem dX4_hideWords_3 : decode cX4_hideWords 3 = .ok (.aload_n 0, 1) := by decide +kernel
theorem dX4_hideWords_4 : decode cX4_hideWords 4 = .ok (.getfield 9, 3) := by decide +kernel
theorem dX4_hideWords_7 : decode cX4_hideWords 7 = .ok (.getfield 47, 3) := by decide +kernel
theorem dX4_hideWords_10 : decode cX4_hideWords 10 = .ok (.invokevirtual 53, 3) := by decide +kernel
theorem dX4_hideWords_13 : decode cX4_hideWords 13 = .ok (.if_icmp .ge 99, 3) := by decide +kernel
theorem dX4_hideWords_16 : decode cX4_hideWords 16 = .ok (.iconst (-1), 1) := by decide +kernel
theorem dX4_hideWords_17 : decode cX4_hideWords 17 = .ok (.istore_n 2, 1) := by decide +kernel
theorem dX4_hideWords_18 : decode cX4_hideWords 18 = .ok (.iconst 0, 1) := by decide +kernel
theorem dX4_hideWords_19 : decode cX4_hideWords 19 = .ok (.istore_n 3, 1) := by decide +kernel
theorem dX4_hideWords_20 : decode cX4_hideWords 20 = .ok (.iload_n 3, 1) := by decide +kernel
theorem dX4_hideWords_21 : decode cX4_hideWords 21 = .ok (.aload_n 0, 1) := by decide +kernel
theorem dX4_hideWords_22 : decode cX4_hideWords 22 = .ok (.getfield 15, 3) := by decide +kernel
theorem dX4_hideWords_25 : decode cX4_hideWords 25 = .ok (.invokevirtual 59, 3) := by decide +kernel
theorem dX4_hideWords_28 : decode cX4_hideWords 28 = .ok (.if_icmp .ge 43, 3) := by decide +kernel
theorem dX4_hideWords_31 : decode cX4_hideWords 31 = .ok (.iload_n 2, 1) := by decide +kernel
theorem dX4_hideWords_32 : decode cX4_hideWords 32 = .ok (.iconst (-1), 1) := by decide +kernel
theorem dX4_hideWords_33 : decode cX4_hideWords 33 = .ok (.if_icmp .ne 38, 3) := by decide +kernel
theorem dX4_hideWords_36 : decode cX4_hideWords 36 = .ok (.aload_n 0, 1) := by decide +kernel
theorem dX4_hideWords_37 : decode cX4_hideWords 37 = .ok (.getfield 9, 3) := by decide +kernel
theorem dX4_hideWords_40 : decode cX4_hideWords 40 = .ok (.iload_n 1, 1) := by decide +kernel
theorem dX4_hideWords_41 : decode cX4_hideWords 41 = .ok (.aload_n 0, 1) := by decide +kernel
theorem dX4_hideWords_42 : decode cX4_hideWords 42 = .ok (.getfield 15, 3) := by decide +kernel
theorem dX4_hideWords_45 : decode cX4_hideWords 45 = .ok (.iload_n 3, 1) := by decide +kernel
theorem dX4_hideWords_46 : decode cX4_hideWords 46 = .ok (.invokevirtual 62, 3) := by decide +kernel
theorem dX4_hideWords_49 : decode cX4_hideWords 49 = .ok (.aload_n 0, 1) := by decide +kernel
theorem dX4_hideWords_50 : decode cX4_hideWords 50 = .ok (.getfield 15, 3) := by decide +kernel
theorem dX4_hideWords_53 : decode cX4_hideWords 53 = .ok (.iload_n 3, 1) := by decide +kernel
theorem dX4_hideWords_54 : decode cX4_hideWords 54 = .ok (.invokevirtual 66, 3) := by decide +kernel
theorem dX4_hideWords_57 : decode cX4_hideWords 57 = .ok (.invokevirtual 69, 3) := by decide +kernel
theorem dX4_hideWords_60 : decode cX4_hideWords 60 = .ok (.ifCond .eq 5, 3) := by decide +kernel
theorem dX4_hideWords_63 : decode cX4_hideWords 63 = .ok (.iload_n 3, 1) := by decide +kernel
theorem dX4_hideWords_64 : decode cX4_hideWords 64 = .ok (.istore_n 2, 1) := by decide +kernel
theorem dX4_hideWords_65 : decode cX4_hideWords 65 = .ok (.iinc 3 1, 3) := by decide +kernel
theorem dX4_hideWords_68 : decode cX4_hideWords 68 = .ok (.goto (-48), 3) := by decide +kernel
theorem dX4_hideWords_71 : decode cX4_hideWords 71 = .ok (.aload_n 0, 1) := by decide +kernel
theorem dX4_hideWords_72 : decode cX4_hideWords 72 = .ok (.getfield 24, 3) := by decide +kernel
theorem dX4_hideWords_75 : decode cX4_hideWords 75 = .ok (.iload_n 1, 1) := by decide +kernel
theorem dX4_hideWords_76 : decode cX4_hideWords 76 = .ok (.iload_n 2, 1) := by decide +kernel
theorem dX4_hideWords_77 : decode cX4_hideWords 77 = .ok (.invokevirtual 73, 3) := by decide +kernel
theorem dX4_hideWords_80 : decode cX4_hideWords 80 = .ok (.aload_n 0, 1) := by decide +kernel
theorem dX4_hideWords_81 : decode cX4_hideWords 81 = .ok (.getfield 28, 3) := by decide +kernel
theorem dX4_hideWords_84 : decode cX4_hideWords 84 = .ok (.iload_n 1, 1) := by decide +kernel
theorem dX4_hideWords_85 : decode cX4_hideWords 85 = .ok (.aload_n 0, 1) := by decide +kernel
theorem dX4_hideWords_86 : decode cX4_hideWords 86 = .ok (.getfield 9, 3) := by decide +kernel
theorem dX4_hideWords_89 : decode cX4_hideWords 89 = .ok (.getfield 47, 3) := by decide +kernel
theorem dX4_hideWords_92 : decode cX4_hideWords 92 = .ok (.iload_n 1, 1) := by decide +kernel
