theorem dX8_workOut_45 : decode cX8_workOut 45 = .ok (.invokevirtual 117, 3) := by decide +kernel
theorem dX8_workOut_48 : decode cX8_workOut 48 = .ok (.invokevirtual 229, 3) := by decide +kernel
theorem dX8_workOut_51 : decode cX8_workOut 51 = .ok (.aload_n 0, 1) := by decide +kernel
theorem dX8_workOut_52 : decode cX8_workOut 52 = .ok (.getfield 54, 3) := by decide +kernel
theorem dX8_workOut_55 : decode cX8_workOut 55 = .ok (.invokevirtual 243, 3) := by decide +kernel
theorem dX8_workOut_58 : decode cX8_workOut 58 = .ok (.aload_n 0, 1) := by decide +kernel
theorem dX8_workOut_59 : decode cX8_workOut 59 = .ok (.getfield 54, 3) := by decide +kernel
theorem dX8_workOut_62 : decode cX8_workOut 62 = .ok (.aload_n 0, 1) := by decide +kernel
theorem dX8_workOut_63 : decode cX8_workOut 63 = .ok (.getfield 42, 3) := by decide +kernel
theorem dX8_workOut_66 : decode cX8_workOut 66 = .ok (.invokevirtual 246, 3) := by decide +kernel
theorem dX8_workOut_69 : decode cX8_workOut 69 = .ok (.return_, 1) := by decide +kernel
set_option maxRecDepth 20000 in
theorem ggX8_addTextTo_X7_greatestLength : GoodIn wsX8_addTextTo wsX7_greatestLength := goodIn_r _ [8, 9, 257, 258, 259, 260, 261] (by decide +kernel) (by decide +kernel)
set_option maxRecDepth 20000 in
theorem gX8_addTextTo_X7_greatestLength : GoodIn wsX8_addTextTo (wsV RX8 250 RX7 yX7_greatestLength wsX7_greatestLength) := goodIn_app (goodIn_of _ (by decide +kernel)) ggX8_addTextTo_X7_greatestLength
set_option maxRecDepth 20000 in
theorem ggX8_addTextTo_X6_isOneWord : GoodIn wsX8_addTextTo wsX6_isOneWord := goodIn_r _ [14, 15, 16, 17, 18, 19, 20, 21, 22, 23, 24, 25, 262, 263, 264] (by decide +kernel) (by decide +kernel)
set_option maxRecDepth 20000 in
theorem gX8_addTextTo_X6_isOneWord : GoodIn wsX8_addTextTo (wsV RX8 253 RX6 yX6_isOneWord wsX6_isOneWord) := goodIn_app (goodIn_of _ (by decide +kernel)) ggX8_addTextTo_X6_isOneWord
set_option maxRecDepth 20000 in
theorem ggX8_addTextTo_X7_hasWord : GoodIn wsX8_addTextTo wsX7_hasWord := goodIn_r _ [29, 30, 31, 32, 33, 7, 34, 35, 36, 37, 38, 39, 40, 18, 19, 20, 21, 22, 41, 42, 43, 13, 44, 15, 45, 46, 47, 48, 49, 9, 50, 51, 52, 53, 16, 17, 257, 258, 259, 260, 261, 264, 262, 263] (by decide +kernel) (by decide +kernel)
set_option maxRecDepth 20000 in
theorem gX8_addTextTo_X7_hasWord : GoodIn wsX8_addTextTo (wsV RX8 256 RX7 yX7_hasWord wsX7_hasWord) := goodIn_app (goodIn_of _ (by decide +kernel)) ggX8_addTextTo_X7_hasWord
set_option maxRecDepth 20000 in
theorem ggX8_addTextTo_X7_isFull : GoodIn wsX8_addTextTo wsX7_isFull := goodIn_r _ [57, 30, 58, 257, 258, 259, 260, 261] (by decide +kernel) (by decide +kernel)
set_option maxRecDepth 20000 in
theorem gX8_addTextTo_X7_isFull : GoodIn wsX8_addTextTo (wsV RX8 260 RX7 yX7_isFull wsX7_isFull) := goodIn_app (goodIn_of _ (by decide +kernel)) ggX8_addTextTo_X7_isFull
set_option maxRecDepth 20000 in
theorem ggX8_addTextTo_X2_keep : GoodIn wsX8_addTextTo wsX2_keep := goodIn_r _ [63, 64, 65, 66, 67, 68, 62, 69, 70, 71, 72, 73, 74, 75, 76, 77, 78, 79, 80, 81, 82, 83, 84, 85, 86, 7, 87, 49, 39, 58, 30, 88, 89, 90, 91, 92, 93, 94, 20, 95, 22, 96, 97, 98, 99, 100, 101, 265, 266, 267, 268, 269, 270, 271, 257, 258, 259, 260, 261, 264] (by decide +kernel) (by decide +kernel)
set_option maxRecDepth 20000 in
theorem gX8_addTextTo_X2_keep : GoodIn wsX8_addTextTo (wsV RX8 76 RX2 yX2_keep wsX2_keep) := goodIn_app (goodIn_of _ (by decide +kernel)) ggX8_addTextTo_X2_keep
set_option maxRecDepth 20000 in
theorem ggX8_addTextTo_X7_addWordsOf : GoodIn wsX8_addTextTo wsX7_addWordsOf := goodIn_r _ [105, 41, 42, 43, 13, 44, 15, 50, 51, 52, 53, 16, 17, 18, 19, 20, 21, 22, 23, 24, 25, 106, 107, 108, 7, 109, 30, 58, 39, 110, 111, 112, 113, 114, 115, 116, 117, 9, 49, 35, 36, 37, 38, 40, 262, 263, 264, 257, 258, 259, 260, 261] (by decide +kernel) (by decide +kernel)
set_option maxRecDepth 20000 in
theorem gX8_addTextTo_X7_addWordsOf : GoodIn wsX8_addTextTo (wsV RX8 87 RX7 yX7_addWordsOf wsX7_addWordsOf) := goodIn_app (goodIn_of _ (by decide +kernel)) ggX8_addTextTo_X7_addWordsOf
set_option maxRecDepth 20000 in
theorem ggX8_addTextTo_X8_workOut : GoodIn wsX8_addTextTo wsX8_workOut := goodIn_r _ [121, 122, 3, 123, 124, 125, 126, 127, 128, 129, 130, 131, 132, 133, 134, 135, 136, 137, 7, 138, 30, 139, 140, 141, 142, 143, 144, 145, 146, 147, 148, 149, 77, 150, 80, 82, 81, 151, 152, 153, 154, 9, 39, 49, 40, 18, 19, 20, 21, 22, 155, 111, 112, 113, 156, 157, 158, 159, 160, 161, 162, 163, 164, 165, 166, 167, 168, 169, 170, 171, 172, 173, 174, 175, 176, 177, 178, 179, 180, 181, 182, 183, 184, 185, 186, 187, 188, 189, 190, 191, 192, 193, 194, 195, 196, 197, 198, 199, 200, 201, 202, 203, 204, 205, 206, 207, 208, 209, 210, 211, 212, 213, 79, 214, 36, 37, 38, 215, 46, 47, 48, 216, 217, 218, 219, 220, 221, 222, 223, 224, 225, 226, 227, 228, 229, 230, 231, 232, 233, 234, 235, 236, 237, 238, 239, 240, 241, 242, 243, 244, 245, 246, 247, 248, 250, 251, 252, 253, 254, 255, 256, 267, 268, 269, 270, 271, 272, 273, 274, 275, 276, 257, 258, 259, 260, 261, 264, 277, 278, 279, 280, 281, 282, 283, 284, 285, 286, 287] (by decide +kernel) (by decide +kernel)
set_option maxRecDepth 20000 in
theorem gX8_addTextTo_X8_workOut : GoodIn wsX8_addTextTo (wsV RX8 91 RX8 yX8_workOut wsX8_workOut) := goodIn_app (goodIn_of _ (by decide +kernel)) ggX8_addTextTo_X8_workOut
set_option maxRecDepth 20000 in
theorem ggX8_addTextTo_X7_size : GoodIn wsX8_addTextTo wsX7_size := goodIn_r _ [138, 30, 257, 258, 259, 260, 261] (by decide +kernel) (by decide +kernel)
set_option maxRecDepth 20000 in
theorem gX8_addTextTo_X7_size : GoodIn wsX8_addTextTo (wsV RX8 94 RX7 yX7_size wsX7_size) := goodIn_app (goodIn_of _ (by decide +kernel)) ggX8_addTextTo_X7_size
theorem dX8_addTextTo_0 : decode cX8_addTextTo 0 = .ok (.aload_n 0, 1) := by decide +kernel
theorem dX8_addTextTo_1 : decode cX8_addTextTo 1 = .ok (.getfield 12, 3) := by decide +kernel
theorem dX8_addTextTo_4 : decode cX8_addTextTo 4 = .ok (.aload_n 1, 1) := by decide +kernel
theorem dX8_addTextTo_5 : decode cX8_addTextTo 5 = .ok (.invokevirtual 250, 3) := by decide +kernel
theorem dX8_addTextTo_8 : decode cX8_addTextTo 8 = .ok (.invokevirtual 253, 3) := by decide +kernel
theorem dX8_addTextTo_11 : decode cX8_addTextTo 11 = .ok (.ifCond .eq 14, 3) := by decide +kernel
theorem dX8_addTextTo_14 : decode cX8_addTextTo 14 = .ok (.aload_n 1, 1) := by decide +kernel
theorem dX8_addTextTo_15 : decode cX8_addTextTo 15 = .ok (.aload_n 0, 1) := by decide +kernel
theorem dX8_addTextTo_16 : decode cX8_addTextTo 16 = .ok (.getfield 12, 3) := by decide +kernel
theorem dX8_addTextTo_19 : decode cX8_addTextTo 19 = .ok (.invokevirtual 256, 3) := by decide +kernel
theorem dX8_addTextTo_22 : decode cX8_addTextTo 22 = .ok (.ifCond .eq 6, 3) := by decide +kernel
theorem dX8_addTextTo_25 : decode cX8_addTextTo 25 = .ok (.bipush (-12), 2) := by decide +kernel
theorem dX8_addTextTo_27 : decode cX8_addTextTo 27 = .ok (.ireturn, 1) := by decide +kernel
theorem dX8_addTextTo_28 : decode cX8_addTextTo 28 = .ok (.aload_n 1, 1) := by decide +kernel
theorem dX8_addTextTo_29 : decode cX8_addTextTo 29 = .ok (.invokevirtual 260, 3) := by decide +kernel
theorem dX8_addTextTo_32 : decode cX8_addTextTo 32 = .ok (.ifCond .eq 6, 3) := by decide +kernel
theorem dX8_addTextTo_35 : decode cX8_addTextTo 35 = .ok (.bipush (-13), 2) := by decide +kernel
theorem dX8_addTextTo_37 : decode cX8_addTextTo 37 = .ok (.ireturn, 1) := by decide +kernel
theorem dX8_addTextTo_38 : decode cX8_addTextTo 38 = .ok (.aload_n 0, 1) := by decide +kernel
theorem dX8_addTextTo_39 : decode cX8_addTextTo 39 = .ok (.getfield 26, 3) := by decide +kernel
theorem dX8_addTextTo_42 : decode cX8_addTextTo 42 = .ok (.aload_n 0, 1) := by decide +kernel
theorem dX8_addTextTo_43 : decode cX8_addTextTo 43 = .ok (.getfield 19, 3) := by decide +kernel
theorem dX8_addTextTo_46 : decode cX8_addTextTo 46 = .ok (.invokevirtual 76, 3) := by decide +kernel
theorem dX8_addTextTo_49 : decode cX8_addTextTo 49 = .ok (.aload_n 1, 1) := by decide +kernel
theorem dX8_addTextTo_50 : decode cX8_addTextTo 50 = .ok (.aload_n 0, 1) := by decide +kernel
theorem dX8_addTextTo_51 : decode cX8_addTextTo 51 = .ok (.getfield 12, 3) := by decide +kernel
theorem dX8_addTextTo_54 : decode cX8_addTextTo 54 = .ok (.invokevirtual 87, 3) := by decide +kernel
theorem dX8_addTextTo_57 : decode cX8_addTextTo 57 = .ok (.aload_n 0, 1) := by decide +kernel
theorem dX8_addTextTo_58 : decode cX8_addTextTo 58 = .ok (.invokevirtual 91, 3) := by decide +kernel
theorem dX8_addTextTo_61 : decode cX8_addTextTo 61 = .ok (.aload_n 1, 1) := by decide +kernel
theorem dX8_addTextTo_62 : decode cX8_addTextTo 62 = .ok (.invokevirtual 94, 3) := by decide +kernel
theorem dX8_addTextTo_65 : decode cX8_addTextTo 65 = .ok (.iconst 1, 1) := by decide +kernel
theorem dX8_addTextTo_66 : decode cX8_addTextTo 66 = .ok (.isub, 1) := by decide +kernel
theorem dX8_addTextTo_67 : decode cX8_addTextTo 67 = .ok (.ireturn, 1) := by decide +kernel
set_option maxRecDepth 20000 in
theorem ggX8_dropFrom_X7_has : GoodIn wsX8_dropFrom wsX7_has := goodIn_r _ [7, 8, 219, 220, 221, 222, 223] (by decide +kernel) (by decide +kernel)
set_option maxRecDepth 20000 in
theorem gX8_dropFrom_X7_has : GoodIn wsX8_dropFrom (wsV RX8 158 RX7 yX7_has wsX7_has) := goodIn_app (goodIn_of _ (by decide +kernel)) ggX8_dropFrom_X7_has
set_option maxRecDepth 20000 in
theorem ggX8_dropFrom_X2_keep : GoodIn wsX8_dropFrom wsX2_keep := goodIn_r _ [13, 14, 15, 16, 17, 18, 12, 19, 20, 21, 22, 23, 24, 25, 26, 27, 28, 29, 30, 31, 32, 33, 34, 35, 36, 6, 37, 38, 39, 40, 8, 41, 42, 43, 44, 45, 46, 47, 48, 49, 50, 51, 52, 53, 54, 55, 56, 224, 225, 226, 227, 228, 229, 230, 219, 220, 221, 222, 223, 231] (by decide +kernel) (by decide +kernel)
set_option maxRecDepth 20000 in
theorem gX8_dropFrom_X2_keep : GoodIn wsX8_dropFrom (wsV RX8 76 RX2 yX2_keep wsX2_keep) := goodIn_app (goodIn_of _ (by decide +kernel)) ggX8_dropFrom_X2_keep
set_option maxRecDepth 20000 in
theorem ggX8_dropFrom_X7_remove : GoodIn wsX8_dropFrom wsX7_remove := goodIn_r _ [60, 8, 39, 61, 38, 62, 4, 5, 6, 7, 63, 64, 65, 66, 67, 68, 69, 48, 70, 50, 71, 72, 73, 74, 75, 76, 77, 78, 219, 220, 221, 222, 223, 231] (by decide +kernel) (by decide +kernel)
set_option maxRecDepth 20000 in
theorem gX8_dropFrom_X7_remove : GoodIn wsX8_dropFrom (wsV RX8 264 RX7 yX7_remove wsX7_remove) := goodIn_app (goodIn_of _ (by decide +kernel)) ggX8_dropFrom_X7_remove
set_option maxRecDepth 20000 in
theorem ggX8_dropFrom_X8_workOut : GoodIn wsX8_dropFrom wsX8_workOut := goodIn_r _ [83, 84, 2, 85, 86, 87, 88, 89, 90, 91, 92, 93, 94, 95, 96, 97, 98, 99, 6, 100, 8, 101, 102, 103, 104, 105, 106, 107, 108, 109, 110, 111, 27, 112, 30, 32, 31, 113, 114, 115, 116, 61, 39, 38, 67, 68, 69, 48, 70, 50, 117, 72, 73, 74, 118, 119, 120, 121, 122, 123, 124, 125, 126, 127, 128, 129, 130, 131, 132, 133, 134, 135, 136, 137, 138, 139, 140, 141, 142, 143, 144, 145, 146, 147, 148, 149, 150, 151, 152, 153, 154, 155, 156, 157, 158, 159, 160, 161, 162, 163, 164, 165, 166, 167, 168, 169, 170, 171, 172, 173, 174, 175, 29, 176, 64, 65, 66, 177, 76, 77, 78, 178, 179, 180, 181, 182, 183, 184, 185, 186, 187, 188, 189, 190, 191, 192, 193, 194, 195, 196, 197, 198, 199, 200, 201, 202, 203, 204, 205, 206, 207, 208, 209, 210, 212, 213, 214, 215, 216, 217, 218, 226, 227, 228, 229, 230, 232, 233, 234, 235, 236, 219, 220, 221, 222, 223, 231, 237, 238, 239, 240, 241, 242, 243, 244, 245, 246, 247] (by decide +kernel) (by decide +kernel)
set_option maxRecDepth 20000 in
theorem gX8_dropFrom_X8_workOut : GoodIn wsX8_dropFrom (wsV RX8 91 RX8 yX8_workOut wsX8_workOut) := goodIn_app (goodIn_of _ (by decide +kernel)) ggX8_dropFrom_X8_workOut
set_option maxRecDepth 20000 in
theorem ggX8_dropFrom_X7_size : GoodIn wsX8_dropFrom wsX7_size := goodIn_r _ [100, 8, 219, 220, 221, 222, 223] (by decide +kernel) (by decide +kernel)
set_option maxRecDepth 20000 in
theorem gX8_dropFrom_X7_size : GoodIn wsX8_dropFrom (wsV RX8 94 RX7 yX7_size wsX7_size) := goodIn_app (goodIn_of _ (by decide +kernel)) ggX8_dropFrom_X7_size
theorem dX8_dropFrom_0 : decode cX8_dropFrom 0 = .ok (.aload_n 1, 1) := by decide +kernel
theorem dX8_dropFrom_1 : decode cX8_dropFrom 1 = .ok (.iload_n 2, 1) := by decide +kernel
theorem dX8_dropFrom_2 : decode cX8_dropFrom 2 = .ok (.invokevirtual 158, 3) := by decide +kernel
theorem dX8_dropFrom_5 : decode cX8_dropFrom 5 = .ok (.ifCond .ne 6, 3) := by decide +kernel
theorem dX8_dropFrom_8 : decode cX8_dropFrom 8 = .ok (.bipush (-11), 2) := by decide +kernel
theorem dX8_dropFrom_10 : decode cX8_dropFrom 10 = .ok (.ireturn, 1) := by decide +kernel
theorem dX8_dropFrom_11 : decode cX8_dropFrom 11 = .ok (.aload_n 0, 1) := by decide +kernel
theorem dX8_dropFrom_12 : decode cX8_dropFrom 12 = .ok (.getfield 26, 3) := by decide +kernel
theorem dX8_dropFrom_15 : decode cX8_dropFrom 15 = .ok (.aload_n 0, 1) := by decide +kernel
theorem dX8_dropFrom_16 : decode cX8_dropFrom 16 = .ok (.getfield 19, 3) := by decide +kernel
theorem dX8_dropFrom_19 : decode cX8_dropFrom 19 = .ok (.invokevirtual 76, 3) := by decide +kernel
theorem dX8_dropFrom_22 : decode cX8_dropFrom 22 = .ok (.aload_n 1, 1) := by decide +kernel
theorem dX8_dropFrom_23 : decode cX8_dropFrom 23 = .ok (.iload_n 2, 1) := by decide +kernel
theorem dX8_dropFrom_24 : decode cX8_dropFrom 24 = .ok (.invokevirtual 264, 3) := by decide +kernel
theorem dX8_dropFrom_27 : decode cX8_dropFrom 27 = .ok (.aload_n 0, 1) := by decide +kernel
theorem dX8_dropFrom_28 : decode cX8_dropFrom 28 = .ok (.invokevirtual 91, 3) := by decide +kernel
theorem dX8_dropFrom_31 : decode cX8_dropFrom 31 = .ok (.aload_n 1, 1) := by decide +kernel
theorem dX8_dropFrom_32 : decode cX8_dropFrom 32 = .ok (.invokevirtual 94, 3) := by decide +kernel
theorem dX8_dropFrom_35 : decode cX8_dropFrom 35 = .ok (.ireturn, 1) := by decide +kernel
set_option maxRecDepth 20000 in
theorem ggX8_hiddenWord_X4_isHidden : GoodIn wsX8_hiddenWord wsX4_isHidden := goodIn_r _ [8, 9, 10, 11, 12, 13, 14, 15, 63, 64, 65, 66, 67, 68, 69, 70, 71, 72] (by decide +kernel) (by decide +kernel)
set_option maxRecDepth 20000 in
theorem gX8_hiddenWord_X4_isHidden : GoodIn wsX8_hiddenWord (wsV RX8 170 RX4 yX4_isHidden wsX4_isHidden) := goodIn_app (goodIn_of _ (by decide +kernel)) ggX8_hiddenWord_X4_isHidden
set_option maxRecDepth 20000 in
theorem ggX8_hiddenWord_X4_shownWidthOf : GoodIn wsX8_hiddenWord wsX4_shownWidthOf := goodIn_r _ [19, 20, 10, 11, 12, 13, 14, 15, 63, 64, 65, 66, 67, 68, 69, 70, 71, 72] (by decide +kernel) (by decide +kernel)
set_option maxRecDepth 20000 in
theorem gX8_hiddenWord_X4_shownWidthOf : GoodIn wsX8_hiddenWord (wsV RX8 167 RX4 yX4_shownWidthOf wsX4_shownWidthOf) := goodIn_app (goodIn_of _ (by decide +kernel)) ggX8_hiddenWord_X4_shownWidthOf
set_option maxRecDepth 20000 in
theorem ggX8_hiddenWord_X0_namesUnder : GoodIn wsX8_hiddenWord wsX0_namesUnder := goodIn_r _ [25, 26, 27, 28, 29, 30, 31, 32, 33, 34, 11, 12, 13, 14, 15, 35, 36, 37, 38, 39, 73, 74, 75, 76, 77, 78, 79, 72] (by decide +kernel) (by decide +kernel)
set_option maxRecDepth 20000 in
theorem gX8_hiddenWord_X0_namesUnder : GoodIn wsX8_hiddenWord (wsV RX8 215 RX0 yX0_namesUnder wsX0_namesUnder) := goodIn_app (goodIn_of _ (by decide +kernel)) ggX8_hiddenWord_X0_namesUnder
set_option maxRecDepth 20000 in
theorem ggX8_hiddenWord_X4_formOf : GoodIn wsX8_hiddenWord wsX4_formOf := goodIn_r _ [43, 9, 10, 11, 12, 13, 14, 15, 63, 64, 65, 66, 67, 68, 69, 70, 71, 72] (by decide +kernel) (by decide +kernel)
set_option maxRecDepth 20000 in
theorem gX8_hiddenWord_X4_formOf : GoodIn wsX8_hiddenWord (wsV RX8 267 RX4 yX4_formOf wsX4_formOf) := goodIn_app (goodIn_of _ (by decide +kernel)) ggX8_hiddenWord_X4_formOf
set_option maxRecDepth 20000 in
theorem ggX8_hiddenWord_X1_nameOf : GoodIn wsX8_hiddenWord wsX1_nameOf := goodIn_r _ [38, 39, 75, 76, 77, 78, 79] (by decide +kernel) (by decide +kernel)
set_option maxRecDepth 20000 in
theorem gX8_hiddenWord_X1_nameOf : GoodIn wsX8_hiddenWord (wsV RX8 270 RX1 yX1_nameOf wsX1_nameOf) := goodIn_app (goodIn_of _ (by decide +kernel)) ggX8_hiddenWord_X1_nameOf
set_option maxRecDepth 20000 in
theorem ggX8_hiddenWord_X1_endingOf : GoodIn wsX8_hiddenWord wsX1_endingOf := goodIn_r _ [48, 39, 75, 76, 77, 78, 79] (by decide +kernel) (by decide +kernel)
set_option maxRecDepth 20000 in
theorem gX8_hiddenWord_X1_endingOf : GoodIn wsX8_hiddenWord (wsV RX8 273 RX1 yX1_endingOf wsX1_endingOf) := goodIn_app (goodIn_of _ (by decide +kernel)) ggX8_hiddenWord_X1_endingOf
set_option maxRecDepth 20000 in
theorem ggX8_hiddenWord_J6_bitCount_0f7a4 : GoodIn wsX8_hiddenWord wsJ6_bitCount_0f7a4 := goodIn_r _ [52, 53, 54, 55] (by decide +kernel) (by decide +kernel)
set_option maxRecDepth 20000 in
theorem gX8_hiddenWord_J6_bitCount_0f7a4 : GoodIn wsX8_hiddenWord (va_wsS RX8 276 yJ6_bitCount_0f7a4 wsJ6_bitCount_0f7a4) := goodIn_app (goodIn_of _ (by decide +kernel)) ggX8_hiddenWord_J6_bitCount_0f7a4
theorem dX8_hiddenWord_0 : decode cX8_hiddenWord 0 = .ok (.aload_n 0, 1) := by decide +kernel
theorem dX8_hiddenWord_1 : decode cX8_hiddenWord 1 = .ok (.getfield 54, 3) := by decide +kernel
theorem dX8_hiddenWord_4 : decode cX8_hiddenWord 4 = .ok (.iload_n 1, 1) := by decide +kernel
theorem dX8_hiddenWord_5 : decode cX8_hiddenWord 5 = .ok (.invokevirtual 170, 3) := by decide +kernel
theorem dX8_hiddenWord_8 : decode cX8_hiddenWord 8 = .ok (.ifCond .ne 6, 3) := by decide +kernel
theorem dX8_hiddenWord_11 : decode cX8_hiddenWord 11 = .ok (.bipush (-14), 2) := by decide +kernel
theorem dX8_hiddenWord_13 : decode cX8_hiddenWord 13 = .ok (.ireturn, 1) := by decide +kernel
theorem dX8_hiddenWord_14 : decode cX8_hiddenWord 14 = .ok (.aload_n 0, 1) := by decide +kernel
theorem dX8_hiddenWord_15 : decode cX8_hiddenWord 15 = .ok (.getfield 42, 3) := by decide +kernel
theorem dX8_hiddenWord_18 : decode cX8_hiddenWord 18 = .ok (.aload_n 0, 1) := by decide +kernel
theorem dX8_hiddenWord_19 : decode cX8_hiddenWord 19 = .ok (.getfield 54, 3) := by decide +kernel
theorem dX8_hiddenWord_22 : decode cX8_hiddenWord 22 = .ok (.iload_n 1, 1) := by decide +kernel
theorem dX8_hiddenWord_23 : decode cX8_hiddenWord 23 = .ok (.invokevirtual 167, 3) := by decide +kernel
theorem dX8_hiddenWord_26 : decode cX8_hiddenWord 26 = .ok (.invokevirtual 215, 3) := by decide +kernel
theorem dX8_hiddenWord_29 : decode cX8_hiddenWord 29 = .ok (.istore_n 3, 1) := by decide +kernel
theorem dX8_hiddenWord_30 : decode cX8_hiddenWord 30 = .ok (.iload_n 2, 1) := by decide +kernel
theorem dX8_hiddenWord_31 : decode cX8_hiddenWord 31 = .ok (.tableswitch 67 4 8 #[33, 49, 67, 67, 65], 33) := by decide +kernel
theorem dX8_hiddenWord_64 : decode cX8_hiddenWord 64 = .ok (.aload_n 0, 1) := by decide +kernel
theorem dX8_hiddenWord_65 : decode cX8_hiddenWord 65 = .ok (.getfield 33, 3) := by decide +kernel
theorem dX8_hiddenWord_68 : decode cX8_hiddenWord 68 = .ok (.aload_n 0, 1) := by decide +kernel
theorem dX8_hiddenWord_69 : decode cX8_hiddenWord 69 = .ok (.getfield 54, 3) := by decide +kernel
theorem dX8_hiddenWord_72 : decode cX8_hiddenWord 72 = .ok (.iload_n 1, 1) := by decide +kernel
theorem dX8_hiddenWord_73 : decode cX8_hiddenWord 73 = .ok (.invokevirtual 267, 3) := by decide +kernel
theorem dX8_hiddenWord_76 : decode cX8_hiddenWord 76 = .ok (.invokevirtual 270, 3) := by decide +kernel
theorem dX8_hiddenWord_79 : decode cX8_hiddenWord 79 = .ok (.ireturn, 1) := by decide +kernel
theorem dX8_hiddenWord_80 : decode cX8_hiddenWord 80 = .ok (.aload_n 0, 1) := by decide +kernel
theorem dX8_hiddenWord_81 : decode cX8_hiddenWord 81 = .ok (.getfield 33, 3) := by decide +kernel
theorem dX8_hiddenWord_84 : decode cX8_hiddenWord 84 = .ok (.aload_n 0, 1) := by decide +kernel
theorem dX8_hiddenWord_85 : decode cX8_hiddenWord 85 = .ok (.getfield 54, 3) := by decide +kernel
theorem dX8_hiddenWord_88 : decode cX8_hiddenWord 88 = .ok (.iload_n 1, 1) := by decide +kernel
theorem dX8_hiddenWord_89 : decode cX8_hiddenWord 89 = .ok (.invokevirtual 267, 3) := by decide +kernel
theorem dX8_hiddenWord_92 : decode cX8_hiddenWord 92 = .ok (.invokevirtual 273, 3) := by decide +kernel
theorem dX8_hiddenWord_95 : decode cX8_hiddenWord 95 = .ok (.ireturn, 1) := by decide +kernel
theorem dX8_hiddenWord_96 : decode cX8_hiddenWord 96 = .ok (.iload_n 3, 1) := by decide +kernel
theorem dX8_hiddenWord_97 : decode cX8_hiddenWord 97 = .ok (.ireturn, 1) := by decide +kernel
theorem dX8_hiddenWord_98 : decode cX8_hiddenWord 98 = .ok (.iload_n 3, 1) := by decide +kernel
theorem dX8_hiddenWord_99 : decode cX8_hiddenWord 99 = .ok (.invokestatic 276, 3) := by decide +kernel
theorem dX8_hiddenWord_102 : decode cX8_hiddenWord 102 = .ok (.ireturn, 1) := by decide +kernel
theorem dX8_isLetter_0 : decode cX8_isLetter 0 = .ok (.iload_n 0, 1) := by decide +kernel
theorem dX8_isLetter_1 : decode cX8_isLetter 1 = .ok (.bipush 97, 2) := by decide +kernel
theorem dX8_isLetter_3 : decode cX8_isLetter 3 = .ok (.if_icmp .lt 13, 3) := by decide +kernel
theorem dX8_isLetter_6 : decode cX8_isLetter 6 = .ok (.iload_n 0, 1) := by decide +kernel
theorem dX8_isLetter_7 : decode cX8_isLetter 7 = .ok (.bipush 122, 2) := by decide +kernel
theorem dX8_isLetter_9 : decode cX8_isLetter 9 = .ok (.if_icmp .gt 7, 3) := by decide +kernel
theorem dX8_isLetter_12 : decode cX8_isLetter 12 = .ok (.iconst 1, 1) := by decide +kernel
theorem dX8_isLetter_13 : decode cX8_isLetter 13 = .ok (.goto 4, 3) := by decide +kernel
theorem dX8_isLetter_16 : decode cX8_isLetter 16 = .ok (.iconst 0, 1) := by decide +kernel
theorem dX8_isLetter_17 : decode cX8_isLetter 17 = .ok (.ireturn, 1) := by decide +kernel
theorem dJ6_bitCount_0f7a4_0 : decode cJ6_bitCount_0f7a4 0 = .ok (.iload_n 0, 1) := by decide +kernel
theorem dJ6_bitCount_0f7a4_1 : decode cJ6_bitCount_0f7a4 1 = .ok (.iload_n 0, 1) := by decide +kernel
theorem dJ6_bitCount_0f7a4_2 : decode cJ6_bitCount_0f7a4 2 = .ok (.iconst 1, 1) := by decide +kernel
theorem dJ6_bitCount_0f7a4_3 : decode cJ6_bitCount_0f7a4 3 = .ok (.iushr, 1) := by decide +kernel
theorem dJ6_bitCount_0f7a4_4 : decode cJ6_bitCount_0f7a4 4 = .ok (.ldc_w 265, 3) := by decide +kernel
theorem dJ6_bitCount_0f7a4_7 : decode cJ6_bitCount_0f7a4 7 = .ok (.iand, 1) := by decide +kernel
theorem dJ6_bitCount_0f7a4_8 : decode cJ6_bitCount_0f7a4 8 = .ok (.isub, 1) := by decide +kernel
theorem dJ6_bitCount_0f7a4_9 : decode cJ6_bitCount_0f7a4 9 = .ok (.istore_n 0, 1) := by decide +kernel
theorem dJ6_bitCount_0f7a4_10 : decode cJ6_bitCount_0f7a4 10 = .ok (.iload_n 0, 1) := by decide +kernel
theorem dJ6_bitCount_0f7a4_11 : decode cJ6_bitCount_0f7a4 11 = .ok (.ldc_w 266, 3) := by decide +kernel
theorem dJ6_bitCount_0f7a4_14 : decode cJ6_bitCount_0f7a4 14 = .ok (.iand, 1) := by decide +kernel
theorem dJ6_bitCount_0f7a4_15 : decode cJ6_bitCount_0f7a4 15 = .ok (.iload_n 0, 1) := by decide +kernel
theorem dJ6_bitCount_0f7a4_16 : decode cJ6_bitCount_0f7a4 16 = .ok (.iconst 2, 1) := by decide +kernel
theorem dJ6_bitCount_0f7a4_17 : decode cJ6_bitCount_0f7a4 17 = .ok (.iushr, 1) := by decide +kernel
theorem dJ6_bitCount_0f7a4_18 : decode cJ6_bitCount_0f7a4 18 = .ok (.ldc_w 266, 3) := by decide +kernel
theorem dJ6_bitCount_0f7a4_21 : decode cJ6_bitCount_0f7a4 21 = .ok (.iand, 1) := by decide +kernel
theorem dJ6_bitCount_0f7a4_22 : decode cJ6_bitCount_0f7a4 22 = .ok (.iadd, 1) := by decide +kernel
theorem dJ6_bitCount_0f7a4_23 : decode cJ6_bitCount_0f7a4 23 = .ok (.istore_n 0, 1) := by decide +kernel
theorem dJ6_bitCount_0f7a4_24 : decode cJ6_bitCount_0f7a4 24 = .ok (.iload_n 0, 1) := by decide +kernel
theorem dJ6_bitCount_0f7a4_25 : decode cJ6_bitCount_0f7a4 25 = .ok (.iload_n 0, 1) := by decide +kernel
theorem dJ6_bitCount_0f7a4_26 : decode cJ6_bitCount_0f7a4 26 = .ok (.iconst 4, 1) := by decide +kernel
theorem dJ6_bitCount_0f7a4_27 : decode cJ6_bitCount_0f7a4 27 = .ok (.iushr, 1) := by decide +kernel
theorem dJ6_bitCount_0f7a4_28 : decode cJ6_bitCount_0f7a4 28 = .ok (.iadd, 1) := by decide +kernel
theorem dJ6_bitCount_0f7a4_29 : decode cJ6_bitCount_0f7a4 29 = .ok (.ldc_w 267, 3) := by decide +kernel
theorem dJ6_bitCount_0f7a4_32 : decode cJ6_bitCount_0f7a4 32 = .ok (.iand, 1) := by decide +kernel
theorem dJ6_bitCount_0f7a4_33 : decode cJ6_bitCount_0f7a4 33 = .ok (.istore_n 0, 1) := by decide +kernel
theorem dJ6_bitCount_0f7a4_34 : decode cJ6_bitCount_0f7a4 34 = .ok (.iload_n 0, 1) := by decide +kernel
theorem dJ6_bitCount_0f7a4_35 : decode cJ6_bitCount_0f7a4 35 = .ok (.iload_n 0, 1) := by decide +kernel
theorem dJ6_bitCount_0f7a4_36 : decode cJ6_bitCount_0f7a4 36 = .ok (.bipush 8, 2) := by decide +kernel
theorem dJ6_bitCount_0f7a4_38 : decode cJ6_bitCount_0f7a4 38 = .ok (.iushr, 1) := by decide +kernel
theorem dJ6_bitCount_0f7a4_39 : decode cJ6_bitCount_0f7a4 39 = .ok (.iadd, 1) := by decide +kernel
theorem dJ6_bitCount_0f7a4_40 : decode cJ6_bitCount_0f7a4 40 = .ok (.istore_n 0, 1) := by decide +kernel
theorem dJ6_bitCount_0f7a4_41 : decode cJ6_bitCount_0f7a4 41 = .ok (.iload_n 0, 1) := by decide +kernel
theorem dJ6_bitCount_0f7a4_42 : decode cJ6_bitCount_0f7a4 42 = .ok (.iload_n 0, 1) := by decide +kernel
theorem dJ6_bitCount_0f7a4_43 : decode cJ6_bitCount_0f7a4 43 = .ok (.bipush 16, 2) := by decide +kernel
theorem dJ6_bitCount_0f7a4_45 : decode cJ6_bitCount_0f7a4 45 = .ok (.iushr, 1) := by decide +kernel
theorem dJ6_bitCount_0f7a4_46 : decode cJ6_bitCount_0f7a4 46 = .ok (.iadd, 1) := by decide +kernel
theorem dJ6_bitCount_0f7a4_47 : decode cJ6_bitCount_0f7a4 47 = .ok (.istore_n 0, 1) := by decide +kernel
theorem dJ6_bitCount_0f7a4_48 : decode cJ6_bitCount_0f7a4 48 = .ok (.iload_n 0, 1) := by decide +kernel
theorem dJ6_bitCount_0f7a4_49 : decode cJ6_bitCount_0f7a4 49 = .ok (.bipush 63, 2) := by decide +kernel
theorem dJ6_bitCount_0f7a4_51 : decode cJ6_bitCount_0f7a4 51 = .ok (.iand, 1) := by decide +kernel
theorem dJ6_bitCount_0f7a4_52 : decode cJ6_bitCount_0f7a4 52 = .ok (.ireturn, 1) := by decide +kernel
theorem dJ9_max_7cf53_0 : decode cJ9_max_7cf53 0 = .ok (.iload_n 0, 1) := by decide +kernel
theorem dJ9_max_7cf53_1 : decode cJ9_max_7cf53 1 = .ok (.iload_n 1, 1) := by decide +kernel
theorem dJ9_max_7cf53_2 : decode cJ9_max_7cf53 2 = .ok (.if_icmp .lt 7, 3) := by decide +kernel
theorem dJ9_max_7cf53_5 : decode cJ9_max_7cf53 5 = .ok (.iload_n 0, 1) := by decide +kernel
theorem dJ9_max_7cf53_6 : decode cJ9_max_7cf53 6 = .ok (.goto 4, 3) := by decide +kernel
theorem dJ9_max_7cf53_9 : decode cJ9_max_7cf53 9 = .ok (.iload_n 1, 1) := by decide +kernel
theorem dJ9_max_7cf53_10 : decode cJ9_max_7cf53 10 = .ok (.ireturn, 1) := by decide +kernel
theorem dJ9_min_7cf53_0 : decode cJ9_min_7cf53 0 = .ok (.iload_n 0, 1) := by decide +kernel
theorem dJ9_min_7cf53_1 : decode cJ9_min_7cf53 1 = .ok (.iload_n 1, 1) := by decide +kernel
theorem dJ9_min_7cf53_2 : decode cJ9_min_7cf53 2 = .ok (.if_icmp .gt 7, 3) := by decide +kernel
theorem dJ9_min_7cf53_5 : decode cJ9_min_7cf53 5 = .ok (.iload_n 0, 1) := by decide +kernel
theorem dJ9_min_7cf53_6 : decode cJ9_min_7cf53 6 = .ok (.goto 4, 3) := by decide +kernel
theorem dJ9_min_7cf53_9 : decode cJ9_min_7cf53 9 = .ok (.iload_n 1, 1) := by decide +kernel
theorem dJ9_min_7cf53_10 : decode cJ9_min_7cf53 10 = .ok (.ireturn, 1) := by decide +kernel
theorem dL_cell_0 : decode cL_cell 0 = .ok (.iload_n 1, 1) := by decide +kernel
theorem dL_cell_1 : decode cL_cell 1 = .ok (.aload_n 0, 1) := by decide +kernel
theorem dL_cell_2 : decode cL_cell 2 = .ok (.arraylength, 1) := by decide +kernel
theorem dL_cell_3 : decode cL_cell 3 = .ok (.if_icmp .ge 9, 3) := by decide +kernel
theorem dL_cell_6 : decode cL_cell 6 = .ok (.aload_n 0, 1) := by decide +kernel
theorem dL_cell_7 : decode cL_cell 7 = .ok (.iload_n 1, 1) := by decide +kernel
theorem dL_cell_8 : decode cL_cell 8 = .ok (.iaload, 1) := by decide +kernel
theorem dL_cell_9 : decode cL_cell 9 = .ok (.goto 9, 3) := by decide +kernel
theorem dL_cell_12 : decode cL_cell 12 = .ok (.ldc 7, 2) := by decide +kernel
theorem dL_cell_14 : decode cL_cell 14 = .ok (.iload_n 1, 1) := by decide +kernel
theorem dL_cell_15 : decode cL_cell 15 = .ok (.iconst 3, 1) := by decide +kernel
theorem dL_cell_16 : decode cL_cell 16 = .ok (.iadd, 1) := by decide +kernel
theorem dL_cell_17 : decode cL_cell 17 = .ok (.imul, 1) := by decide +kernel
theorem dL_cell_18 : decode cL_cell 18 = .ok (.ireturn, 1) := by decide +kernel
theorem dL_low_0 : decode cL_low 0 = .ok (.iload_n 0, 1) := by decide +kernel
theorem dL_low_1 : decode cL_low 1 = .ok (.ldc 8, 2) := by decide +kernel
theorem dL_low_3 : decode cL_low 3 = .ok (.iand, 1) := by decide +kernel
theorem dL_low_4 : decode cL_low 4 = .ok (.iload_n 1, 1) := by decide +kernel
theorem dL_low_5 : decode cL_low 5 = .ok (.irem, 1) := by decide +kernel
theorem dL_low_6 : decode cL_low 6 = .ok (.ireturn, 1) := by decide +kernel
theorem dL_length_0 : decode cL_length 0 = .ok (.iconst 0, 1) := by decide +kernel
theorem dL_length_1 : decode cL_length 1 = .ok (.istore_n 2, 1) := by decide +kernel
theorem dL_length_2 : decode cL_length 2 = .ok (.lload_n 0, 1) := by decide +kernel
theorem dL_length_3 : decode cL_length 3 = .ok (.iconst 5, 1) := by decide +kernel
theorem dL_length_4 : decode cL_length 4 = .ok (.iload_n 2, 1) := by decide +kernel
theorem dL_length_5 : decode cL_length 5 = .ok (.imul, 1) := by decide +kernel
theorem dL_length_6 : decode cL_length 6 = .ok (.lshr, 1) := by decide +kernel
theorem dL_length_7 : decode cL_length 7 = .ok (.lconst 0, 1) := by decide +kernel
theorem dL_length_8 : decode cL_length 8 = .ok (.lcmp, 1) := by decide +kernel
theorem dL_length_9 : decode cL_length 9 = .ok (.ifCond .le 9, 3) := by decide +kernel
theorem dL_length_12 : decode cL_length 12 = .ok (.iinc 2 1, 3) := by decide +kernel
theorem dL_length_15 : decode cL_length 15 = .ok (.goto (-13), 3) := by decide +kernel
theorem dL_length_18 : decode cL_length 18 = .ok (.iload_n 2, 1) := by decide +kernel
theorem dL_length_19 : decode cL_length 19 = .ok (.ireturn, 1) := by decide +kernel
set_option maxRecDepth 20000 in
theorem ggL_width_L_length : GoodIn wsL_width wsL_length := goodIn_r _ [5] (by decide +kernel) (by decide +kernel)
set_option maxRecDepth 20000 in
theorem gL_width_L_length : GoodIn wsL_width (va_wsS RL 9 yL_length wsL_length) := goodIn_app (goodIn_of _ (by decide +kernel)) ggL_width_L_length
theorem dL_width_0 : decode cL_width 0 = .ok (.iconst 0, 1) := by decide +kernel
theorem dL_width_1 : decode cL_width 1 = .ok (.istore_n 3, 1) := by decide +kernel
theorem dL_width_2 : decode cL_width 2 = .ok (.lload_n 1, 1) := by decide +kernel
theorem dL_width_3 : decode cL_width 3 = .ok (.invokestatic 9, 3) := by decide +kernel
theorem dL_width_6 : decode cL_width 6 = .ok (.iconst 1, 1) := by decide +kernel
theorem dL_width_7 : decode cL_width 7 = .ok (.isub, 1) := by decide +kernel
theorem dL_width_8 : decode cL_width 8 = .ok (.istore 4, 2) := by decide +kernel
theorem dL_width_10 : decode cL_width 10 = .ok (.iload 4, 2) := by decide +kernel
theorem dL_width_12 : decode cL_width 12 = .ok (.ifCond .lt 27, 3) := by decide +kernel
theorem dL_width_15 : decode cL_width 15 = .ok (.iload_n 3, 1) := by decide +kernel
theorem dL_width_16 : decode cL_width 16 = .ok (.aload_n 0, 1) := by decide +kernel
theorem dL_width_17 : decode cL_width 17 = .ok (.lload_n 1, 1) := by decide +kernel
theorem dL_width_18 : decode cL_width 18 = .ok (.iconst 5, 1) := by decide +kernel
theorem dL_width_19 : decode cL_width 19 = .ok (.iload 4, 2) := by decide +kernel
theorem dL_width_21 : decode cL_width 21 = .ok (.imul, 1) := by decide +kernel
theorem dL_width_22 : decode cL_width 22 = .ok (.lshr, 1) := by decide +kernel
theorem dL_width_23 : decode cL_width 23 = .ok (.ldc2_w 15, 3) := by decide +kernel
theorem dL_width_26 : decode cL_width 26 = .ok (.land, 1) := by decide +kernel
theorem dL_width_27 : decode cL_width 27 = .ok (.l2i, 1) := by decide +kernel
theorem dL_width_28 : decode cL_width 28 = .ok (.iconst 1, 1) := by decide +kernel
theorem dL_width_29 : decode cL_width 29 = .ok (.isub, 1) := by decide +kernel
theorem dL_width_30 : decode cL_width 30 = .ok (.iaload, 1) := by decide +kernel
theorem dL_width_31 : decode cL_width 31 = .ok (.iadd, 1) := by decide +kernel
theorem dL_width_32 : decode cL_width 32 = .ok (.istore_n 3, 1) := by decide +kernel
theorem dL_width_33 : decode cL_width 33 = .ok (.iinc 4 (-1), 3) := by decide +kernel
theorem dL_width_36 : decode cL_width 36 = .ok (.goto (-26), 3) := by decide +kernel
theorem dL_width_39 : decode cL_width 39 = .ok (.iload_n 3, 1) := by decide +kernel
theorem dL_width_40 : decode cL_width 40 = .ok (.ireturn, 1) := by decide +kernel
set_option maxRecDepth 20000 in
theorem ggL_form_L_length : GoodIn wsL_form wsL_length := goodIn_r _ [4] (by decide +kernel) (by decide +kernel)
set_option maxRecDepth 20000 in
theorem gL_form_L_length : GoodIn wsL_form (va_wsS RL 9 yL_length wsL_length) := goodIn_app (goodIn_of _ (by decide +kernel)) ggL_form_L_length
theorem dL_form_0 : decode cL_form 0 = .ok (.iload_n 2, 1) := by decide +kernel
theorem dL_form_1 : decode cL_form 1 = .ok (.iconst 3, 1) := by decide +kernel
theorem dL_form_2 : decode cL_form 2 = .ok (.irem, 1) := by decide +kernel
theorem dL_form_3 : decode cL_form 3 = .ok (.iconst 1, 1) := by decide +kernel
theorem dL_form_4 : decode cL_form 4 = .ok (.isub, 1) := by decide +kernel
theorem dL_form_5 : decode cL_form 5 = .ok (.istore_n 3, 1) := by decide +kernel
theorem dL_form_6 : decode cL_form 6 = .ok (.iload_n 2, 1) := by decide +kernel
theorem dL_form_7 : decode cL_form 7 = .ok (.iconst 3, 1) := by decide +kernel
theorem dL_form_8 : decode cL_form 8 = .ok (.idiv, 1) := by decide +kernel
theorem dL_form_9 : decode cL_form 9 = .ok (.aload_n 0, 1) := by decide +kernel
theorem dL_form_10 : decode cL_form 10 = .ok (.bipush 6, 2) := by decide +kernel
theorem dL_form_12 : decode cL_form 12 = .ok (.iaload, 1) := by decide +kernel
