theorem dX8_clearText_0 : decode cX8_clearText 0 = .ok (.aload_n 0, 1) := by decide +kernel
theorem dX8_clearText_1 : decode cX8_clearText 1 = .ok (.getfield 12, 3) := by decide +kernel
theorem dX8_clearText_4 : decode cX8_clearText 4 = .ok (.invokevirtual 58, 3) := by decide +kernel
theorem dX8_clearText_7 : decode cX8_clearText 7 = .ok (.istore_n 1, 1) := by decide +kernel
theorem dX8_clearText_8 : decode cX8_clearText 8 = .ok (.aload_n 0, 1) := by decide +kernel
theorem dX8_clearText_9 : decode cX8_clearText 9 = .ok (.getfield 12, 3) := by decide +kernel
theorem dX8_clearText_12 : decode cX8_clearText 12 = .ok (.invokevirtual 66, 3) := by decide +kernel
theorem dX8_clearText_15 : decode cX8_clearText 15 = .ok (.iload_n 1, 1) := by decide +kernel
theorem dX8_clearText_16 : decode cX8_clearText 16 = .ok (.ireturn, 1) := by decide +kernel
set_option maxRecDepth 20000 in
theorem ggX8_fault_X6_faultIndex : GoodIn wsX8_fault wsX6_faultIndex := goodIn_r _ [6, 7, 8, 9, 10, 5, 11, 12, 13, 14, 15, 16, 17, 18, 19, 20, 21, 22, 23, 24, 25, 26, 27, 28, 29, 38, 39, 40] (by decide +kernel) (by decide +kernel)
set_option maxRecDepth 20000 in
theorem gX8_fault_X6_faultIndex : GoodIn wsX8_fault (wsV RX8 69 RX6 yX6_faultIndex wsX6_faultIndex) := goodIn_app (goodIn_of _ (by decide +kernel)) ggX8_fault_X6_faultIndex
set_option maxRecDepth 20000 in
theorem ggX8_fault_X6_faultReason : GoodIn wsX8_fault wsX6_faultReason := goodIn_r _ [11, 12, 7, 13, 14, 15, 16, 17, 18, 19, 20, 21, 5, 22, 23, 24, 25, 26, 27, 28, 29, 38, 39, 40] (by decide +kernel) (by decide +kernel)
set_option maxRecDepth 20000 in
theorem gX8_fault_X6_faultReason : GoodIn wsX8_fault (wsV RX8 72 RX6 yX6_faultReason wsX6_faultReason) := goodIn_app (goodIn_of _ (by decide +kernel)) ggX8_fault_X6_faultReason
theorem dX8_fault_0 : decode cX8_fault 0 = .ok (.iload_n 1, 1) := by decide +kernel
theorem dX8_fault_1 : decode cX8_fault 1 = .ok (.ifCond .lt 8, 3) := by decide +kernel
theorem dX8_fault_4 : decode cX8_fault 4 = .ok (.iload_n 1, 1) := by decide +kernel
theorem dX8_fault_5 : decode cX8_fault 5 = .ok (.iconst 1, 1) := by decide +kernel
theorem dX8_fault_6 : decode cX8_fault 6 = .ok (.if_icmp .le 6, 3) := by decide +kernel
theorem dX8_fault_9 : decode cX8_fault 9 = .ok (.bipush (-11), 2) := by decide +kernel
theorem dX8_fault_11 : decode cX8_fault 11 = .ok (.ireturn, 1) := by decide +kernel
theorem dX8_fault_12 : decode cX8_fault 12 = .ok (.aload_n 0, 1) := by decide +kernel
theorem dX8_fault_13 : decode cX8_fault 13 = .ok (.getfield 12, 3) := by decide +kernel
theorem dX8_fault_16 : decode cX8_fault 16 = .ok (.invokevirtual 69, 3) := by decide +kernel
theorem dX8_fault_19 : decode cX8_fault 19 = .ok (.istore_n 2, 1) := by decide +kernel
theorem dX8_fault_20 : decode cX8_fault 20 = .ok (.iload_n 2, 1) := by decide +kernel
theorem dX8_fault_21 : decode cX8_fault 21 = .ok (.ifCond .ge 6, 3) := by decide +kernel
theorem dX8_fault_24 : decode cX8_fault 24 = .ok (.bipush (-14), 2) := by decide +kernel
theorem dX8_fault_26 : decode cX8_fault 26 = .ok (.ireturn, 1) := by decide +kernel
theorem dX8_fault_27 : decode cX8_fault 27 = .ok (.iload_n 1, 1) := by decide +kernel
theorem dX8_fault_28 : decode cX8_fault 28 = .ok (.ifCond .ne 7, 3) := by decide +kernel
theorem dX8_fault_31 : decode cX8_fault 31 = .ok (.iload_n 2, 1) := by decide +kernel
theorem dX8_fault_32 : decode cX8_fault 32 = .ok (.goto 11, 3) := by decide +kernel
theorem dX8_fault_35 : decode cX8_fault 35 = .ok (.aload_n 0, 1) := by decide +kernel
theorem dX8_fault_36 : decode cX8_fault 36 = .ok (.getfield 12, 3) := by decide +kernel
theorem dX8_fault_39 : decode cX8_fault 39 = .ok (.iload_n 2, 1) := by decide +kernel
theorem dX8_fault_40 : decode cX8_fault 40 = .ok (.invokevirtual 72, 3) := by decide +kernel
theorem dX8_fault_43 : decode cX8_fault 43 = .ok (.ireturn, 1) := by decide +kernel
set_option maxRecDepth 20000 in
theorem ggX8_page_X6_faultIndex : GoodIn wsX8_page wsX6_faultIndex := goodIn_r _ [8, 9, 10, 11, 12, 7, 13, 14, 15, 16, 17, 18, 19, 20, 21, 22, 23, 24, 25, 26, 27, 28, 29, 30, 31, 261, 262, 263] (by decide +kernel) (by decide +kernel)
set_option maxRecDepth 20000 in
theorem gX8_page_X6_faultIndex : GoodIn wsX8_page (wsV RX8 69 RX6 yX6_faultIndex wsX6_faultIndex) := goodIn_app (goodIn_of _ (by decide +kernel)) ggX8_page_X6_faultIndex
set_option maxRecDepth 20000 in
theorem ggX8_page_X2_keep : GoodIn wsX8_page wsX2_keep := goodIn_r _ [36, 37, 38, 39, 40, 41, 35, 42, 43, 44, 45, 46, 47, 48, 49, 50, 51, 52, 53, 54, 55, 56, 57, 58, 59, 60, 61, 62, 63, 64, 65, 66, 67, 68, 69, 70, 71, 72, 18, 73, 20, 74, 75, 76, 77, 78, 79, 264, 265, 256, 257, 258, 259, 260, 266, 267, 268, 269, 270, 263] (by decide +kernel) (by decide +kernel)
set_option maxRecDepth 20000 in
theorem gX8_page_X2_keep : GoodIn wsX8_page (wsV RX8 76 RX2 yX2_keep wsX2_keep) := goodIn_app (goodIn_of _ (by decide +kernel)) ggX8_page_X2_keep
set_option maxRecDepth 20000 in
theorem ggX8_page_X7_empty : GoodIn wsX8_page wsX7_empty := goodIn_r _ [83, 65, 266, 267, 268, 269, 270] (by decide +kernel) (by decide +kernel)
set_option maxRecDepth 20000 in
theorem gX8_page_X7_empty : GoodIn wsX8_page (wsV RX8 84 RX7 yX7_empty wsX7_empty) := goodIn_app (goodIn_of _ (by decide +kernel)) ggX8_page_X7_empty
set_option maxRecDepth 20000 in
theorem ggX8_page_X7_addWordsOf : GoodIn wsX8_page wsX7_addWordsOf := goodIn_r _ [87, 88, 89, 90, 7, 91, 9, 92, 93, 94, 95, 14, 15, 16, 17, 18, 19, 20, 25, 26, 27, 96, 97, 98, 60, 99, 65, 64, 63, 100, 101, 102, 103, 104, 105, 106, 107, 108, 62, 109, 110, 111, 112, 113, 261, 262, 263, 266, 267, 268, 269, 270] (by decide +kernel) (by decide +kernel)
set_option maxRecDepth 20000 in
theorem gX8_page_X7_addWordsOf : GoodIn wsX8_page (wsV RX8 87 RX7 yX7_addWordsOf wsX7_addWordsOf) := goodIn_app (goodIn_of _ (by decide +kernel)) ggX8_page_X7_addWordsOf
set_option maxRecDepth 20000 in
theorem ggX8_page_X8_workOut : GoodIn wsX8_page wsX8_workOut := goodIn_r _ [117, 118, 3, 119, 120, 121, 122, 123, 124, 125, 126, 127, 128, 129, 130, 131, 132, 133, 60, 134, 65, 135, 136, 137, 138, 139, 140, 141, 142, 143, 144, 145, 50, 146, 53, 55, 54, 147, 148, 149, 150, 108, 63, 62, 113, 16, 17, 18, 19, 20, 151, 101, 102, 103, 152, 153, 154, 155, 156, 157, 158, 159, 160, 161, 162, 163, 164, 165, 166, 167, 168, 169, 170, 171, 172, 173, 174, 175, 176, 177, 178, 179, 180, 181, 182, 183, 184, 185, 186, 187, 188, 189, 190, 191, 192, 193, 194, 195, 196, 197, 198, 199, 200, 201, 202, 203, 204, 205, 206, 207, 208, 209, 52, 210, 110, 111, 112, 211, 212, 213, 214, 215, 216, 217, 218, 219, 220, 221, 222, 223, 224, 225, 226, 227, 228, 229, 230, 231, 232, 233, 234, 235, 236, 237, 238, 239, 240, 241, 242, 243, 244, 245, 246, 247, 249, 250, 251, 252, 253, 254, 255, 256, 257, 258, 259, 260, 271, 272, 273, 274, 275, 266, 267, 268, 269, 270, 263, 276, 277, 278, 279, 280, 281, 282, 283, 284, 285, 286] (by decide +kernel) (by decide +kernel)
set_option maxRecDepth 20000 in
theorem gX8_page_X8_workOut : GoodIn wsX8_page (wsV RX8 91 RX8 yX8_workOut wsX8_workOut) := goodIn_app (goodIn_of _ (by decide +kernel)) ggX8_page_X8_workOut
set_option maxRecDepth 20000 in
theorem ggX8_page_X7_size : GoodIn wsX8_page wsX7_size := goodIn_r _ [134, 65, 266, 267, 268, 269, 270] (by decide +kernel) (by decide +kernel)
set_option maxRecDepth 20000 in
theorem gX8_page_X7_size : GoodIn wsX8_page (wsV RX8 94 RX7 yX7_size wsX7_size) := goodIn_app (goodIn_of _ (by decide +kernel)) ggX8_page_X7_size
theorem dX8_page_0 : decode cX8_page 0 = .ok (.aload_n 0, 1) := by decide +kernel
theorem dX8_page_1 : decode cX8_page 1 = .ok (.getfield 12, 3) := by decide +kernel
theorem dX8_page_4 : decode cX8_page 4 = .ok (.invokevirtual 69, 3) := by decide +kernel
theorem dX8_page_7 : decode cX8_page 7 = .ok (.ifCond .lt 6, 3) := by decide +kernel
theorem dX8_page_10 : decode cX8_page 10 = .ok (.bipush (-12), 2) := by decide +kernel
theorem dX8_page_12 : decode cX8_page 12 = .ok (.ireturn, 1) := by decide +kernel
theorem dX8_page_13 : decode cX8_page 13 = .ok (.aload_n 0, 1) := by decide +kernel
theorem dX8_page_14 : decode cX8_page 14 = .ok (.getfield 26, 3) := by decide +kernel
theorem dX8_page_17 : decode cX8_page 17 = .ok (.aload_n 0, 1) := by decide +kernel
theorem dX8_page_18 : decode cX8_page 18 = .ok (.getfield 19, 3) := by decide +kernel
theorem dX8_page_21 : decode cX8_page 21 = .ok (.invokevirtual 76, 3) := by decide +kernel
theorem dX8_page_24 : decode cX8_page 24 = .ok (.aload_n 0, 1) := by decide +kernel
theorem dX8_page_25 : decode cX8_page 25 = .ok (.getfield 19, 3) := by decide +kernel
theorem dX8_page_28 : decode cX8_page 28 = .ok (.getfield 80, 3) := by decide +kernel
theorem dX8_page_31 : decode cX8_page 31 = .ok (.invokevirtual 84, 3) := by decide +kernel
theorem dX8_page_34 : decode cX8_page 34 = .ok (.aload_n 0, 1) := by decide +kernel
theorem dX8_page_35 : decode cX8_page 35 = .ok (.getfield 19, 3) := by decide +kernel
theorem dX8_page_38 : decode cX8_page 38 = .ok (.getfield 80, 3) := by decide +kernel
theorem dX8_page_41 : decode cX8_page 41 = .ok (.aload_n 0, 1) := by decide +kernel
theorem dX8_page_42 : decode cX8_page 42 = .ok (.getfield 12, 3) := by decide +kernel
theorem dX8_page_45 : decode cX8_page 45 = .ok (.invokevirtual 87, 3) := by decide +kernel
theorem dX8_page_48 : decode cX8_page 48 = .ok (.aload_n 0, 1) := by decide +kernel
theorem dX8_page_49 : decode cX8_page 49 = .ok (.invokevirtual 91, 3) := by decide +kernel
theorem dX8_page_52 : decode cX8_page 52 = .ok (.aload_n 0, 1) := by decide +kernel
theorem dX8_page_53 : decode cX8_page 53 = .ok (.getfield 19, 3) := by decide +kernel
theorem dX8_page_56 : decode cX8_page 56 = .ok (.getfield 80, 3) := by decide +kernel
theorem dX8_page_59 : decode cX8_page 59 = .ok (.invokevirtual 94, 3) := by decide +kernel
theorem dX8_page_62 : decode cX8_page 62 = .ok (.ireturn, 1) := by decide +kernel
set_option maxRecDepth 20000 in
theorem ggX8_name_X8_addTextTo : GoodIn wsX8_name wsX8_addTextTo := goodIn_r _ [6, 7, 8, 1, 9, 10, 11, 12, 13, 14, 15, 16, 17, 18, 19, 20, 21, 22, 23, 24, 25, 26, 27, 28, 5, 29, 30, 31, 32, 33, 34, 35, 36, 37, 38, 39, 40, 41, 42, 43, 44, 45, 46, 47, 48, 49, 50, 51, 52, 53, 54, 55, 56, 57, 58, 59, 60, 61, 62, 63, 64, 65, 66, 67, 68, 69, 70, 71, 72, 73, 74, 75, 76, 77, 78, 79, 80, 81, 82, 83, 84, 85, 86, 87, 88, 89, 90, 91, 92, 93, 94, 95, 96, 97, 98, 99, 100, 101, 102, 103, 104, 105, 106, 107, 108, 109, 110, 111, 112, 113, 114, 115, 116, 117, 118, 119, 120, 121, 122, 123, 124, 125, 126, 127, 128, 129, 130, 131, 132, 133, 134, 135, 136, 137, 138, 139, 140, 141, 142, 143, 144, 145, 146, 147, 148, 149, 150, 151, 152, 153, 154, 155, 156, 157, 158, 159, 160, 161, 162, 163, 164, 165, 166, 167, 168, 169, 170, 171, 172, 173, 174, 175, 176, 177, 178, 179, 180, 181, 182, 183, 184, 185, 186, 187, 188, 189, 190, 191, 192, 193, 194, 195, 196, 197, 198, 199, 200, 201, 202, 203, 204, 205, 206, 207, 208, 209, 210, 211, 212, 213, 214, 215, 216, 217, 218, 219, 220, 221, 222, 223, 224, 225, 226, 227, 228, 229, 230, 231, 232, 233, 234, 235, 236, 237, 238, 239, 240, 241, 242, 243, 244, 245, 246, 247, 248, 249, 250, 251, 252, 253, 254, 255, 256, 257, 258, 259, 260, 266, 267, 268, 269, 270, 271, 272, 273, 274, 275, 261, 262, 263, 264, 265, 276, 277, 278, 279, 280, 281, 282, 283, 284, 285, 286, 287, 288, 289, 290, 291] (by decide +kernel) (by decide +kernel)
set_option maxRecDepth 20000 in
theorem gX8_name_X8_addTextTo : GoodIn wsX8_name (wsV RX8 98 RX8 yX8_addTextTo wsX8_addTextTo) := goodIn_app (goodIn_of _ (by decide +kernel)) ggX8_name_X8_addTextTo
theorem dX8_name_0 : decode cX8_name 0 = .ok (.aload_n 0, 1) := by decide +kernel
theorem dX8_name_1 : decode cX8_name 1 = .ok (.aload_n 0, 1) := by decide +kernel
theorem dX8_name_2 : decode cX8_name 2 = .ok (.getfield 19, 3) := by decide +kernel
theorem dX8_name_5 : decode cX8_name 5 = .ok (.getfield 95, 3) := by decide +kernel
theorem dX8_name_8 : decode cX8_name 8 = .ok (.invokevirtual 98, 3) := by decide +kernel
theorem dX8_name_11 : decode cX8_name 11 = .ok (.ireturn, 1) := by decide +kernel
set_option maxRecDepth 20000 in
theorem ggX8_ending_X8_addTextTo : GoodIn wsX8_ending wsX8_addTextTo := goodIn_r _ [6, 7, 8, 1, 9, 10, 11, 12, 13, 14, 15, 16, 17, 18, 19, 20, 21, 22, 23, 24, 25, 26, 27, 28, 5, 29, 30, 31, 32, 33, 34, 35, 36, 37, 38, 39, 40, 41, 42, 43, 44, 45, 46, 47, 48, 49, 50, 51, 52, 53, 54, 55, 56, 57, 58, 59, 60, 61, 62, 63, 64, 65, 66, 67, 68, 69, 70, 71, 72, 73, 74, 75, 76, 77, 78, 79, 80, 81, 82, 83, 84, 85, 86, 87, 88, 89, 90, 91, 92, 93, 94, 95, 96, 97, 98, 99, 100, 101, 102, 103, 104, 105, 106, 107, 108, 109, 110, 111, 112, 113, 114, 115, 116, 117, 118, 119, 120, 121, 122, 123, 124, 125, 126, 127, 128, 129, 130, 131, 132, 133, 134, 135, 136, 137, 138, 139, 140, 141, 142, 143, 144, 145, 146, 147, 148, 149, 150, 151, 152, 153, 154, 155, 156, 157, 158, 159, 160, 161, 162, 163, 164, 165, 166, 167, 168, 169, 170, 171, 172, 173, 174, 175, 176, 177, 178, 179, 180, 181, 182, 183, 184, 185, 186, 187, 188, 189, 190, 191, 192, 193, 194, 195, 196, 197, 198, 199, 200, 201, 202, 203, 204, 205, 206, 207, 208, 209, 210, 211, 212, 213, 214, 215, 216, 217, 218, 219, 220, 221, 222, 223, 224, 225, 226, 227, 228, 229, 230, 231, 232, 233, 234, 235, 236, 237, 238, 239, 240, 241, 242, 243, 244, 245, 246, 247, 248, 249, 250, 251, 252, 253, 254, 255, 256, 257, 258, 259, 260, 266, 267, 268, 269, 270, 271, 272, 273, 274, 275, 261, 262, 263, 264, 265, 276, 277, 278, 279, 280, 281, 282, 283, 284, 285, 286, 287, 288, 289, 290, 291] (by decide +kernel) (by decide +kernel)
set_option maxRecDepth 20000 in
theorem gX8_ending_X8_addTextTo : GoodIn wsX8_ending (wsV RX8 98 RX8 yX8_addTextTo wsX8_addTextTo) := goodIn_app (goodIn_of _ (by decide +kernel)) ggX8_ending_X8_addTextTo
theorem dX8_ending_0 : decode cX8_ending 0 = .ok (.aload_n 0, 1) := by decide +kernel
theorem dX8_ending_1 : decode cX8_ending 1 = .ok (.aload_n 0, 1) := by decide +kernel
theorem dX8_ending_2 : decode cX8_ending 2 = .ok (.getfield 19, 3) := by decide +kernel
theorem dX8_ending_5 : decode cX8_ending 5 = .ok (.getfield 102, 3) := by decide +kernel
theorem dX8_ending_8 : decode cX8_ending 8 = .ok (.invokevirtual 98, 3) := by decide +kernel
theorem dX8_ending_11 : decode cX8_ending 11 = .ok (.ireturn, 1) := by decide +kernel
set_option maxRecDepth 20000 in
theorem ggX8_dropName_X8_dropFrom : GoodIn wsX8_dropName wsX8_dropFrom := goodIn_r _ [6, 7, 1, 8, 9, 10, 11, 12, 13, 14, 15, 16, 17, 18, 19, 20, 21, 22, 23, 24, 25, 26, 27, 28, 29, 30, 31, 32, 33, 34, 35, 36, 37, 38, 39, 40, 41, 42, 43, 44, 45, 46, 47, 48, 49, 50, 51, 52, 53, 54, 55, 56, 57, 58, 59, 60, 61, 62, 63, 64, 65, 66, 67, 68, 69, 70, 71, 72, 73, 74, 75, 76, 77, 78, 79, 80, 81, 82, 83, 84, 85, 86, 5, 87, 88, 89, 90, 91, 92, 93, 94, 95, 96, 97, 98, 99, 100, 101, 102, 103, 104, 105, 106, 107, 108, 109, 110, 111, 112, 113, 114, 115, 116, 117, 118, 119, 120, 121, 122, 123, 124, 125, 126, 127, 128, 129, 130, 131, 132, 133, 134, 135, 136, 137, 138, 139, 140, 141, 142, 143, 144, 145, 146, 147, 148, 149, 150, 151, 152, 153, 154, 155, 156, 157, 158, 159, 160, 161, 162, 163, 164, 165, 166, 167, 168, 169, 170, 171, 172, 173, 174, 175, 176, 177, 178, 179, 180, 181, 182, 183, 184, 185, 186, 187, 188, 189, 190, 191, 192, 193, 194, 195, 196, 197, 198, 199, 200, 201, 202, 203, 204, 205, 206, 207, 208, 209, 210, 211, 212, 213, 214, 215, 216, 217, 218, 219, 220, 221, 222, 228, 229, 230, 231, 232, 233, 234, 223, 224, 225, 226, 227, 235, 236, 237, 238, 239, 240, 241, 242, 243, 244, 245, 246, 247, 248, 249, 250, 251] (by decide +kernel) (by decide +kernel)
set_option maxRecDepth 20000 in
theorem gX8_dropName_X8_dropFrom : GoodIn wsX8_dropName (wsV RX8 105 RX8 yX8_dropFrom wsX8_dropFrom) := goodIn_app (goodIn_of _ (by decide +kernel)) ggX8_dropName_X8_dropFrom
theorem dX8_dropName_0 : decode cX8_dropName 0 = .ok (.aload_n 0, 1) := by decide +kernel
theorem dX8_dropName_1 : decode cX8_dropName 1 = .ok (.aload_n 0, 1) := by decide +kernel
theorem dX8_dropName_2 : decode cX8_dropName 2 = .ok (.getfield 19, 3) := by decide +kernel
theorem dX8_dropName_5 : decode cX8_dropName 5 = .ok (.getfield 95, 3) := by decide +kernel
theorem dX8_dropName_8 : decode cX8_dropName 8 = .ok (.iload_n 1, 1) := by decide +kernel
theorem dX8_dropName_9 : decode cX8_dropName 9 = .ok (.invokevirtual 105, 3) := by decide +kernel
theorem dX8_dropName_12 : decode cX8_dropName 12 = .ok (.ireturn, 1) := by decide +kernel
set_option maxRecDepth 20000 in
theorem ggX8_dropEnding_X8_dropFrom : GoodIn wsX8_dropEnding wsX8_dropFrom := goodIn_r _ [6, 7, 1, 8, 9, 10, 11, 12, 13, 14, 15, 16, 17, 18, 19, 20, 21, 22, 23, 24, 25, 26, 27, 28, 29, 30, 31, 32, 33, 34, 35, 36, 37, 38, 39, 40, 41, 42, 43, 44, 45, 46, 47, 48, 49, 50, 51, 52, 53, 54, 55, 56, 57, 58, 59, 60, 61, 62, 63, 64, 65, 66, 67, 68, 69, 70, 71, 72, 73, 74, 75, 76, 77, 78, 79, 80, 81, 82, 83, 84, 85, 86, 5, 87, 88, 89, 90, 91, 92, 93, 94, 95, 96, 97, 98, 99, 100, 101, 102, 103, 104, 105, 106, 107, 108, 109, 110, 111, 112, 113, 114, 115, 116, 117, 118, 119, 120, 121, 122, 123, 124, 125, 126, 127, 128, 129, 130, 131, 132, 133, 134, 135, 136, 137, 138, 139, 140, 141, 142, 143, 144, 145, 146, 147, 148, 149, 150, 151, 152, 153, 154, 155, 156, 157, 158, 159, 160, 161, 162, 163, 164, 165, 166, 167, 168, 169, 170, 171, 172, 173, 174, 175, 176, 177, 178, 179, 180, 181, 182, 183, 184, 185, 186, 187, 188, 189, 190, 191, 192, 193, 194, 195, 196, 197, 198, 199, 200, 201, 202, 203, 204, 205, 206, 207, 208, 209, 210, 211, 212, 213, 214, 215, 216, 217, 218, 219, 220, 221, 222, 228, 229, 230, 231, 232, 233, 234, 223, 224, 225, 226, 227, 235, 236, 237, 238, 239, 240, 241, 242, 243, 244, 245, 246, 247, 248, 249, 250, 251] (by decide +kernel) (by decide +kernel)
set_option maxRecDepth 20000 in
theorem gX8_dropEnding_X8_dropFrom : GoodIn wsX8_dropEnding (wsV RX8 105 RX8 yX8_dropFrom wsX8_dropFrom) := goodIn_app (goodIn_of _ (by decide +kernel)) ggX8_dropEnding_X8_dropFrom
theorem dX8_dropEnding_0 : decode cX8_dropEnding 0 = .ok (.aload_n 0, 1) := by decide +kernel
theorem dX8_dropEnding_1 : decode cX8_dropEnding 1 = .ok (.aload_n 0, 1) := by decide +kernel
theorem dX8_dropEnding_2 : decode cX8_dropEnding 2 = .ok (.getfield 19, 3) := by decide +kernel
theorem dX8_dropEnding_5 : decode cX8_dropEnding 5 = .ok (.getfield 102, 3) := by decide +kernel
theorem dX8_dropEnding_8 : decode cX8_dropEnding 8 = .ok (.iload_n 1, 1) := by decide +kernel
theorem dX8_dropEnding_9 : decode cX8_dropEnding 9 = .ok (.invokevirtual 105, 3) := by decide +kernel
theorem dX8_dropEnding_12 : decode cX8_dropEnding 12 = .ok (.ireturn, 1) := by decide +kernel
set_option maxRecDepth 20000 in
theorem ggX8_widen_X8_isLetter : GoodIn wsX8_widen wsX8_isLetter := goodIn_r _ [6] (by decide +kernel) (by decide +kernel)
set_option maxRecDepth 20000 in
theorem gX8_widen_X8_isLetter : GoodIn wsX8_widen (va_wsS RX8 109 yX8_isLetter wsX8_isLetter) := goodIn_app (goodIn_of _ (by decide +kernel)) ggX8_widen_X8_isLetter
set_option maxRecDepth 20000 in
theorem ggX8_widen_X3_at : GoodIn wsX8_widen wsX3_at := goodIn_r _ [11, 12, 215] (by decide +kernel) (by decide +kernel)
set_option maxRecDepth 20000 in
theorem gX8_widen_X3_at : GoodIn wsX8_widen (wsV RX8 117 RX3 yX3_at wsX3_at) := goodIn_app (goodIn_of _ (by decide +kernel)) ggX8_widen_X3_at
set_option maxRecDepth 20000 in
theorem ggX8_widen_X2_keep : GoodIn wsX8_widen wsX2_keep := goodIn_r _ [17, 18, 19, 20, 21, 22, 16, 23, 24, 25, 26, 27, 28, 29, 30, 31, 32, 33, 34, 35, 36, 37, 38, 39, 40, 41, 42, 43, 44, 45, 46, 47, 48, 49, 50, 51, 52, 53, 10, 54, 12, 55, 56, 57, 58, 59, 60, 216, 217, 210, 211, 212, 213, 214, 218, 219, 220, 221, 222, 215] (by decide +kernel) (by decide +kernel)
set_option maxRecDepth 20000 in
theorem gX8_widen_X2_keep : GoodIn wsX8_widen (wsV RX8 76 RX2 yX2_keep wsX2_keep) := goodIn_app (goodIn_of _ (by decide +kernel)) ggX8_widen_X2_keep
set_option maxRecDepth 20000 in
theorem ggX8_widen_X3_put : GoodIn wsX8_widen wsX3_put := goodIn_r _ [64, 12, 215] (by decide +kernel) (by decide +kernel)
set_option maxRecDepth 20000 in
theorem gX8_widen_X3_put : GoodIn wsX8_widen (wsV RX8 122 RX3 yX3_put wsX3_put) := goodIn_app (goodIn_of _ (by decide +kernel)) ggX8_widen_X3_put
set_option maxRecDepth 20000 in
theorem ggX8_widen_X8_workOut : GoodIn wsX8_widen wsX8_workOut := goodIn_r _ [68, 69, 1, 70, 71, 72, 73, 74, 75, 76, 77, 78, 79, 80, 81, 82, 83, 84, 41, 85, 46, 86, 87, 88, 89, 90, 91, 92, 93, 94, 95, 96, 31, 97, 34, 36, 35, 98, 99, 100, 101, 102, 44, 43, 103, 8, 9, 10, 11, 12, 104, 62, 63, 64, 105, 106, 107, 108, 109, 7, 110, 111, 112, 113, 114, 115, 116, 117, 118, 119, 120, 121, 122, 123, 124, 125, 126, 127, 128, 129, 130, 131, 132, 133, 134, 135, 136, 137, 138, 139, 140, 141, 142, 143, 144, 145, 146, 147, 148, 149, 150, 151, 152, 153, 154, 155, 156, 157, 158, 159, 160, 161, 33, 162, 163, 164, 165, 166, 167, 168, 169, 170, 171, 172, 173, 174, 175, 176, 177, 178, 179, 180, 181, 182, 183, 184, 185, 186, 187, 188, 189, 190, 191, 192, 193, 194, 195, 196, 197, 198, 199, 200, 201, 202, 203, 204, 205, 206, 207, 208, 209, 210, 211, 212, 213, 214, 223, 224, 225, 226, 227, 218, 219, 220, 221, 222, 215, 228, 229, 230, 231, 232, 233, 234, 235, 236, 237, 238] (by decide +kernel) (by decide +kernel)
set_option maxRecDepth 20000 in
theorem gX8_widen_X8_workOut : GoodIn wsX8_widen (wsV RX8 91 RX8 yX8_workOut wsX8_workOut) := goodIn_app (goodIn_of _ (by decide +kernel)) ggX8_widen_X8_workOut
theorem dX8_widen_0 : decode cX8_widen 0 = .ok (.iload_n 1, 1) := by decide +kernel
theorem dX8_widen_1 : decode cX8_widen 1 = .ok (.invokestatic 109, 3) := by decide +kernel
theorem dX8_widen_4 : decode cX8_widen 4 = .ok (.ifCond .eq 14, 3) := by decide +kernel
theorem dX8_widen_7 : decode cX8_widen 7 = .ok (.iload_n 2, 1) := by decide +kernel
theorem dX8_widen_8 : decode cX8_widen 8 = .ok (.iconst 1, 1) := by decide +kernel
theorem dX8_widen_9 : decode cX8_widen 9 = .ok (.if_icmp .lt 9, 3) := by decide +kernel
theorem dX8_widen_12 : decode cX8_widen 12 = .ok (.iload_n 2, 1) := by decide +kernel
theorem dX8_widen_13 : decode cX8_widen 13 = .ok (.bipush 9, 2) := by decide +kernel
theorem dX8_widen_15 : decode cX8_widen 15 = .ok (.if_icmp .le 6, 3) := by decide +kernel
theorem dX8_widen_18 : decode cX8_widen 18 = .ok (.bipush (-11), 2) := by decide +kernel
theorem dX8_widen_20 : decode cX8_widen 20 = .ok (.ireturn, 1) := by decide +kernel
theorem dX8_widen_21 : decode cX8_widen 21 = .ok (.aload_n 0, 1) := by decide +kernel
theorem dX8_widen_22 : decode cX8_widen 22 = .ok (.getfield 19, 3) := by decide +kernel
theorem dX8_widen_25 : decode cX8_widen 25 = .ok (.getfield 113, 3) := by decide +kernel
theorem dX8_widen_28 : decode cX8_widen 28 = .ok (.iload_n 1, 1) := by decide +kernel
theorem dX8_widen_29 : decode cX8_widen 29 = .ok (.bipush 97, 2) := by decide +kernel
theorem dX8_widen_31 : decode cX8_widen 31 = .ok (.isub, 1) := by decide +kernel
theorem dX8_widen_32 : decode cX8_widen 32 = .ok (.invokevirtual 117, 3) := by decide +kernel
theorem dX8_widen_35 : decode cX8_widen 35 = .ok (.istore_n 3, 1) := by decide +kernel
theorem dX8_widen_36 : decode cX8_widen 36 = .ok (.aload_n 0, 1) := by decide +kernel
theorem dX8_widen_37 : decode cX8_widen 37 = .ok (.getfield 26, 3) := by decide +kernel
theorem dX8_widen_40 : decode cX8_widen 40 = .ok (.aload_n 0, 1) := by decide +kernel
theorem dX8_widen_41 : decode cX8_widen 41 = .ok (.getfield 19, 3) := by decide +kernel
theorem dX8_widen_44 : decode cX8_widen 44 = .ok (.invokevirtual 76, 3) := by decide +kernel
theorem dX8_widen_47 : decode cX8_widen 47 = .ok (.aload_n 0, 1) := by decide +kernel
theorem dX8_widen_48 : decode cX8_widen 48 = .ok (.getfield 19, 3) := by decide +kernel
theorem dX8_widen_51 : decode cX8_widen 51 = .ok (.getfield 113, 3) := by decide +kernel
theorem dX8_widen_54 : decode cX8_widen 54 = .ok (.iload_n 1, 1) := by decide +kernel
theorem dX8_widen_55 : decode cX8_widen 55 = .ok (.bipush 97, 2) := by decide +kernel
theorem dX8_widen_57 : decode cX8_widen 57 = .ok (.isub, 1) := by decide +kernel
theorem dX8_widen_58 : decode cX8_widen 58 = .ok (.iload_n 2, 1) := by decide +kernel
theorem dX8_widen_59 : decode cX8_widen 59 = .ok (.invokevirtual 122, 3) := by decide +kernel
theorem dX8_widen_62 : decode cX8_widen 62 = .ok (.aload_n 0, 1) := by decide +kernel
theorem dX8_widen_63 : decode cX8_widen 63 = .ok (.invokevirtual 91, 3) := by decide +kernel
theorem dX8_widen_66 : decode cX8_widen 66 = .ok (.iload_n 3, 1) := by decide +kernel
theorem dX8_widen_67 : decode cX8_widen 67 = .ok (.ireturn, 1) := by decide +kernel
set_option maxRecDepth 20000 in
theorem ggX8_set_X3_at : GoodIn wsX8_set wsX3_at := goodIn_r _ [9, 10, 214] (by decide +kernel) (by decide +kernel)
set_option maxRecDepth 20000 in
theorem gX8_set_X3_at : GoodIn wsX8_set (wsV RX8 117 RX3 yX3_at wsX3_at) := goodIn_app (goodIn_of _ (by decide +kernel)) ggX8_set_X3_at
set_option maxRecDepth 20000 in
theorem ggX8_set_X2_keep : GoodIn wsX8_set wsX2_keep := goodIn_r _ [15, 16, 17, 18, 19, 20, 14, 21, 22, 23, 24, 25, 26, 27, 28, 29, 30, 31, 32, 33, 34, 35, 36, 37, 38, 39, 40, 41, 42, 43, 44, 45, 46, 47, 48, 49, 50, 51, 8, 52, 10, 53, 54, 55, 56, 57, 58, 215, 216, 209, 210, 211, 212, 213, 217, 218, 219, 220, 221, 214] (by decide +kernel) (by decide +kernel)
set_option maxRecDepth 20000 in
theorem gX8_set_X2_keep : GoodIn wsX8_set (wsV RX8 76 RX2 yX2_keep wsX2_keep) := goodIn_app (goodIn_of _ (by decide +kernel)) ggX8_set_X2_keep
set_option maxRecDepth 20000 in
theorem ggX8_set_X3_put : GoodIn wsX8_set wsX3_put := goodIn_r _ [62, 10, 214] (by decide +kernel) (by decide +kernel)
set_option maxRecDepth 20000 in
theorem gX8_set_X3_put : GoodIn wsX8_set (wsV RX8 122 RX3 yX3_put wsX3_put) := goodIn_app (goodIn_of _ (by decide +kernel)) ggX8_set_X3_put
set_option maxRecDepth 20000 in
theorem ggX8_set_X8_workOut : GoodIn wsX8_set wsX8_workOut := goodIn_r _ [67, 68, 3, 69, 70, 71, 72, 73, 74, 75, 76, 77, 78, 79, 80, 81, 82, 83, 39, 84, 44, 85, 86, 87, 88, 89, 90, 91, 92, 93, 94, 95, 29, 96, 32, 34, 33, 97, 98, 99, 100, 101, 42, 41, 102, 6, 7, 8, 9, 10, 103, 60, 61, 62, 104, 105, 106, 107, 108, 5, 109, 110, 111, 112, 113, 114, 115, 116, 117, 118, 119, 120, 121, 122, 123, 124, 125, 126, 127, 128, 129, 130, 131, 132, 133, 134, 135, 136, 137, 138, 139, 140, 141, 142, 143, 144, 145, 146, 147, 148, 149, 150, 151, 152, 153, 154, 155, 156, 157, 158, 159, 160, 31, 161, 162, 163, 164, 165, 166, 167, 168, 169, 170, 171, 172, 173, 174, 175, 176, 177, 178, 179, 180, 181, 182, 183, 184, 185, 186, 187, 188, 189, 190, 191, 192, 193, 194, 195, 196, 197, 198, 199, 200, 201, 202, 203, 204, 205, 206, 207, 208, 209, 210, 211, 212, 213, 222, 223, 224, 225, 226, 217, 218, 219, 220, 221, 214, 227, 228, 229, 230, 231, 232, 233, 234, 235, 236, 237] (by decide +kernel) (by decide +kernel)
set_option maxRecDepth 20000 in
theorem gX8_set_X8_workOut : GoodIn wsX8_set (wsV RX8 91 RX8 yX8_workOut wsX8_workOut) := goodIn_app (goodIn_of _ (by decide +kernel)) ggX8_set_X8_workOut
theorem dX8_set_0 : decode cX8_set 0 = .ok (.iload_n 1, 1) := by decide +kernel
theorem dX8_set_1 : decode cX8_set 1 = .ok (.ifCond .lt 8, 3) := by decide +kernel
theorem dX8_set_4 : decode cX8_set 4 = .ok (.iload_n 1, 1) := by decide +kernel
theorem dX8_set_5 : decode cX8_set 5 = .ok (.iconst 5, 1) := by decide +kernel
theorem dX8_set_6 : decode cX8_set 6 = .ok (.if_icmp .lt 6, 3) := by decide +kernel
theorem dX8_set_9 : decode cX8_set 9 = .ok (.bipush (-11), 2) := by decide +kernel
theorem dX8_set_11 : decode cX8_set 11 = .ok (.ireturn, 1) := by decide +kernel
theorem dX8_set_12 : decode cX8_set 12 = .ok (.iload_n 2, 1) := by decide +kernel
theorem dX8_set_13 : decode cX8_set 13 = .ok (.getstatic 126, 3) := by decide +kernel
theorem dX8_set_16 : decode cX8_set 16 = .ok (.iload_n 1, 1) := by decide +kernel
theorem dX8_set_17 : decode cX8_set 17 = .ok (.iaload, 1) := by decide +kernel
theorem dX8_set_18 : decode cX8_set 18 = .ok (.if_icmp .lt 12, 3) := by decide +kernel
theorem dX8_set_21 : decode cX8_set 21 = .ok (.iload_n 2, 1) := by decide +kernel
theorem dX8_set_22 : decode cX8_set 22 = .ok (.getstatic 130, 3) := by decide +kernel
theorem dX8_set_25 : decode cX8_set 25 = .ok (.iload_n 1, 1) := by decide +kernel
theorem dX8_set_26 : decode cX8_set 26 = .ok (.iaload, 1) := by decide +kernel
theorem dX8_set_27 : decode cX8_set 27 = .ok (.if_icmp .le 6, 3) := by decide +kernel
theorem dX8_set_30 : decode cX8_set 30 = .ok (.bipush (-11), 2) := by decide +kernel
theorem dX8_set_32 : decode cX8_set 32 = .ok (.ireturn, 1) := by decide +kernel
theorem dX8_set_33 : decode cX8_set 33 = .ok (.aload_n 0, 1) := by decide +kernel
theorem dX8_set_34 : decode cX8_set 34 = .ok (.getfield 19, 3) := by decide +kernel
theorem dX8_set_37 : decode cX8_set 37 = .ok (.getfield 133, 3) := by decide +kernel
theorem dX8_set_40 : decode cX8_set 40 = .ok (.iload_n 1, 1) := by decide +kernel
theorem dX8_set_41 : decode cX8_set 41 = .ok (.invokevirtual 117, 3) := by decide +kernel
theorem dX8_set_44 : decode cX8_set 44 = .ok (.istore_n 3, 1) := by decide +kernel
theorem dX8_set_45 : decode cX8_set 45 = .ok (.aload_n 0, 1) := by decide +kernel
theorem dX8_set_46 : decode cX8_set 46 = .ok (.getfield 26, 3) := by decide +kernel
theorem dX8_set_49 : decode cX8_set 49 = .ok (.aload_n 0, 1) := by decide +kernel
theorem dX8_set_50 : decode cX8_set 50 = .ok (.getfield 19, 3) := by decide +kernel
theorem dX8_set_53 : decode cX8_set 53 = .ok (.invokevirtual 76, 3) := by decide +kernel
theorem dX8_set_56 : decode cX8_set 56 = .ok (.aload_n 0, 1) := by decide +kernel
theorem dX8_set_57 : decode cX8_set 57 = .ok (.getfield 19, 3) := by decide +kernel
theorem dX8_set_60 : decode cX8_set 60 = .ok (.getfield 133, 3) := by decide +kernel
theorem dX8_set_63 : decode cX8_set 63 = .ok (.iload_n 1, 1) := by decide +kernel
theorem dX8_set_64 : decode cX8_set 64 = .ok (.iload_n 2, 1) := by decide +kernel
theorem dX8_set_65 : decode cX8_set 65 = .ok (.invokevirtual 122, 3) := by decide +kernel
theorem dX8_set_68 : decode cX8_set 68 = .ok (.aload_n 0, 1) := by decide +kernel
theorem dX8_set_69 : decode cX8_set 69 = .ok (.invokevirtual 91, 3) := by decide +kernel
theorem dX8_set_72 : decode cX8_set 72 = .ok (.iload_n 3, 1) := by decide +kernel
theorem dX8_set_73 : decode cX8_set 73 = .ok (.ireturn, 1) := by decide +kernel
set_option maxRecDepth 20000 in
theorem ggX8_count_X7_size : GoodIn wsX8_count wsX7_size := goodIn_r _ [11, 12, 141, 142, 143, 144, 145] (by decide +kernel) (by decide +kernel)
set_option maxRecDepth 20000 in
theorem gX8_count_X7_size : GoodIn wsX8_count (wsV RX8 94 RX7 yX7_size wsX7_size) := goodIn_app (goodIn_of _ (by decide +kernel)) ggX8_count_X7_size
set_option maxRecDepth 20000 in
theorem ggX8_count_X4_barsBetween : GoodIn wsX8_count wsX4_barsBetween := goodIn_r _ [17, 18, 19, 20, 16, 21, 22, 23, 24, 25, 26, 27, 28, 146, 147, 148, 149, 150, 151, 152, 153, 154, 155] (by decide +kernel) (by decide +kernel)
set_option maxRecDepth 20000 in
theorem gX8_count_X4_barsBetween : GoodIn wsX8_count (wsV RX8 136 RX4 yX4_barsBetween wsX4_barsBetween) := goodIn_app (goodIn_of _ (by decide +kernel)) ggX8_count_X4_barsBetween
set_option maxRecDepth 20000 in
theorem ggX8_count_X4_lineCount : GoodIn wsX8_count wsX4_lineCount := goodIn_r _ [32, 33, 146, 147, 148, 149, 150, 151, 152, 153, 154] (by decide +kernel) (by decide +kernel)
set_option maxRecDepth 20000 in
theorem gX8_count_X4_lineCount : GoodIn wsX8_count (wsV RX8 140 RX4 yX4_lineCount wsX4_lineCount) := goodIn_app (goodIn_of _ (by decide +kernel)) ggX8_count_X4_lineCount
set_option maxRecDepth 20000 in
theorem ggX8_count_X1_size : GoodIn wsX8_count wsX1_size := goodIn_r _ [38, 39, 156, 157, 158, 159, 160] (by decide +kernel) (by decide +kernel)
set_option maxRecDepth 20000 in
theorem gX8_count_X1_size : GoodIn wsX8_count (wsV RX8 143 RX1 yX1_size wsX1_size) := goodIn_app (goodIn_of _ (by decide +kernel)) ggX8_count_X1_size
set_option maxRecDepth 20000 in
theorem ggX8_count_X3_at : GoodIn wsX8_count wsX3_at := goodIn_r _ [27, 28, 155] (by decide +kernel) (by decide +kernel)
set_option maxRecDepth 20000 in
theorem gX8_count_X3_at : GoodIn wsX8_count (wsV RX8 117 RX3 yX3_at wsX3_at) := goodIn_app (goodIn_of _ (by decide +kernel)) ggX8_count_X3_at
set_option maxRecDepth 20000 in
theorem ggX8_count_X4_betrayedBars : GoodIn wsX8_count wsX4_betrayedBars := goodIn_r _ [44, 45, 46, 8, 9, 10, 11, 12, 18, 19, 20, 16, 21, 22, 23, 24, 25, 26, 27, 28, 47, 48, 49, 50, 51, 52, 53, 54, 55, 56, 57, 58, 59, 60, 61, 62, 63, 64, 65, 66, 67, 35, 36, 37, 38, 39, 68, 69, 70, 71, 72, 73, 74, 75, 76, 77, 78, 79, 146, 147, 148, 149, 150, 151, 152, 153, 154, 136, 137, 138, 139, 140, 141, 142, 143, 144, 145, 155, 161, 162, 156, 157, 158, 159, 160] (by decide +kernel) (by decide +kernel)
set_option maxRecDepth 20000 in
theorem gX8_count_X4_betrayedBars : GoodIn wsX8_count (wsV RX8 144 RX4 yX4_betrayedBars wsX4_betrayedBars) := goodIn_app (goodIn_of _ (by decide +kernel)) ggX8_count_X4_betrayedBars
set_option maxRecDepth 20000 in
theorem ggX8_count_X4_sumOfShownWidths : GoodIn wsX8_count wsX4_sumOfShownWidths := goodIn_r _ [83, 45, 46, 8, 9, 10, 11, 12, 84, 85, 86, 16, 87, 18, 19, 20, 21, 22, 23, 24, 25, 26, 27, 28, 51, 52, 53, 54, 55, 56, 57, 58, 59, 60, 61, 88, 89, 90, 91, 92, 146, 147, 148, 149, 150, 151, 152, 153, 154, 136, 137, 138, 139, 140, 141, 142, 143, 144, 145, 155, 161, 162] (by decide +kernel) (by decide +kernel)
set_option maxRecDepth 20000 in
theorem gX8_count_X4_sumOfShownWidths : GoodIn wsX8_count (wsV RX8 148 RX4 yX4_sumOfShownWidths wsX4_sumOfShownWidths) := goodIn_app (goodIn_of _ (by decide +kernel)) ggX8_count_X4_sumOfShownWidths
set_option maxRecDepth 20000 in
theorem ggX8_count_X4_sumOfGaps : GoodIn wsX8_count wsX4_sumOfGaps := goodIn_r _ [96, 45, 97, 46, 8, 9, 10, 11, 12, 18, 19, 20, 16, 21, 22, 23, 24, 25, 26, 27, 28, 51, 52, 53, 54, 55, 56, 57, 58, 59, 60, 61, 98, 99, 100, 37, 101, 102, 103, 146, 147, 148, 149, 150, 151, 152, 153, 154, 136, 137, 138, 139, 140, 141, 142, 143, 144, 145, 155, 161, 162, 156, 157, 158, 159, 160] (by decide +kernel) (by decide +kernel)
set_option maxRecDepth 20000 in
theorem gX8_count_X4_sumOfGaps : GoodIn wsX8_count (wsV RX8 151 RX4 yX4_sumOfGaps wsX4_sumOfGaps) := goodIn_app (goodIn_of _ (by decide +kernel)) ggX8_count_X4_sumOfGaps
set_option maxRecDepth 20000 in
theorem ggX8_count_X4_differentBarWidths : GoodIn wsX8_count wsX4_differentBarWidths := goodIn_r _ [107, 45, 46, 8, 9, 10, 11, 12, 18, 19, 20, 16, 21, 22, 23, 24, 25, 26, 27, 28, 108, 109, 110, 111, 112, 113, 114, 115, 116, 146, 147, 148, 149, 150, 151, 152, 153, 154, 136, 137, 138, 139, 140, 141, 142, 143, 144, 145, 155] (by decide +kernel) (by decide +kernel)
set_option maxRecDepth 20000 in
theorem gX8_count_X4_differentBarWidths : GoodIn wsX8_count (wsV RX8 154 RX4 yX4_differentBarWidths wsX4_differentBarWidths) := goodIn_app (goodIn_of _ (by decide +kernel)) ggX8_count_X4_differentBarWidths
set_option maxRecDepth 20000 in
theorem ggX8_count_X2_size : GoodIn wsX8_count wsX2_size := goodIn_r _ [121, 122, 163, 164] (by decide +kernel) (by decide +kernel)
set_option maxRecDepth 20000 in
theorem gX8_count_X2_size : GoodIn wsX8_count (wsV RX8 157 RX2 yX2_size wsX2_size) := goodIn_app (goodIn_of _ (by decide +kernel)) ggX8_count_X2_size
set_option maxRecDepth 20000 in
theorem ggX8_count_X6_size : GoodIn wsX8_count wsX6_size := goodIn_r _ [127, 128, 165, 166] (by decide +kernel) (by decide +kernel)
set_option maxRecDepth 20000 in
theorem gX8_count_X6_size : GoodIn wsX8_count (wsV RX8 58 RX6 yX6_size wsX6_size) := goodIn_app (goodIn_of _ (by decide +kernel)) ggX8_count_X6_size
theorem dX8_count_0 : decode cX8_count 0 = .ok (.iload_n 1, 1) := by decide +kernel
theorem dX8_count_1 : decode cX8_count 1 = .ok (.tableswitch 271 0 16 #[83, 94, 113, 121, 132, 143, 151, 163, 175, 187, 199, 211, 223, 235, 247, 255, 263], 83) := by decide +kernel
theorem dX8_count_84 : decode cX8_count 84 = .ok (.aload_n 0, 1) := by decide +kernel
theorem dX8_count_85 : decode cX8_count 85 = .ok (.getfield 19, 3) := by decide +kernel
theorem dX8_count_88 : decode cX8_count 88 = .ok (.getfield 80, 3) := by decide +kernel
theorem dX8_count_91 : decode cX8_count 91 = .ok (.invokevirtual 94, 3) := by decide +kernel
theorem dX8_count_94 : decode cX8_count 94 = .ok (.ireturn, 1) := by decide +kernel
theorem dX8_count_95 : decode cX8_count 95 = .ok (.aload_n 0, 1) := by decide +kernel
theorem dX8_count_96 : decode cX8_count 96 = .ok (.getfield 54, 3) := by decide +kernel
theorem dX8_count_99 : decode cX8_count 99 = .ok (.iconst 0, 1) := by decide +kernel
theorem dX8_count_100 : decode cX8_count 100 = .ok (.aload_n 0, 1) := by decide +kernel
theorem dX8_count_101 : decode cX8_count 101 = .ok (.getfield 19, 3) := by decide +kernel
theorem dX8_count_104 : decode cX8_count 104 = .ok (.getfield 80, 3) := by decide +kernel
theorem dX8_count_107 : decode cX8_count 107 = .ok (.invokevirtual 94, 3) := by decide +kernel
theorem dX8_count_110 : decode cX8_count 110 = .ok (.invokevirtual 136, 3) := by decide +kernel
theorem dX8_count_113 : decode cX8_count 113 = .ok (.ireturn, 1) := by decide +kernel
theorem dX8_count_114 : decode cX8_count 114 = .ok (.aload_n 0, 1) := by decide +kernel
theorem dX8_count_115 : decode cX8_count 115 = .ok (.getfield 54, 3) := by decide +kernel
theorem dX8_count_118 : decode cX8_count 118 = .ok (.invokevirtual 140, 3) := by decide +kernel
theorem dX8_count_121 : decode cX8_count 121 = .ok (.ireturn, 1) := by decide +kernel
theorem dX8_count_122 : decode cX8_count 122 = .ok (.aload_n 0, 1) := by decide +kernel
theorem dX8_count_123 : decode cX8_count 123 = .ok (.getfield 19, 3) := by decide +kernel
theorem dX8_count_126 : decode cX8_count 126 = .ok (.getfield 95, 3) := by decide +kernel
theorem dX8_count_129 : decode cX8_count 129 = .ok (.invokevirtual 94, 3) := by decide +kernel
theorem dX8_count_132 : decode cX8_count 132 = .ok (.ireturn, 1) := by decide +kernel
theorem dX8_count_133 : decode cX8_count 133 = .ok (.aload_n 0, 1) := by decide +kernel
theorem dX8_count_134 : decode cX8_count 134 = .ok (.getfield 19, 3) := by decide +kernel
theorem dX8_count_137 : decode cX8_count 137 = .ok (.getfield 102, 3) := by decide +kernel
theorem dX8_count_140 : decode cX8_count 140 = .ok (.invokevirtual 94, 3) := by decide +kernel
theorem dX8_count_143 : decode cX8_count 143 = .ok (.ireturn, 1) := by decide +kernel
theorem dX8_count_144 : decode cX8_count 144 = .ok (.aload_n 0, 1) := by decide +kernel
theorem dX8_count_145 : decode cX8_count 145 = .ok (.getfield 33, 3) := by decide +kernel
theorem dX8_count_148 : decode cX8_count 148 = .ok (.invokevirtual 143, 3) := by decide +kernel
theorem dX8_count_151 : decode cX8_count 151 = .ok (.ireturn, 1) := by decide +kernel
theorem dX8_count_152 : decode cX8_count 152 = .ok (.aload_n 0, 1) := by decide +kernel
theorem dX8_count_153 : decode cX8_count 153 = .ok (.getfield 19, 3) := by decide +kernel
theorem dX8_count_156 : decode cX8_count 156 = .ok (.getfield 133, 3) := by decide +kernel
theorem dX8_count_159 : decode cX8_count 159 = .ok (.iconst 0, 1) := by decide +kernel
theorem dX8_count_160 : decode cX8_count 160 = .ok (.invokevirtual 117, 3) := by decide +kernel
theorem dX8_count_163 : decode cX8_count 163 = .ok (.ireturn, 1) := by decide +kernel
theorem dX8_count_164 : decode cX8_count 164 = .ok (.aload_n 0, 1) := by decide +kernel
theorem dX8_count_165 : decode cX8_count 165 = .ok (.getfield 19, 3) := by decide +kernel
theorem dX8_count_168 : decode cX8_count 168 = .ok (.getfield 133, 3) := by decide +kernel
theorem dX8_count_171 : decode cX8_count 171 = .ok (.iconst 1, 1) := by decide +kernel
theorem dX8_count_172 : decode cX8_count 172 = .ok (.invokevirtual 117, 3) := by decide +kernel
theorem dX8_count_175 : decode cX8_count 175 = .ok (.ireturn, 1) := by decide +kernel
theorem dX8_count_176 : decode cX8_count 176 = .ok (.aload_n 0, 1) := by decide +kernel
theorem dX8_count_177 : decode cX8_count 177 = .ok (.getfield 19, 3) := by decide +kernel
theorem dX8_count_180 : decode cX8_count 180 = .ok (.getfield 133, 3) := by decide +kernel
theorem dX8_count_183 : decode cX8_count 183 = .ok (.iconst 2, 1) := by decide +kernel
theorem dX8_count_184 : decode cX8_count 184 = .ok (.invokevirtual 117, 3) := by decide +kernel
theorem dX8_count_187 : decode cX8_count 187 = .ok (.ireturn, 1) := by decide +kernel
theorem dX8_count_188 : decode cX8_count 188 = .ok (.aload_n 0, 1) := by decide +kernel
theorem dX8_count_189 : decode cX8_count 189 = .ok (.getfield 19, 3) := by decide +kernel
theorem dX8_count_192 : decode cX8_count 192 = .ok (.getfield 133, 3) := by decide +kernel
theorem dX8_count_195 : decode cX8_count 195 = .ok (.iconst 3, 1) := by decide +kernel
theorem dX8_count_196 : decode cX8_count 196 = .ok (.invokevirtual 117, 3) := by decide +kernel
theorem dX8_count_199 : decode cX8_count 199 = .ok (.ireturn, 1) := by decide +kernel
theorem dX8_count_200 : decode cX8_count 200 = .ok (.aload_n 0, 1) := by decide +kernel
theorem dX8_count_201 : decode cX8_count 201 = .ok (.getfield 19, 3) := by decide +kernel
theorem dX8_count_204 : decode cX8_count 204 = .ok (.getfield 133, 3) := by decide +kernel
theorem dX8_count_207 : decode cX8_count 207 = .ok (.iconst 4, 1) := by decide +kernel
theorem dX8_count_208 : decode cX8_count 208 = .ok (.invokevirtual 117, 3) := by decide +kernel
theorem dX8_count_211 : decode cX8_count 211 = .ok (.ireturn, 1) := by decide +kernel
theorem dX8_count_212 : decode cX8_count 212 = .ok (.aload_n 0, 1) := by decide +kernel
theorem dX8_count_213 : decode cX8_count 213 = .ok (.getfield 54, 3) := by decide +kernel
theorem dX8_count_216 : decode cX8_count 216 = .ok (.aload_n 0, 1) := by decide +kernel
theorem dX8_count_217 : decode cX8_count 217 = .ok (.getfield 42, 3) := by decide +kernel
theorem dX8_count_220 : decode cX8_count 220 = .ok (.invokevirtual 144, 3) := by decide +kernel
theorem dX8_count_223 : decode cX8_count 223 = .ok (.ireturn, 1) := by decide +kernel
theorem dX8_count_224 : decode cX8_count 224 = .ok (.aload_n 0, 1) := by decide +kernel
theorem dX8_count_225 : decode cX8_count 225 = .ok (.getfield 54, 3) := by decide +kernel
theorem dX8_count_228 : decode cX8_count 228 = .ok (.aload_n 0, 1) := by decide +kernel
theorem dX8_count_229 : decode cX8_count 229 = .ok (.getfield 42, 3) := by decide +kernel
theorem dX8_count_232 : decode cX8_count 232 = .ok (.invokevirtual 148, 3) := by decide +kernel
theorem dX8_count_235 : decode cX8_count 235 = .ok (.ireturn, 1) := by decide +kernel
theorem dX8_count_236 : decode cX8_count 236 = .ok (.aload_n 0, 1) := by decide +kernel
theorem dX8_count_237 : decode cX8_count 237 = .ok (.getfield 54, 3) := by decide +kernel
theorem dX8_count_240 : decode cX8_count 240 = .ok (.aload_n 0, 1) := by decide +kernel
theorem dX8_count_241 : decode cX8_count 241 = .ok (.getfield 42, 3) := by decide +kernel
theorem dX8_count_244 : decode cX8_count 244 = .ok (.invokevirtual 151, 3) := by decide +kernel
theorem dX8_count_247 : decode cX8_count 247 = .ok (.ireturn, 1) := by decide +kernel
theorem dX8_count_248 : decode cX8_count 248 = .ok (.aload_n 0, 1) := by decide +kernel
theorem dX8_count_249 : decode cX8_count 249 = .ok (.getfield 54, 3) := by decide +kernel
theorem dX8_count_252 : decode cX8_count 252 = .ok (.invokevirtual 154, 3) := by decide +kernel
theorem dX8_count_255 : decode cX8_count 255 = .ok (.ireturn, 1) := by decide +kernel
theorem dX8_count_256 : decode cX8_count 256 = .ok (.aload_n 0, 1) := by decide +kernel
theorem dX8_count_257 : decode cX8_count 257 = .ok (.getfield 26, 3) := by decide +kernel
theorem dX8_count_260 : decode cX8_count 260 = .ok (.invokevirtual 157, 3) := by decide +kernel
theorem dX8_count_263 : decode cX8_count 263 = .ok (.ireturn, 1) := by decide +kernel
theorem dX8_count_264 : decode cX8_count 264 = .ok (.aload_n 0, 1) := by decide +kernel
theorem dX8_count_265 : decode cX8_count 265 = .ok (.getfield 12, 3) := by decide +kernel
theorem dX8_count_268 : decode cX8_count 268 = .ok (.invokevirtual 58, 3) := by decide +kernel
theorem dX8_count_271 : decode cX8_count 271 = .ok (.ireturn, 1) := by decide +kernel
theorem dX8_count_272 : decode cX8_count 272 = .ok (.bipush (-11), 2) := by decide +kernel
theorem dX8_count_274 : decode cX8_count 274 = .ok (.ireturn, 1) := by decide +kernel
set_option maxRecDepth 20000 in
theorem ggX8_word_X7_has : GoodIn wsX8_word wsX7_has := goodIn_r _ [7, 8, 101, 102, 103, 104, 105] (by decide +kernel) (by decide +kernel)
set_option maxRecDepth 20000 in
theorem gX8_word_X7_has : GoodIn wsX8_word (wsV RX8 158 RX7 yX7_has wsX7_has) := goodIn_app (goodIn_of _ (by decide +kernel)) ggX8_word_X7_has
set_option maxRecDepth 20000 in
theorem ggX8_word_X7_lengthOf : GoodIn wsX8_word wsX7_lengthOf := goodIn_r _ [12, 13, 14, 15, 16, 17, 18, 19, 101, 102, 103, 104, 105, 106] (by decide +kernel) (by decide +kernel)
set_option maxRecDepth 20000 in
theorem gX8_word_X7_lengthOf : GoodIn wsX8_word (wsV RX8 161 RX7 yX7_lengthOf wsX7_lengthOf) := goodIn_app (goodIn_of _ (by decide +kernel)) ggX8_word_X7_lengthOf
set_option maxRecDepth 20000 in
theorem ggX8_word_X4_ownWidthOf : GoodIn wsX8_word wsX4_ownWidthOf := goodIn_r _ [24, 25, 26, 15, 16, 17, 18, 19, 107, 108, 109, 110, 111, 112, 113, 114, 115, 106] (by decide +kernel) (by decide +kernel)
set_option maxRecDepth 20000 in
theorem gX8_word_X4_ownWidthOf : GoodIn wsX8_word (wsV RX8 164 RX4 yX4_ownWidthOf wsX4_ownWidthOf) := goodIn_app (goodIn_of _ (by decide +kernel)) ggX8_word_X4_ownWidthOf
set_option maxRecDepth 20000 in
theorem ggX8_word_X4_shownWidthOf : GoodIn wsX8_word wsX4_shownWidthOf := goodIn_r _ [30, 31, 26, 15, 16, 17, 18, 19, 107, 108, 109, 110, 111, 112, 113, 114, 115, 106] (by decide +kernel) (by decide +kernel)
set_option maxRecDepth 20000 in
theorem gX8_word_X4_shownWidthOf : GoodIn wsX8_word (wsV RX8 167 RX4 yX4_shownWidthOf wsX4_shownWidthOf) := goodIn_app (goodIn_of _ (by decide +kernel)) ggX8_word_X4_shownWidthOf
set_option maxRecDepth 20000 in
theorem ggX8_word_X4_isHidden : GoodIn wsX8_word wsX4_isHidden := goodIn_r _ [35, 36, 26, 15, 16, 17, 18, 19, 107, 108, 109, 110, 111, 112, 113, 114, 115, 106] (by decide +kernel) (by decide +kernel)
set_option maxRecDepth 20000 in
theorem gX8_word_X4_isHidden : GoodIn wsX8_word (wsV RX8 170 RX4 yX4_isHidden wsX4_isHidden) := goodIn_app (goodIn_of _ (by decide +kernel)) ggX8_word_X4_isHidden
set_option maxRecDepth 20000 in
theorem ggX8_word_X4_lineOf : GoodIn wsX8_word wsX4_lineOf := goodIn_r _ [40, 41, 26, 15, 16, 17, 18, 19, 107, 108, 109, 110, 111, 112, 113, 114, 115, 106] (by decide +kernel) (by decide +kernel)
set_option maxRecDepth 20000 in
theorem gX8_word_X4_lineOf : GoodIn wsX8_word (wsV RX8 173 RX4 yX4_lineOf wsX4_lineOf) := goodIn_app (goodIn_of _ (by decide +kernel)) ggX8_word_X4_lineOf
set_option maxRecDepth 20000 in
theorem ggX8_word_X4_placeOf : GoodIn wsX8_word wsX4_placeOf := goodIn_r _ [45, 46, 26, 15, 16, 17, 18, 19, 107, 108, 109, 110, 111, 112, 113, 114, 115, 106] (by decide +kernel) (by decide +kernel)
set_option maxRecDepth 20000 in
theorem gX8_word_X4_placeOf : GoodIn wsX8_word (wsV RX8 176 RX4 yX4_placeOf wsX4_placeOf) := goodIn_app (goodIn_of _ (by decide +kernel)) ggX8_word_X4_placeOf
set_option maxRecDepth 20000 in
theorem ggX8_word_X8_hiddenWord : GoodIn wsX8_word wsX8_hiddenWord := goodIn_r _ [51, 2, 52, 53, 32, 33, 34, 23, 35, 36, 26, 15, 16, 17, 18, 19, 27, 28, 29, 30, 31, 54, 55, 56, 57, 58, 59, 60, 61, 62, 63, 64, 65, 66, 67, 68, 69, 70, 71, 72, 73, 74, 75, 76, 77, 78, 79, 80, 81, 82, 83, 84, 85, 86, 87, 88, 89, 90, 91, 92, 93, 94, 95, 107, 108, 109, 110, 111, 112, 113, 114, 115, 106, 116, 117, 118, 119, 120, 121, 122] (by decide +kernel) (by decide +kernel)
set_option maxRecDepth 20000 in
theorem gX8_word_X8_hiddenWord : GoodIn wsX8_word (wsV RX8 179 RX8 yX8_hiddenWord wsX8_hiddenWord) := goodIn_app (goodIn_of _ (by decide +kernel)) ggX8_word_X8_hiddenWord
theorem dX8_word_0 : decode cX8_word 0 = .ok (.aload_n 0, 1) := by decide +kernel
theorem dX8_word_1 : decode cX8_word 1 = .ok (.getfield 19, 3) := by decide +kernel
theorem dX8_word_4 : decode cX8_word 4 = .ok (.getfield 80, 3) := by decide +kernel
theorem dX8_word_7 : decode cX8_word 7 = .ok (.iload_n 1, 1) := by decide +kernel
theorem dX8_word_8 : decode cX8_word 8 = .ok (.invokevirtual 158, 3) := by decide +kernel
theorem dX8_word_11 : decode cX8_word 11 = .ok (.ifCond .eq 13, 3) := by decide +kernel
theorem dX8_word_14 : decode cX8_word 14 = .ok (.iload_n 2, 1) := by decide +kernel
theorem dX8_word_15 : decode cX8_word 15 = .ok (.ifCond .lt 9, 3) := by decide +kernel
theorem dX8_word_18 : decode cX8_word 18 = .ok (.iload_n 2, 1) := by decide +kernel
theorem dX8_word_19 : decode cX8_word 19 = .ok (.bipush 9, 2) := by decide +kernel
theorem dX8_word_21 : decode cX8_word 21 = .ok (.if_icmp .le 6, 3) := by decide +kernel
theorem dX8_word_24 : decode cX8_word 24 = .ok (.bipush (-11), 2) := by decide +kernel
theorem dX8_word_26 : decode cX8_word 26 = .ok (.ireturn, 1) := by decide +kernel
theorem dX8_word_27 : decode cX8_word 27 = .ok (.iload_n 2, 1) := by decide +kernel
theorem dX8_word_28 : decode cX8_word 28 = .ok (.tableswitch 113 0 7 #[48, 60, 69, 78, 113, 113, 95, 104], 48) := by decide +kernel
theorem dX8_word_76 : decode cX8_word 76 = .ok (.aload_n 0, 1) := by decide +kernel
theorem dX8_word_77 : decode cX8_word 77 = .ok (.getfield 19, 3) := by decide +kernel
theorem dX8_word_80 : decode cX8_word 80 = .ok (.getfield 80, 3) := by decide +kernel
theorem dX8_word_83 : decode cX8_word 83 = .ok (.iload_n 1, 1) := by decide +kernel
theorem dX8_word_84 : decode cX8_word 84 = .ok (.invokevirtual 161, 3) := by decide +kernel
theorem dX8_word_87 : decode cX8_word 87 = .ok (.ireturn, 1) := by decide +kernel
theorem dX8_word_88 : decode cX8_word 88 = .ok (.aload_n 0, 1) := by decide +kernel
theorem dX8_word_89 : decode cX8_word 89 = .ok (.getfield 54, 3) := by decide +kernel
theorem dX8_word_92 : decode cX8_word 92 = .ok (.iload_n 1, 1) := by decide +kernel
theorem dX8_word_93 : decode cX8_word 93 = .ok (.invokevirtual 164, 3) := by decide +kernel
theorem dX8_word_96 : decode cX8_word 96 = .ok (.ireturn, 1) := by decide +kernel
theorem dX8_word_97 : decode cX8_word 97 = .ok (.aload_n 0, 1) := by decide +kernel
theorem dX8_word_98 : decode cX8_word 98 = .ok (.getfield 54, 3) := by decide +kernel
theorem dX8_word_101 : decode cX8_word 101 = .ok (.iload_n 1, 1) := by decide +kernel
theorem dX8_word_102 : decode cX8_word 102 = .ok (.invokevirtual 167, 3) := by decide +kernel
theorem dX8_word_105 : decode cX8_word 105 = .ok (.ireturn, 1) := by decide +kernel
theorem dX8_word_106 : decode cX8_word 106 = .ok (.aload_n 0, 1) := by decide +kernel
theorem dX8_word_107 : decode cX8_word 107 = .ok (.getfield 54, 3) := by decide +kernel
theorem dX8_word_110 : decode cX8_word 110 = .ok (.iload_n 1, 1) := by decide +kernel
theorem dX8_word_111 : decode cX8_word 111 = .ok (.invokevirtual 170, 3) := by decide +kernel
theorem dX8_word_114 : decode cX8_word 114 = .ok (.ifCond .eq 7, 3) := by decide +kernel
theorem dX8_word_117 : decode cX8_word 117 = .ok (.iconst 1, 1) := by decide +kernel
theorem dX8_word_118 : decode cX8_word 118 = .ok (.goto 4, 3) := by decide +kernel
theorem dX8_word_121 : decode cX8_word 121 = .ok (.iconst 0, 1) := by decide +kernel
theorem dX8_word_122 : decode cX8_word 122 = .ok (.ireturn, 1) := by decide +kernel
theorem dX8_word_123 : decode cX8_word 123 = .ok (.aload_n 0, 1) := by decide +kernel
theorem dX8_word_124 : decode cX8_word 124 = .ok (.getfield 54, 3) := by decide +kernel
theorem dX8_word_127 : decode cX8_word 127 = .ok (.iload_n 1, 1) := by decide +kernel
theorem dX8_word_128 : decode cX8_word 128 = .ok (.invokevirtual 173, 3) := by decide +kernel
theorem dX8_word_131 : decode cX8_word 131 = .ok (.ireturn, 1) := by decide +kernel
theorem dX8_word_132 : decode cX8_word 132 = .ok (.aload_n 0, 1) := by decide +kernel
theorem dX8_word_133 : decode cX8_word 133 = .ok (.getfield 54, 3) := by decide +kernel
theorem dX8_word_136 : decode cX8_word 136 = .ok (.iload_n 1, 1) := by decide +kernel
theorem dX8_word_137 : decode cX8_word 137 = .ok (.invokevirtual 176, 3) := by decide +kernel
theorem dX8_word_140 : decode cX8_word 140 = .ok (.ireturn, 1) := by decide +kernel
theorem dX8_word_141 : decode cX8_word 141 = .ok (.aload_n 0, 1) := by decide +kernel
theorem dX8_word_142 : decode cX8_word 142 = .ok (.iload_n 1, 1) := by decide +kernel
theorem dX8_word_143 : decode cX8_word 143 = .ok (.iload_n 2, 1) := by decide +kernel
theorem dX8_word_144 : decode cX8_word 144 = .ok (.invokevirtual 179, 3) := by decide +kernel
theorem dX8_word_147 : decode cX8_word 147 = .ok (.ireturn, 1) := by decide +kernel
set_option maxRecDepth 20000 in
theorem ggX8_letter_X7_has : GoodIn wsX8_letter wsX7_has := goodIn_r _ [7, 8, 45, 46, 47, 48, 49] (by decide +kernel) (by decide +kernel)
set_option maxRecDepth 20000 in
theorem gX8_letter_X7_has : GoodIn wsX8_letter (wsV RX8 158 RX7 yX7_has wsX7_has) := goodIn_app (goodIn_of _ (by decide +kernel)) ggX8_letter_X7_has
set_option maxRecDepth 20000 in
theorem ggX8_letter_X4_isHidden : GoodIn wsX8_letter wsX4_isHidden := goodIn_r _ [13, 14, 15, 16, 17, 18, 19, 20, 50, 51, 52, 53, 54, 55, 56, 57, 58, 59] (by decide +kernel) (by decide +kernel)
set_option maxRecDepth 20000 in
theorem gX8_letter_X4_isHidden : GoodIn wsX8_letter (wsV RX8 170 RX4 yX4_isHidden wsX4_isHidden) := goodIn_app (goodIn_of _ (by decide +kernel)) ggX8_letter_X4_isHidden
set_option maxRecDepth 20000 in
theorem ggX8_letter_X7_lengthOf : GoodIn wsX8_letter wsX7_lengthOf := goodIn_r _ [24, 25, 26, 16, 17, 18, 19, 20, 45, 46, 47, 48, 49, 59] (by decide +kernel) (by decide +kernel)
set_option maxRecDepth 20000 in
theorem gX8_letter_X7_lengthOf : GoodIn wsX8_letter (wsV RX8 161 RX7 yX7_lengthOf wsX7_lengthOf) := goodIn_app (goodIn_of _ (by decide +kernel)) ggX8_letter_X7_lengthOf
set_option maxRecDepth 20000 in
theorem ggX8_letter_X7_letterOf : GoodIn wsX8_letter wsX7_letterOf := goodIn_r _ [30, 31, 32, 26, 16, 17, 18, 19, 20, 45, 46, 47, 48, 49, 59] (by decide +kernel) (by decide +kernel)
set_option maxRecDepth 20000 in
theorem gX8_letter_X7_letterOf : GoodIn wsX8_letter (wsV RX8 182 RX7 yX7_letterOf wsX7_letterOf) := goodIn_app (goodIn_of _ (by decide +kernel)) ggX8_letter_X7_letterOf
theorem dX8_letter_0 : decode cX8_letter 0 = .ok (.aload_n 0, 1) := by decide +kernel
theorem dX8_letter_1 : decode cX8_letter 1 = .ok (.getfield 19, 3) := by decide +kernel
theorem dX8_letter_4 : decode cX8_letter 4 = .ok (.getfield 80, 3) := by decide +kernel
theorem dX8_letter_7 : decode cX8_letter 7 = .ok (.iload_n 1, 1) := by decide +kernel
theorem dX8_letter_8 : decode cX8_letter 8 = .ok (.invokevirtual 158, 3) := by decide +kernel
theorem dX8_letter_11 : decode cX8_letter 11 = .ok (.ifCond .eq 7, 3) := by decide +kernel
theorem dX8_letter_14 : decode cX8_letter 14 = .ok (.iload_n 2, 1) := by decide +kernel
theorem dX8_letter_15 : decode cX8_letter 15 = .ok (.ifCond .ge 6, 3) := by decide +kernel
theorem dX8_letter_18 : decode cX8_letter 18 = .ok (.bipush (-11), 2) := by decide +kernel
theorem dX8_letter_20 : decode cX8_letter 20 = .ok (.ireturn, 1) := by decide +kernel
theorem dX8_letter_21 : decode cX8_letter 21 = .ok (.aload_n 0, 1) := by decide +kernel
theorem dX8_letter_22 : decode cX8_letter 22 = .ok (.getfield 54, 3) := by decide +kernel
theorem dX8_letter_25 : decode cX8_letter 25 = .ok (.iload_n 1, 1) := by decide +kernel
theorem dX8_letter_26 : decode cX8_letter 26 = .ok (.invokevirtual 170, 3) := by decide +kernel
theorem dX8_letter_29 : decode cX8_letter 29 = .ok (.ifCond .eq 6, 3) := by decide +kernel
theorem dX8_letter_32 : decode cX8_letter 32 = .ok (.bipush (-12), 2) := by decide +kernel
theorem dX8_letter_34 : decode cX8_letter 34 = .ok (.ireturn, 1) := by decide +kernel
theorem dX8_letter_35 : decode cX8_letter 35 = .ok (.iload_n 2, 1) := by decide +kernel
theorem dX8_letter_36 : decode cX8_letter 36 = .ok (.aload_n 0, 1) := by decide +kernel
theorem dX8_letter_37 : decode cX8_letter 37 = .ok (.getfield 19, 3) := by decide +kernel
theorem dX8_letter_40 : decode cX8_letter 40 = .ok (.getfield 80, 3) := by decide +kernel
theorem dX8_letter_43 : decode cX8_letter 43 = .ok (.iload_n 1, 1) := by decide +kernel
theorem dX8_letter_44 : decode cX8_letter 44 = .ok (.invokevirtual 161, 3) := by decide +kernel
theorem dX8_letter_47 : decode cX8_letter 47 = .ok (.if_icmp .lt 6, 3) := by decide +kernel
theorem dX8_letter_50 : decode cX8_letter 50 = .ok (.bipush (-14), 2) := by decide +kernel
theorem dX8_letter_52 : decode cX8_letter 52 = .ok (.ireturn, 1) := by decide +kernel
theorem dX8_letter_53 : decode cX8_letter 53 = .ok (.aload_n 0, 1) := by decide +kernel
theorem dX8_letter_54 : decode cX8_letter 54 = .ok (.getfield 19, 3) := by decide +kernel
theorem dX8_letter_57 : decode cX8_letter 57 = .ok (.getfield 80, 3) := by decide +kernel
theorem dX8_letter_60 : decode cX8_letter 60 = .ok (.iload_n 1, 1) := by decide +kernel
theorem dX8_letter_61 : decode cX8_letter 61 = .ok (.iload_n 2, 1) := by decide +kernel
theorem dX8_letter_62 : decode cX8_letter 62 = .ok (.invokevirtual 182, 3) := by decide +kernel
theorem dX8_letter_65 : decode cX8_letter 65 = .ok (.ireturn, 1) := by decide +kernel
set_option maxRecDepth 20000 in
theorem ggX8_line_X4_hasLine : GoodIn wsX8_line wsX4_hasLine := goodIn_r _ [11, 12, 66, 67, 68, 69, 70, 71, 72, 73, 74] (by decide +kernel) (by decide +kernel)
set_option maxRecDepth 20000 in
theorem gX8_line_X4_hasLine : GoodIn wsX8_line (wsV RX8 185 RX4 yX4_hasLine wsX4_hasLine) := goodIn_app (goodIn_of _ (by decide +kernel)) ggX8_line_X4_hasLine
set_option maxRecDepth 20000 in
theorem ggX8_line_X4_firstWordOf : GoodIn wsX8_line wsX4_firstWordOf := goodIn_r _ [16, 17, 18, 19, 20, 21, 22, 23, 66, 67, 68, 69, 70, 71, 72, 73, 74, 75] (by decide +kernel) (by decide +kernel)
set_option maxRecDepth 20000 in
theorem gX8_line_X4_firstWordOf : GoodIn wsX8_line (wsV RX8 188 RX4 yX4_firstWordOf wsX4_firstWordOf) := goodIn_app (goodIn_of _ (by decide +kernel)) ggX8_line_X4_firstWordOf
set_option maxRecDepth 20000 in
theorem ggX8_line_X4_firstWordBehind : GoodIn wsX8_line wsX4_firstWordBehind := goodIn_r _ [27, 12, 17, 28, 18, 19, 20, 21, 22, 23, 29, 30, 31, 32, 33, 34, 66, 67, 68, 69, 70, 71, 72, 73, 74, 61, 62, 63, 64, 65, 75, 76, 77, 78, 79, 80] (by decide +kernel) (by decide +kernel)
set_option maxRecDepth 20000 in
theorem gX8_line_X4_firstWordBehind : GoodIn wsX8_line (wsV RX8 191 RX4 yX4_firstWordBehind wsX4_firstWordBehind) := goodIn_app (goodIn_of _ (by decide +kernel)) ggX8_line_X4_firstWordBehind
set_option maxRecDepth 20000 in
theorem ggX8_line_X4_widthBetween : GoodIn wsX8_line wsX4_widthBetween := goodIn_r _ [38, 28, 39, 40, 41, 10, 42, 43, 18, 19, 20, 21, 22, 23, 66, 67, 68, 69, 70, 71, 72, 73, 74, 61, 62, 63, 64, 65, 75] (by decide +kernel) (by decide +kernel)
set_option maxRecDepth 20000 in
theorem gX8_line_X4_widthBetween : GoodIn wsX8_line (wsV RX8 194 RX4 yX4_widthBetween wsX4_widthBetween) := goodIn_app (goodIn_of _ (by decide +kernel)) ggX8_line_X4_widthBetween
set_option maxRecDepth 20000 in
theorem ggX8_line_X3_at : GoodIn wsX8_line wsX3_at := goodIn_r _ [22, 23, 75] (by decide +kernel) (by decide +kernel)
set_option maxRecDepth 20000 in
theorem gX8_line_X3_at : GoodIn wsX8_line (wsV RX8 117 RX3 yX3_at wsX3_at) := goodIn_app (goodIn_of _ (by decide +kernel)) ggX8_line_X3_at
set_option maxRecDepth 20000 in
theorem ggX8_line_X4_barsBetween : GoodIn wsX8_line wsX4_barsBetween := goodIn_r _ [48, 49, 50, 51, 10, 52, 53, 18, 19, 20, 21, 22, 23, 66, 67, 68, 69, 70, 71, 72, 73, 74, 75] (by decide +kernel) (by decide +kernel)
set_option maxRecDepth 20000 in
theorem gX8_line_X4_barsBetween : GoodIn wsX8_line (wsV RX8 136 RX4 yX4_barsBetween wsX4_barsBetween) := goodIn_app (goodIn_of _ (by decide +kernel)) ggX8_line_X4_barsBetween
theorem dX8_line_0 : decode cX8_line 0 = .ok (.aload_n 0, 1) := by decide +kernel
theorem dX8_line_1 : decode cX8_line 1 = .ok (.getfield 54, 3) := by decide +kernel
theorem dX8_line_4 : decode cX8_line 4 = .ok (.iload_n 1, 1) := by decide +kernel
theorem dX8_line_5 : decode cX8_line 5 = .ok (.invokevirtual 185, 3) := by decide +kernel
theorem dX8_line_8 : decode cX8_line 8 = .ok (.ifCond .ne 6, 3) := by decide +kernel
theorem dX8_line_11 : decode cX8_line 11 = .ok (.bipush (-11), 2) := by decide +kernel
theorem dX8_line_13 : decode cX8_line 13 = .ok (.ireturn, 1) := by decide +kernel
theorem dX8_line_14 : decode cX8_line 14 = .ok (.aload_n 0, 1) := by decide +kernel
theorem dX8_line_15 : decode cX8_line 15 = .ok (.getfield 54, 3) := by decide +kernel
theorem dX8_line_18 : decode cX8_line 18 = .ok (.iload_n 1, 1) := by decide +kernel
theorem dX8_line_19 : decode cX8_line 19 = .ok (.invokevirtual 188, 3) := by decide +kernel
theorem dX8_line_22 : decode cX8_line 22 = .ok (.istore_n 3, 1) := by decide +kernel
theorem dX8_line_23 : decode cX8_line 23 = .ok (.aload_n 0, 1) := by decide +kernel
theorem dX8_line_24 : decode cX8_line 24 = .ok (.getfield 54, 3) := by decide +kernel
theorem dX8_line_27 : decode cX8_line 27 = .ok (.iload_n 1, 1) := by decide +kernel
theorem dX8_line_28 : decode cX8_line 28 = .ok (.invokevirtual 191, 3) := by decide +kernel
theorem dX8_line_31 : decode cX8_line 31 = .ok (.istore 4, 2) := by decide +kernel
theorem dX8_line_33 : decode cX8_line 33 = .ok (.iload_n 2, 1) := by decide +kernel
theorem dX8_line_34 : decode cX8_line 34 = .ok (.tableswitch 90 0 4 #[34, 36, 41, 52, 79], 34) := by decide +kernel
theorem dX8_line_68 : decode cX8_line 68 = .ok (.iload_n 3, 1) := by decide +kernel
theorem dX8_line_69 : decode cX8_line 69 = .ok (.ireturn, 1) := by decide +kernel
theorem dX8_line_70 : decode cX8_line 70 = .ok (.iload 4, 2) := by decide +kernel
theorem dX8_line_72 : decode cX8_line 72 = .ok (.iload_n 3, 1) := by decide +kernel
theorem dX8_line_73 : decode cX8_line 73 = .ok (.isub, 1) := by decide +kernel
theorem dX8_line_74 : decode cX8_line 74 = .ok (.ireturn, 1) := by decide +kernel
theorem dX8_line_75 : decode cX8_line 75 = .ok (.aload_n 0, 1) := by decide +kernel
theorem dX8_line_76 : decode cX8_line 76 = .ok (.getfield 54, 3) := by decide +kernel
theorem dX8_line_79 : decode cX8_line 79 = .ok (.iload_n 3, 1) := by decide +kernel
theorem dX8_line_80 : decode cX8_line 80 = .ok (.iload 4, 2) := by decide +kernel
theorem dX8_line_82 : decode cX8_line 82 = .ok (.invokevirtual 194, 3) := by decide +kernel
theorem dX8_line_85 : decode cX8_line 85 = .ok (.ireturn, 1) := by decide +kernel
theorem dX8_line_86 : decode cX8_line 86 = .ok (.iconst 0, 1) := by decide +kernel
theorem dX8_line_87 : decode cX8_line 87 = .ok (.aload_n 0, 1) := by decide +kernel
theorem dX8_line_88 : decode cX8_line 88 = .ok (.getfield 19, 3) := by decide +kernel
theorem dX8_line_91 : decode cX8_line 91 = .ok (.getfield 133, 3) := by decide +kernel
theorem dX8_line_94 : decode cX8_line 94 = .ok (.iconst 4, 1) := by decide +kernel
theorem dX8_line_95 : decode cX8_line 95 = .ok (.invokevirtual 117, 3) := by decide +kernel
theorem dX8_line_98 : decode cX8_line 98 = .ok (.aload_n 0, 1) := by decide +kernel
theorem dX8_line_99 : decode cX8_line 99 = .ok (.getfield 54, 3) := by decide +kernel
theorem dX8_line_102 : decode cX8_line 102 = .ok (.iload_n 3, 1) := by decide +kernel
theorem dX8_line_103 : decode cX8_line 103 = .ok (.iload 4, 2) := by decide +kernel
theorem dX8_line_105 : decode cX8_line 105 = .ok (.invokevirtual 194, 3) := by decide +kernel
theorem dX8_line_108 : decode cX8_line 108 = .ok (.isub, 1) := by decide +kernel
theorem dX8_line_109 : decode cX8_line 109 = .ok (.invokestatic 197, 3) := by decide +kernel
theorem dX8_line_112 : decode cX8_line 112 = .ok (.ireturn, 1) := by decide +kernel
theorem dX8_line_113 : decode cX8_line 113 = .ok (.aload_n 0, 1) := by decide +kernel
theorem dX8_line_114 : decode cX8_line 114 = .ok (.getfield 54, 3) := by decide +kernel
theorem dX8_line_117 : decode cX8_line 117 = .ok (.iload_n 3, 1) := by decide +kernel
theorem dX8_line_118 : decode cX8_line 118 = .ok (.iload 4, 2) := by decide +kernel
theorem dX8_line_120 : decode cX8_line 120 = .ok (.invokevirtual 136, 3) := by decide +kernel
theorem dX8_line_123 : decode cX8_line 123 = .ok (.ireturn, 1) := by decide +kernel
theorem dX8_line_124 : decode cX8_line 124 = .ok (.bipush (-11), 2) := by decide +kernel
theorem dX8_line_126 : decode cX8_line 126 = .ok (.ireturn, 1) := by decide +kernel
set_option maxRecDepth 20000 in
theorem ggX8_widthAgain_X4_hasLine : GoodIn wsX8_widthAgain wsX4_hasLine := goodIn_r _ [6, 7, 43, 44, 45, 46, 47, 48, 49, 50, 51] (by decide +kernel) (by decide +kernel)
set_option maxRecDepth 20000 in
theorem gX8_widthAgain_X4_hasLine : GoodIn wsX8_widthAgain (wsV RX8 185 RX4 yX4_hasLine wsX4_hasLine) := goodIn_app (goodIn_of _ (by decide +kernel)) ggX8_widthAgain_X4_hasLine
set_option maxRecDepth 20000 in
theorem ggX8_widthAgain_X4_firstWordBehind : GoodIn wsX8_widthAgain wsX4_firstWordBehind := goodIn_r _ [11, 7, 12, 13, 14, 15, 16, 17, 18, 19, 20, 21, 22, 23, 24, 25, 43, 44, 45, 46, 47, 48, 49, 50, 51, 52, 53, 54, 55, 56, 57, 58, 59, 60, 61, 62] (by decide +kernel) (by decide +kernel)
set_option maxRecDepth 20000 in
theorem gX8_widthAgain_X4_firstWordBehind : GoodIn wsX8_widthAgain (wsV RX8 191 RX4 yX4_firstWordBehind wsX4_firstWordBehind) := goodIn_app (goodIn_of _ (by decide +kernel)) ggX8_widthAgain_X4_firstWordBehind
set_option maxRecDepth 20000 in
theorem ggX8_widthAgain_X4_placeOf : GoodIn wsX8_widthAgain wsX4_placeOf := goodIn_r _ [29, 30, 14, 15, 16, 17, 18, 19, 43, 44, 45, 46, 47, 48, 49, 50, 51, 57] (by decide +kernel) (by decide +kernel)
set_option maxRecDepth 20000 in
theorem gX8_widthAgain_X4_placeOf : GoodIn wsX8_widthAgain (wsV RX8 176 RX4 yX4_placeOf wsX4_placeOf) := goodIn_app (goodIn_of _ (by decide +kernel)) ggX8_widthAgain_X4_placeOf
set_option maxRecDepth 20000 in
theorem ggX8_widthAgain_X4_shownWidthOf : GoodIn wsX8_widthAgain wsX4_shownWidthOf := goodIn_r _ [34, 35, 14, 15, 16, 17, 18, 19, 43, 44, 45, 46, 47, 48, 49, 50, 51, 57] (by decide +kernel) (by decide +kernel)
set_option maxRecDepth 20000 in
theorem gX8_widthAgain_X4_shownWidthOf : GoodIn wsX8_widthAgain (wsV RX8 167 RX4 yX4_shownWidthOf wsX4_shownWidthOf) := goodIn_app (goodIn_of _ (by decide +kernel)) ggX8_widthAgain_X4_shownWidthOf
theorem dX8_widthAgain_0 : decode cX8_widthAgain 0 = .ok (.aload_n 0, 1) := by decide +kernel
theorem dX8_widthAgain_1 : decode cX8_widthAgain 1 = .ok (.getfield 54, 3) := by decide +kernel
theorem dX8_widthAgain_4 : decode cX8_widthAgain 4 = .ok (.iload_n 1, 1) := by decide +kernel
theorem dX8_widthAgain_5 : decode cX8_widthAgain 5 = .ok (.invokevirtual 185, 3) := by decide +kernel
theorem dX8_widthAgain_8 : decode cX8_widthAgain 8 = .ok (.ifCond .ne 6, 3) := by decide +kernel
theorem dX8_widthAgain_11 : decode cX8_widthAgain 11 = .ok (.bipush (-11), 2) := by decide +kernel
theorem dX8_widthAgain_13 : decode cX8_widthAgain 13 = .ok (.ireturn, 1) := by decide +kernel
theorem dX8_widthAgain_14 : decode cX8_widthAgain 14 = .ok (.aload_n 0, 1) := by decide +kernel
theorem dX8_widthAgain_15 : decode cX8_widthAgain 15 = .ok (.getfield 54, 3) := by decide +kernel
theorem dX8_widthAgain_18 : decode cX8_widthAgain 18 = .ok (.iload_n 1, 1) := by decide +kernel
theorem dX8_widthAgain_19 : decode cX8_widthAgain 19 = .ok (.invokevirtual 191, 3) := by decide +kernel
theorem dX8_widthAgain_22 : decode cX8_widthAgain 22 = .ok (.iconst 1, 1) := by decide +kernel
theorem dX8_widthAgain_23 : decode cX8_widthAgain 23 = .ok (.isub, 1) := by decide +kernel
theorem dX8_widthAgain_24 : decode cX8_widthAgain 24 = .ok (.istore_n 2, 1) := by decide +kernel
theorem dX8_widthAgain_25 : decode cX8_widthAgain 25 = .ok (.aload_n 0, 1) := by decide +kernel
theorem dX8_widthAgain_26 : decode cX8_widthAgain 26 = .ok (.getfield 54, 3) := by decide +kernel
theorem dX8_widthAgain_29 : decode cX8_widthAgain 29 = .ok (.iload_n 2, 1) := by decide +kernel
theorem dX8_widthAgain_30 : decode cX8_widthAgain 30 = .ok (.invokevirtual 176, 3) := by decide +kernel
theorem dX8_widthAgain_33 : decode cX8_widthAgain 33 = .ok (.aload_n 0, 1) := by decide +kernel
theorem dX8_widthAgain_34 : decode cX8_widthAgain 34 = .ok (.getfield 54, 3) := by decide +kernel
theorem dX8_widthAgain_37 : decode cX8_widthAgain 37 = .ok (.iload_n 2, 1) := by decide +kernel
theorem dX8_widthAgain_38 : decode cX8_widthAgain 38 = .ok (.invokevirtual 167, 3) := by decide +kernel
theorem dX8_widthAgain_41 : decode cX8_widthAgain 41 = .ok (.iadd, 1) := by decide +kernel
theorem dX8_widthAgain_42 : decode cX8_widthAgain 42 = .ok (.ireturn, 1) := by decide +kernel
set_option maxRecDepth 20000 in
theorem ggX8_form_X7_has : GoodIn wsX8_form wsX7_has := goodIn_r _ [9, 10, 76, 77, 78, 79, 80] (by decide +kernel) (by decide +kernel)
set_option maxRecDepth 20000 in
theorem gX8_form_X7_has : GoodIn wsX8_form (wsV RX8 158 RX7 yX7_has wsX7_has) := goodIn_app (goodIn_of _ (by decide +kernel)) ggX8_form_X7_has
set_option maxRecDepth 20000 in
theorem ggX8_form_X1_numberOf : GoodIn wsX8_form wsX1_numberOf := goodIn_r _ [15, 16, 81, 82, 83, 84, 85] (by decide +kernel) (by decide +kernel)
set_option maxRecDepth 20000 in
theorem gX8_form_X1_numberOf : GoodIn wsX8_form (wsV RX8 202 RX1 yX1_numberOf wsX1_numberOf) := goodIn_app (goodIn_of _ (by decide +kernel)) ggX8_form_X1_numberOf
set_option maxRecDepth 20000 in
theorem ggX8_form_X5_lengthOfForm : GoodIn wsX8_form wsX5_lengthOfForm := goodIn_r _ [21, 22, 23, 24, 25, 26, 8, 27, 28, 29, 30, 31, 32, 33, 34, 71, 72, 73, 74, 75, 76, 77, 78, 79, 80, 86] (by decide +kernel) (by decide +kernel)
set_option maxRecDepth 20000 in
theorem gX8_form_X5_lengthOfForm : GoodIn wsX8_form (wsV RX8 205 RX5 yX5_lengthOfForm wsX5_lengthOfForm) := goodIn_app (goodIn_of _ (by decide +kernel)) ggX8_form_X5_lengthOfForm
set_option maxRecDepth 20000 in
theorem ggX8_form_X1_widthOf : GoodIn wsX8_form wsX1_widthOf := goodIn_r _ [38, 39, 40, 30, 31, 32, 33, 34, 81, 82, 83, 84, 85, 86] (by decide +kernel) (by decide +kernel)
set_option maxRecDepth 20000 in
theorem gX8_form_X1_widthOf : GoodIn wsX8_form (wsV RX8 208 RX1 yX1_widthOf wsX1_widthOf) := goodIn_app (goodIn_of _ (by decide +kernel)) ggX8_form_X1_widthOf
set_option maxRecDepth 20000 in
theorem ggX8_form_X0_widthOf : GoodIn wsX8_form wsX0_widthOf := goodIn_r _ [45, 46, 47, 30, 31, 32, 33, 34, 87, 88, 86] (by decide +kernel) (by decide +kernel)
set_option maxRecDepth 20000 in
theorem gX8_form_X0_widthOf : GoodIn wsX8_form (wsV RX8 211 RX0 yX0_widthOf wsX0_widthOf) := goodIn_app (goodIn_of _ (by decide +kernel)) ggX8_form_X0_widthOf
set_option maxRecDepth 20000 in
theorem ggX8_form_X4_wordsHiddenAs : GoodIn wsX8_form wsX4_wordsHiddenAs := goodIn_r _ [52, 53, 54, 55, 56, 8, 57, 10, 58, 59, 60, 51, 61, 62, 63, 30, 31, 32, 33, 34, 89, 90, 91, 92, 93, 94, 95, 96, 97, 71, 72, 73, 74, 75, 76, 77, 78, 79, 80, 86] (by decide +kernel) (by decide +kernel)
set_option maxRecDepth 20000 in
theorem gX8_form_X4_wordsHiddenAs : GoodIn wsX8_form (wsV RX8 212 RX4 yX4_wordsHiddenAs wsX4_wordsHiddenAs) := goodIn_app (goodIn_of _ (by decide +kernel)) ggX8_form_X4_wordsHiddenAs
theorem dX8_form_0 : decode cX8_form 0 = .ok (.aload_n 0, 1) := by decide +kernel
theorem dX8_form_1 : decode cX8_form 1 = .ok (.getfield 19, 3) := by decide +kernel
theorem dX8_form_4 : decode cX8_form 4 = .ok (.getfield 95, 3) := by decide +kernel
theorem dX8_form_7 : decode cX8_form 7 = .ok (.iload_n 1, 1) := by decide +kernel
theorem dX8_form_8 : decode cX8_form 8 = .ok (.invokevirtual 158, 3) := by decide +kernel
theorem dX8_form_11 : decode cX8_form 11 = .ok (.ifCond .ne 6, 3) := by decide +kernel
theorem dX8_form_14 : decode cX8_form 14 = .ok (.bipush (-11), 2) := by decide +kernel
theorem dX8_form_16 : decode cX8_form 16 = .ok (.ireturn, 1) := by decide +kernel
theorem dX8_form_17 : decode cX8_form 17 = .ok (.iload_n 2, 1) := by decide +kernel
theorem dX8_form_18 : decode cX8_form 18 = .ok (.iconst (-1), 1) := by decide +kernel
theorem dX8_form_19 : decode cX8_form 19 = .ok (.if_icmp .eq 20, 3) := by decide +kernel
theorem dX8_form_22 : decode cX8_form 22 = .ok (.aload_n 0, 1) := by decide +kernel
theorem dX8_form_23 : decode cX8_form 23 = .ok (.getfield 19, 3) := by decide +kernel
theorem dX8_form_26 : decode cX8_form 26 = .ok (.getfield 102, 3) := by decide +kernel
theorem dX8_form_29 : decode cX8_form 29 = .ok (.iload_n 2, 1) := by decide +kernel
theorem dX8_form_30 : decode cX8_form 30 = .ok (.invokevirtual 158, 3) := by decide +kernel
theorem dX8_form_33 : decode cX8_form 33 = .ok (.ifCond .ne 6, 3) := by decide +kernel
theorem dX8_form_36 : decode cX8_form 36 = .ok (.bipush (-11), 2) := by decide +kernel
theorem dX8_form_38 : decode cX8_form 38 = .ok (.ireturn, 1) := by decide +kernel
theorem dX8_form_39 : decode cX8_form 39 = .ok (.aload_n 0, 1) := by decide +kernel
theorem dX8_form_40 : decode cX8_form 40 = .ok (.getfield 33, 3) := by decide +kernel
theorem dX8_form_43 : decode cX8_form 43 = .ok (.iload_n 1, 1) := by decide +kernel
theorem dX8_form_44 : decode cX8_form 44 = .ok (.iload_n 2, 1) := by decide +kernel
theorem dX8_form_45 : decode cX8_form 45 = .ok (.invokevirtual 202, 3) := by decide +kernel
theorem dX8_form_48 : decode cX8_form 48 = .ok (.istore 4, 2) := by decide +kernel
theorem dX8_form_50 : decode cX8_form 50 = .ok (.iload_n 3, 1) := by decide +kernel
theorem dX8_form_51 : decode cX8_form 51 = .ok (.tableswitch 69 0 3 #[29, 39, 49, 59], 29) := by decide +kernel
theorem dX8_form_80 : decode cX8_form 80 = .ok (.aload_n 0, 1) := by decide +kernel
theorem dX8_form_81 : decode cX8_form 81 = .ok (.getfield 19, 3) := by decide +kernel
theorem dX8_form_84 : decode cX8_form 84 = .ok (.iload_n 1, 1) := by decide +kernel
theorem dX8_form_85 : decode cX8_form 85 = .ok (.iload_n 2, 1) := by decide +kernel
theorem dX8_form_86 : decode cX8_form 86 = .ok (.invokevirtual 205, 3) := by decide +kernel
theorem dX8_form_89 : decode cX8_form 89 = .ok (.ireturn, 1) := by decide +kernel
theorem dX8_form_90 : decode cX8_form 90 = .ok (.aload_n 0, 1) := by decide +kernel
theorem dX8_form_91 : decode cX8_form 91 = .ok (.getfield 33, 3) := by decide +kernel
theorem dX8_form_94 : decode cX8_form 94 = .ok (.iload 4, 2) := by decide +kernel
theorem dX8_form_96 : decode cX8_form 96 = .ok (.invokevirtual 208, 3) := by decide +kernel
theorem dX8_form_99 : decode cX8_form 99 = .ok (.ireturn, 1) := by decide +kernel
theorem dX8_form_100 : decode cX8_form 100 = .ok (.aload_n 0, 1) := by decide +kernel
theorem dX8_form_101 : decode cX8_form 101 = .ok (.getfield 42, 3) := by decide +kernel
theorem dX8_form_104 : decode cX8_form 104 = .ok (.iload 4, 2) := by decide +kernel
theorem dX8_form_106 : decode cX8_form 106 = .ok (.invokevirtual 211, 3) := by decide +kernel
theorem dX8_form_109 : decode cX8_form 109 = .ok (.ireturn, 1) := by decide +kernel
theorem dX8_form_110 : decode cX8_form 110 = .ok (.aload_n 0, 1) := by decide +kernel
theorem dX8_form_111 : decode cX8_form 111 = .ok (.getfield 54, 3) := by decide +kernel
theorem dX8_form_114 : decode cX8_form 114 = .ok (.iload 4, 2) := by decide +kernel
theorem dX8_form_116 : decode cX8_form 116 = .ok (.invokevirtual 212, 3) := by decide +kernel
theorem dX8_form_119 : decode cX8_form 119 = .ok (.ireturn, 1) := by decide +kernel
theorem dX8_form_120 : decode cX8_form 120 = .ok (.bipush (-11), 2) := by decide +kernel
theorem dX8_form_122 : decode cX8_form 122 = .ok (.ireturn, 1) := by decide +kernel
set_option maxRecDepth 20000 in
theorem ggX8_under_X0_namesUnder : GoodIn wsX8_under wsX0_namesUnder := goodIn_r _ [6, 7, 8, 9, 10, 11, 12, 13, 14, 15, 16, 17, 18, 19, 20, 21, 22, 23, 24, 25, 33, 34, 35, 36, 37, 38, 39, 40] (by decide +kernel) (by decide +kernel)
set_option maxRecDepth 20000 in
theorem gX8_under_X0_namesUnder : GoodIn wsX8_under (wsV RX8 215 RX0 yX0_namesUnder wsX0_namesUnder) := goodIn_app (goodIn_of _ (by decide +kernel)) ggX8_under_X0_namesUnder
theorem dX8_under_0 : decode cX8_under 0 = .ok (.iload_n 1, 1) := by decide +kernel
theorem dX8_under_1 : decode cX8_under 1 = .ok (.ifCond .lt 10, 3) := by decide +kernel
theorem dX8_under_4 : decode cX8_under 4 = .ok (.iload_n 1, 1) := by decide +kernel
theorem dX8_under_5 : decode cX8_under 5 = .ok (.sipush 500, 3) := by decide +kernel
theorem dX8_under_8 : decode cX8_under 8 = .ok (.if_icmp .le 6, 3) := by decide +kernel
theorem dX8_under_11 : decode cX8_under 11 = .ok (.bipush (-11), 2) := by decide +kernel
theorem dX8_under_13 : decode cX8_under 13 = .ok (.ireturn, 1) := by decide +kernel
theorem dX8_under_14 : decode cX8_under 14 = .ok (.aload_n 0, 1) := by decide +kernel
theorem dX8_under_15 : decode cX8_under 15 = .ok (.getfield 42, 3) := by decide +kernel
theorem dX8_under_18 : decode cX8_under 18 = .ok (.iload_n 1, 1) := by decide +kernel
theorem dX8_under_19 : decode cX8_under 19 = .ok (.invokevirtual 215, 3) := by decide +kernel
theorem dX8_under_22 : decode cX8_under 22 = .ok (.ireturn, 1) := by decide +kernel
set_option maxRecDepth 20000 in
theorem ggX8_guess_X7_has : GoodIn wsX8_guess wsX7_has := goodIn_r _ [8, 9, 77, 78, 79, 80, 81] (by decide +kernel) (by decide +kernel)
set_option maxRecDepth 20000 in
theorem gX8_guess_X7_has : GoodIn wsX8_guess (wsV RX8 158 RX7 yX7_has wsX7_has) := goodIn_app (goodIn_of _ (by decide +kernel)) ggX8_guess_X7_has
set_option maxRecDepth 20000 in
theorem ggX8_guess_X4_isHidden : GoodIn wsX8_guess wsX4_isHidden := goodIn_r _ [14, 15, 16, 17, 18, 19, 20, 21, 82, 83, 84, 85, 86, 87, 88, 89, 90, 91] (by decide +kernel) (by decide +kernel)
set_option maxRecDepth 20000 in
theorem gX8_guess_X4_isHidden : GoodIn wsX8_guess (wsV RX8 170 RX4 yX4_isHidden wsX4_isHidden) := goodIn_app (goodIn_of _ (by decide +kernel)) ggX8_guess_X4_isHidden
set_option maxRecDepth 20000 in
theorem ggX8_guess_X4_shownWidthOf : GoodIn wsX8_guess wsX4_shownWidthOf := goodIn_r _ [25, 26, 16, 17, 18, 19, 20, 21, 82, 83, 84, 85, 86, 87, 88, 89, 90, 91] (by decide +kernel) (by decide +kernel)
set_option maxRecDepth 20000 in
theorem gX8_guess_X4_shownWidthOf : GoodIn wsX8_guess (wsV RX8 167 RX4 yX4_shownWidthOf wsX4_shownWidthOf) := goodIn_app (goodIn_of _ (by decide +kernel)) ggX8_guess_X4_shownWidthOf
set_option maxRecDepth 20000 in
theorem ggX8_guess_X7_size : GoodIn wsX8_guess wsX7_size := goodIn_r _ [30, 9, 77, 78, 79, 80, 81] (by decide +kernel) (by decide +kernel)
set_option maxRecDepth 20000 in
theorem gX8_guess_X7_size : GoodIn wsX8_guess (wsV RX8 94 RX7 yX7_size wsX7_size) := goodIn_app (goodIn_of _ (by decide +kernel)) ggX8_guess_X7_size
set_option maxRecDepth 20000 in
theorem ggX8_guess_X0_leastGap : GoodIn wsX8_guess wsX0_leastGap := goodIn_r _ [35, 36, 37, 38, 39, 40, 41, 42, 43, 44, 45, 46, 47, 48, 49, 50, 51, 52, 53, 17, 18, 19, 20, 21, 54, 55, 56, 57, 58, 59, 92, 93, 94, 95, 96, 97, 98, 91] (by decide +kernel) (by decide +kernel)
set_option maxRecDepth 20000 in
theorem gX8_guess_X0_leastGap : GoodIn wsX8_guess (wsV RX8 218 RX0 yX0_leastGap wsX0_leastGap) := goodIn_app (goodIn_of _ (by decide +kernel)) ggX8_guess_X0_leastGap
set_option maxRecDepth 20000 in
theorem ggX8_guess_X8_guessesAheadOf : GoodIn wsX8_guess wsX8_guessesAheadOf := goodIn_r _ [64, 1, 3, 27, 28, 29, 7, 30, 9, 31, 32, 33, 34, 35, 36, 37, 38, 39, 40, 41, 42, 43, 44, 45, 46, 47, 48, 49, 50, 51, 52, 53, 17, 18, 19, 20, 21, 54, 55, 56, 57, 58, 59, 65, 66, 67, 68, 69, 70, 71, 72, 73, 74, 75, 76, 77, 78, 79, 80, 81, 92, 93, 94, 95, 96, 97, 98, 91] (by decide +kernel) (by decide +kernel)
set_option maxRecDepth 20000 in
theorem gX8_guess_X8_guessesAheadOf : GoodIn wsX8_guess (wsV RX8 221 RX8 yX8_guessesAheadOf wsX8_guessesAheadOf) := goodIn_app (goodIn_of _ (by decide +kernel)) ggX8_guess_X8_guessesAheadOf
theorem dX8_guess_0 : decode cX8_guess 0 = .ok (.aload_n 0, 1) := by decide +kernel
theorem dX8_guess_1 : decode cX8_guess 1 = .ok (.getfield 19, 3) := by decide +kernel
theorem dX8_guess_4 : decode cX8_guess 4 = .ok (.getfield 80, 3) := by decide +kernel
theorem dX8_guess_7 : decode cX8_guess 7 = .ok (.iload_n 1, 1) := by decide +kernel
theorem dX8_guess_8 : decode cX8_guess 8 = .ok (.invokevirtual 158, 3) := by decide +kernel
theorem dX8_guess_11 : decode cX8_guess 11 = .ok (.ifCond .eq 16, 3) := by decide +kernel
theorem dX8_guess_14 : decode cX8_guess 14 = .ok (.iload_n 2, 1) := by decide +kernel
theorem dX8_guess_15 : decode cX8_guess 15 = .ok (.ifCond .lt 12, 3) := by decide +kernel
theorem dX8_guess_18 : decode cX8_guess 18 = .ok (.iload_n 3, 1) := by decide +kernel
theorem dX8_guess_19 : decode cX8_guess 19 = .ok (.ifCond .lt 8, 3) := by decide +kernel
theorem dX8_guess_22 : decode cX8_guess 22 = .ok (.iload_n 3, 1) := by decide +kernel
theorem dX8_guess_23 : decode cX8_guess 23 = .ok (.iconst 1, 1) := by decide +kernel
theorem dX8_guess_24 : decode cX8_guess 24 = .ok (.if_icmp .le 6, 3) := by decide +kernel
theorem dX8_guess_27 : decode cX8_guess 27 = .ok (.bipush (-11), 2) := by decide +kernel
theorem dX8_guess_29 : decode cX8_guess 29 = .ok (.ireturn, 1) := by decide +kernel
theorem dX8_guess_30 : decode cX8_guess 30 = .ok (.aload_n 0, 1) := by decide +kernel
theorem dX8_guess_31 : decode cX8_guess 31 = .ok (.getfield 54, 3) := by decide +kernel
theorem dX8_guess_34 : decode cX8_guess 34 = .ok (.iload_n 1, 1) := by decide +kernel
theorem dX8_guess_35 : decode cX8_guess 35 = .ok (.invokevirtual 170, 3) := by decide +kernel
theorem dX8_guess_38 : decode cX8_guess 38 = .ok (.ifCond .ne 6, 3) := by decide +kernel
theorem dX8_guess_41 : decode cX8_guess 41 = .ok (.bipush (-12), 2) := by decide +kernel
theorem dX8_guess_43 : decode cX8_guess 43 = .ok (.ireturn, 1) := by decide +kernel
theorem dX8_guess_44 : decode cX8_guess 44 = .ok (.aload_n 0, 1) := by decide +kernel
theorem dX8_guess_45 : decode cX8_guess 45 = .ok (.getfield 54, 3) := by decide +kernel
theorem dX8_guess_48 : decode cX8_guess 48 = .ok (.iload_n 1, 1) := by decide +kernel
theorem dX8_guess_49 : decode cX8_guess 49 = .ok (.invokevirtual 167, 3) := by decide +kernel
theorem dX8_guess_52 : decode cX8_guess 52 = .ok (.istore 4, 2) := by decide +kernel
theorem dX8_guess_54 : decode cX8_guess 54 = .ok (.iconst 0, 1) := by decide +kernel
theorem dX8_guess_55 : decode cX8_guess 55 = .ok (.istore 5, 2) := by decide +kernel
theorem dX8_guess_57 : decode cX8_guess 57 = .ok (.iload 5, 2) := by decide +kernel
theorem dX8_guess_59 : decode cX8_guess 59 = .ok (.aload_n 0, 1) := by decide +kernel
theorem dX8_guess_60 : decode cX8_guess 60 = .ok (.getfield 19, 3) := by decide +kernel
theorem dX8_guess_63 : decode cX8_guess 63 = .ok (.getfield 95, 3) := by decide +kernel
theorem dX8_guess_66 : decode cX8_guess 66 = .ok (.invokevirtual 94, 3) := by decide +kernel
theorem dX8_guess_69 : decode cX8_guess 69 = .ok (.if_icmp .ge 54, 3) := by decide +kernel
theorem dX8_guess_72 : decode cX8_guess 72 = .ok (.aload_n 0, 1) := by decide +kernel
theorem dX8_guess_73 : decode cX8_guess 73 = .ok (.getfield 42, 3) := by decide +kernel
theorem dX8_guess_76 : decode cX8_guess 76 = .ok (.iload 5, 2) := by decide +kernel
theorem dX8_guess_78 : decode cX8_guess 78 = .ok (.iload 4, 2) := by decide +kernel
theorem dX8_guess_80 : decode cX8_guess 80 = .ok (.invokevirtual 218, 3) := by decide +kernel
theorem dX8_guess_83 : decode cX8_guess 83 = .ok (.istore 6, 2) := by decide +kernel
theorem dX8_guess_85 : decode cX8_guess 85 = .ok (.iload 6, 2) := by decide +kernel
theorem dX8_guess_87 : decode cX8_guess 87 = .ok (.iconst (-1), 1) := by decide +kernel
theorem dX8_guess_88 : decode cX8_guess 88 = .ok (.if_icmp .eq 29, 3) := by decide +kernel
theorem dX8_guess_91 : decode cX8_guess 91 = .ok (.aload_n 0, 1) := by decide +kernel
theorem dX8_guess_92 : decode cX8_guess 92 = .ok (.iload 5, 2) := by decide +kernel
theorem dX8_guess_94 : decode cX8_guess 94 = .ok (.iload 6, 2) := by decide +kernel
theorem dX8_guess_96 : decode cX8_guess 96 = .ok (.iload 4, 2) := by decide +kernel
theorem dX8_guess_98 : decode cX8_guess 98 = .ok (.invokevirtual 221, 3) := by decide +kernel
theorem dX8_guess_101 : decode cX8_guess 101 = .ok (.iload_n 2, 1) := by decide +kernel
theorem dX8_guess_102 : decode cX8_guess 102 = .ok (.if_icmp .ne 15, 3) := by decide +kernel
theorem dX8_guess_105 : decode cX8_guess 105 = .ok (.iload_n 3, 1) := by decide +kernel
theorem dX8_guess_106 : decode cX8_guess 106 = .ok (.ifCond .ne 8, 3) := by decide +kernel
theorem dX8_guess_109 : decode cX8_guess 109 = .ok (.iload 5, 2) := by decide +kernel
theorem dX8_guess_111 : decode cX8_guess 111 = .ok (.goto 5, 3) := by decide +kernel
theorem dX8_guess_114 : decode cX8_guess 114 = .ok (.iload 6, 2) := by decide +kernel
theorem dX8_guess_116 : decode cX8_guess 116 = .ok (.ireturn, 1) := by decide +kernel
theorem dX8_guess_117 : decode cX8_guess 117 = .ok (.iinc 5 1, 3) := by decide +kernel
theorem dX8_guess_120 : decode cX8_guess 120 = .ok (.goto (-63), 3) := by decide +kernel
theorem dX8_guess_123 : decode cX8_guess 123 = .ok (.bipush (-14), 2) := by decide +kernel
theorem dX8_guess_125 : decode cX8_guess 125 = .ok (.ireturn, 1) := by decide +kernel
set_option maxRecDepth 20000 in
theorem ggX8_same_X7_has : GoodIn wsX8_same wsX7_has := goodIn_r _ [7, 8, 69, 70, 71, 72, 73] (by decide +kernel) (by decide +kernel)
set_option maxRecDepth 20000 in
theorem gX8_same_X7_has : GoodIn wsX8_same (wsV RX8 158 RX7 yX7_has wsX7_has) := goodIn_app (goodIn_of _ (by decide +kernel)) ggX8_same_X7_has
set_option maxRecDepth 20000 in
theorem ggX8_same_X7_size : GoodIn wsX8_same wsX7_size := goodIn_r _ [12, 8, 69, 70, 71, 72, 73] (by decide +kernel) (by decide +kernel)
set_option maxRecDepth 20000 in
theorem gX8_same_X7_size : GoodIn wsX8_same (wsV RX8 94 RX7 yX7_size wsX7_size) := goodIn_app (goodIn_of _ (by decide +kernel)) ggX8_same_X7_size
set_option maxRecDepth 20000 in
theorem ggX8_same_X4_isHidden : GoodIn wsX8_same wsX4_isHidden := goodIn_r _ [17, 18, 19, 20, 21, 22, 23, 24, 74, 75, 76, 77, 78, 79, 80, 81, 82, 83] (by decide +kernel) (by decide +kernel)
set_option maxRecDepth 20000 in
theorem gX8_same_X4_isHidden : GoodIn wsX8_same (wsV RX8 170 RX4 yX4_isHidden wsX4_isHidden) := goodIn_app (goodIn_of _ (by decide +kernel)) ggX8_same_X4_isHidden
set_option maxRecDepth 20000 in
theorem ggX8_same_X8_tellsApart : GoodIn wsX8_same wsX8_tellsApart := goodIn_r _ [29, 30, 2, 31, 32, 33, 34, 16, 35, 18, 19, 20, 21, 22, 23, 24, 36, 37, 38, 39, 40, 41, 42, 43, 44, 45, 46, 47, 48, 49, 50, 51, 52, 53, 54, 55, 56, 57, 58, 59, 60, 61, 62, 63, 74, 75, 76, 77, 78, 79, 80, 81, 82, 83, 84, 85, 86, 87, 88, 89, 90] (by decide +kernel) (by decide +kernel)
set_option maxRecDepth 20000 in
theorem gX8_same_X8_tellsApart : GoodIn wsX8_same (wsV RX8 225 RX8 yX8_tellsApart wsX8_tellsApart) := goodIn_app (goodIn_of _ (by decide +kernel)) ggX8_same_X8_tellsApart
theorem dX8_same_0 : decode cX8_same 0 = .ok (.aload_n 0, 1) := by decide +kernel
theorem dX8_same_1 : decode cX8_same 1 = .ok (.getfield 19, 3) := by decide +kernel
theorem dX8_same_4 : decode cX8_same 4 = .ok (.getfield 95, 3) := by decide +kernel
theorem dX8_same_7 : decode cX8_same 7 = .ok (.iload_n 1, 1) := by decide +kernel
theorem dX8_same_8 : decode cX8_same 8 = .ok (.invokevirtual 158, 3) := by decide +kernel
theorem dX8_same_11 : decode cX8_same 11 = .ok (.ifCond .eq 17, 3) := by decide +kernel
theorem dX8_same_14 : decode cX8_same 14 = .ok (.aload_n 0, 1) := by decide +kernel
theorem dX8_same_15 : decode cX8_same 15 = .ok (.getfield 19, 3) := by decide +kernel
theorem dX8_same_18 : decode cX8_same 18 = .ok (.getfield 95, 3) := by decide +kernel
theorem dX8_same_21 : decode cX8_same 21 = .ok (.iload_n 2, 1) := by decide +kernel
theorem dX8_same_22 : decode cX8_same 22 = .ok (.invokevirtual 158, 3) := by decide +kernel
theorem dX8_same_25 : decode cX8_same 25 = .ok (.ifCond .ne 6, 3) := by decide +kernel
theorem dX8_same_28 : decode cX8_same 28 = .ok (.bipush (-11), 2) := by decide +kernel
theorem dX8_same_30 : decode cX8_same 30 = .ok (.ireturn, 1) := by decide +kernel
theorem dX8_same_31 : decode cX8_same 31 = .ok (.iconst 0, 1) := by decide +kernel
theorem dX8_same_32 : decode cX8_same 32 = .ok (.istore_n 3, 1) := by decide +kernel
theorem dX8_same_33 : decode cX8_same 33 = .ok (.iload_n 3, 1) := by decide +kernel
theorem dX8_same_34 : decode cX8_same 34 = .ok (.aload_n 0, 1) := by decide +kernel
theorem dX8_same_35 : decode cX8_same 35 = .ok (.getfield 19, 3) := by decide +kernel
theorem dX8_same_38 : decode cX8_same 38 = .ok (.getfield 80, 3) := by decide +kernel
theorem dX8_same_41 : decode cX8_same 41 = .ok (.invokevirtual 94, 3) := by decide +kernel
theorem dX8_same_44 : decode cX8_same 44 = .ok (.if_icmp .ge 32, 3) := by decide +kernel
theorem dX8_same_47 : decode cX8_same 47 = .ok (.aload_n 0, 1) := by decide +kernel
theorem dX8_same_48 : decode cX8_same 48 = .ok (.getfield 54, 3) := by decide +kernel
theorem dX8_same_51 : decode cX8_same 51 = .ok (.iload_n 3, 1) := by decide +kernel
theorem dX8_same_52 : decode cX8_same 52 = .ok (.invokevirtual 170, 3) := by decide +kernel
theorem dX8_same_55 : decode cX8_same 55 = .ok (.ifCond .eq 15, 3) := by decide +kernel
theorem dX8_same_58 : decode cX8_same 58 = .ok (.aload_n 0, 1) := by decide +kernel
theorem dX8_same_59 : decode cX8_same 59 = .ok (.iload_n 3, 1) := by decide +kernel
theorem dX8_same_60 : decode cX8_same 60 = .ok (.iload_n 1, 1) := by decide +kernel
theorem dX8_same_61 : decode cX8_same 61 = .ok (.iload_n 2, 1) := by decide +kernel
theorem dX8_same_62 : decode cX8_same 62 = .ok (.invokevirtual 225, 3) := by decide +kernel
theorem dX8_same_65 : decode cX8_same 65 = .ok (.ifCond .eq 5, 3) := by decide +kernel
theorem dX8_same_68 : decode cX8_same 68 = .ok (.iconst 0, 1) := by decide +kernel
theorem dX8_same_69 : decode cX8_same 69 = .ok (.ireturn, 1) := by decide +kernel
theorem dX8_same_70 : decode cX8_same 70 = .ok (.iinc 3 1, 3) := by decide +kernel
theorem dX8_same_73 : decode cX8_same 73 = .ok (.goto (-40), 3) := by decide +kernel
theorem dX8_same_76 : decode cX8_same 76 = .ok (.iconst 1, 1) := by decide +kernel
theorem dX8_same_77 : decode cX8_same 77 = .ok (.ireturn, 1) := by decide +kernel
set_option maxRecDepth 20000 in
theorem ggX8_stepFor_X3_at : GoodIn wsX8_stepFor wsX3_at := goodIn_r _ [8, 9, 113] (by decide +kernel) (by decide +kernel)
set_option maxRecDepth 20000 in
theorem gX8_stepFor_X3_at : GoodIn wsX8_stepFor (wsV RX8 117 RX3 yX3_at wsX3_at) := goodIn_app (goodIn_of _ (by decide +kernel)) ggX8_stepFor_X3_at
set_option maxRecDepth 20000 in
theorem ggX8_stepFor_X0_draw : GoodIn wsX8_stepFor wsX0_draw := goodIn_r _ [14, 15, 16, 17, 18, 19, 20, 21, 22, 23, 24, 25, 13, 26, 27, 28, 29, 30, 31, 32, 5, 6, 7, 8, 9, 33, 34, 35, 36, 37, 38, 39, 40, 41, 42, 43, 44, 45, 46, 47, 48, 49, 50, 51, 52, 53, 114, 115, 116, 117, 118, 119, 120, 113] (by decide +kernel) (by decide +kernel)
set_option maxRecDepth 20000 in
theorem gX8_stepFor_X0_draw : GoodIn wsX8_stepFor (wsV RX8 229 RX0 yX0_draw wsX0_draw) := goodIn_app (goodIn_of _ (by decide +kernel)) ggX8_stepFor_X0_draw
set_option maxRecDepth 20000 in
theorem ggX8_stepFor_X4_hasEnoughNames : GoodIn wsX8_stepFor wsX4_hasEnoughNames := goodIn_r _ [58, 59, 60, 61, 62, 63, 64, 65, 66, 67, 68, 57, 69, 70, 71, 5, 6, 7, 8, 9, 72, 73, 74, 75, 76, 77, 78, 79, 80, 81, 82, 13, 83, 16, 84, 85, 86, 87, 88, 15, 17, 18, 19, 20, 21, 22, 89, 90, 91, 92, 93, 94, 95, 96, 97, 98, 99, 100, 121, 122, 123, 124, 125, 126, 127, 128, 129, 108, 109, 110, 111, 112, 130, 131, 132, 133, 134, 113, 114, 115, 116, 117, 118, 119, 120] (by decide +kernel) (by decide +kernel)
set_option maxRecDepth 20000 in
theorem gX8_stepFor_X4_hasEnoughNames : GoodIn wsX8_stepFor (wsV RX8 233 RX4 yX4_hasEnoughNames wsX4_hasEnoughNames) := goodIn_app (goodIn_of _ (by decide +kernel)) ggX8_stepFor_X4_hasEnoughNames
theorem dX8_stepFor_0 : decode cX8_stepFor 0 = .ok (.iload_n 1, 1) := by decide +kernel
theorem dX8_stepFor_1 : decode cX8_stepFor 1 = .ok (.iconst 1, 1) := by decide +kernel
theorem dX8_stepFor_2 : decode cX8_stepFor 2 = .ok (.if_icmp .lt 9, 3) := by decide +kernel
theorem dX8_stepFor_5 : decode cX8_stepFor 5 = .ok (.iload_n 1, 1) := by decide +kernel
theorem dX8_stepFor_6 : decode cX8_stepFor 6 = .ok (.bipush 8, 2) := by decide +kernel
theorem dX8_stepFor_8 : decode cX8_stepFor 8 = .ok (.if_icmp .le 6, 3) := by decide +kernel
theorem dX8_stepFor_11 : decode cX8_stepFor 11 = .ok (.bipush (-11), 2) := by decide +kernel
theorem dX8_stepFor_13 : decode cX8_stepFor 13 = .ok (.ireturn, 1) := by decide +kernel
theorem dX8_stepFor_14 : decode cX8_stepFor 14 = .ok (.iconst 1, 1) := by decide +kernel
theorem dX8_stepFor_15 : decode cX8_stepFor 15 = .ok (.istore_n 2, 1) := by decide +kernel
theorem dX8_stepFor_16 : decode cX8_stepFor 16 = .ok (.iload_n 2, 1) := by decide +kernel
theorem dX8_stepFor_17 : decode cX8_stepFor 17 = .ok (.bipush 50, 2) := by decide +kernel
theorem dX8_stepFor_19 : decode cX8_stepFor 19 = .ok (.if_icmp .gt 46, 3) := by decide +kernel
theorem dX8_stepFor_22 : decode cX8_stepFor 22 = .ok (.aload_n 0, 1) := by decide +kernel
theorem dX8_stepFor_23 : decode cX8_stepFor 23 = .ok (.getfield 46, 3) := by decide +kernel
theorem dX8_stepFor_26 : decode cX8_stepFor 26 = .ok (.iconst 1, 1) := by decide +kernel
theorem dX8_stepFor_27 : decode cX8_stepFor 27 = .ok (.iload_n 2, 1) := by decide +kernel
theorem dX8_stepFor_28 : decode cX8_stepFor 28 = .ok (.aload_n 0, 1) := by decide +kernel
theorem dX8_stepFor_29 : decode cX8_stepFor 29 = .ok (.getfield 19, 3) := by decide +kernel
theorem dX8_stepFor_32 : decode cX8_stepFor 32 = .ok (.getfield 133, 3) := by decide +kernel
theorem dX8_stepFor_35 : decode cX8_stepFor 35 = .ok (.iconst 2, 1) := by decide +kernel
theorem dX8_stepFor_36 : decode cX8_stepFor 36 = .ok (.invokevirtual 117, 3) := by decide +kernel
theorem dX8_stepFor_39 : decode cX8_stepFor 39 = .ok (.invokevirtual 229, 3) := by decide +kernel
theorem dX8_stepFor_42 : decode cX8_stepFor 42 = .ok (.aload_n 0, 1) := by decide +kernel
theorem dX8_stepFor_43 : decode cX8_stepFor 43 = .ok (.getfield 54, 3) := by decide +kernel
theorem dX8_stepFor_46 : decode cX8_stepFor 46 = .ok (.aload_n 0, 1) := by decide +kernel
theorem dX8_stepFor_47 : decode cX8_stepFor 47 = .ok (.getfield 46, 3) := by decide +kernel
theorem dX8_stepFor_50 : decode cX8_stepFor 50 = .ok (.iload_n 1, 1) := by decide +kernel
theorem dX8_stepFor_51 : decode cX8_stepFor 51 = .ok (.invokevirtual 233, 3) := by decide +kernel
theorem dX8_stepFor_54 : decode cX8_stepFor 54 = .ok (.ifCond .eq 5, 3) := by decide +kernel
theorem dX8_stepFor_57 : decode cX8_stepFor 57 = .ok (.iload_n 2, 1) := by decide +kernel
theorem dX8_stepFor_58 : decode cX8_stepFor 58 = .ok (.ireturn, 1) := by decide +kernel
theorem dX8_stepFor_59 : decode cX8_stepFor 59 = .ok (.iinc 2 1, 3) := by decide +kernel
theorem dX8_stepFor_62 : decode cX8_stepFor 62 = .ok (.goto (-46), 3) := by decide +kernel
theorem dX8_stepFor_65 : decode cX8_stepFor 65 = .ok (.bipush (-14), 2) := by decide +kernel
theorem dX8_stepFor_67 : decode cX8_stepFor 67 = .ok (.ireturn, 1) := by decide +kernel
set_option maxRecDepth 20000 in
theorem ggX8_modeFor_X3_at : GoodIn wsX8_modeFor wsX3_at := goodIn_r _ [8, 9, 126] (by decide +kernel) (by decide +kernel)
set_option maxRecDepth 20000 in
theorem gX8_modeFor_X3_at : GoodIn wsX8_modeFor (wsV RX8 117 RX3 yX3_at wsX3_at) := goodIn_app (goodIn_of _ (by decide +kernel)) ggX8_modeFor_X3_at
set_option maxRecDepth 20000 in
theorem ggX8_modeFor_X0_draw : GoodIn wsX8_modeFor wsX0_draw := goodIn_r _ [14, 15, 16, 17, 18, 19, 20, 21, 22, 23, 24, 25, 13, 26, 27, 28, 29, 30, 31, 32, 5, 6, 7, 8, 9, 33, 34, 35, 36, 37, 38, 39, 40, 41, 42, 43, 44, 45, 46, 47, 48, 49, 50, 51, 52, 53, 127, 128, 129, 130, 131, 132, 133, 126] (by decide +kernel) (by decide +kernel)
set_option maxRecDepth 20000 in
theorem gX8_modeFor_X0_draw : GoodIn wsX8_modeFor (wsV RX8 229 RX0 yX0_draw wsX0_draw) := goodIn_app (goodIn_of _ (by decide +kernel)) ggX8_modeFor_X0_draw
set_option maxRecDepth 20000 in
theorem ggX8_modeFor_X4_sumOfShownWidths : GoodIn wsX8_modeFor wsX4_sumOfShownWidths := goodIn_r _ [58, 59, 60, 61, 62, 63, 64, 65, 66, 67, 68, 57, 69, 70, 71, 72, 73, 74, 75, 5, 6, 7, 8, 9, 76, 77, 78, 79, 80, 81, 82, 13, 83, 16, 84, 85, 86, 87, 88, 89, 134, 135, 136, 137, 138, 139, 140, 141, 142, 121, 122, 123, 124, 125, 143, 144, 145, 146, 147, 126, 127, 128] (by decide +kernel) (by decide +kernel)
set_option maxRecDepth 20000 in
theorem gX8_modeFor_X4_sumOfShownWidths : GoodIn wsX8_modeFor (wsV RX8 148 RX4 yX4_sumOfShownWidths wsX4_sumOfShownWidths) := goodIn_app (goodIn_of _ (by decide +kernel)) ggX8_modeFor_X4_sumOfShownWidths
set_option maxRecDepth 20000 in
theorem ggX8_modeFor_X4_betrayedBars : GoodIn wsX8_modeFor wsX4_betrayedBars := goodIn_r _ [93, 59, 60, 61, 62, 63, 64, 65, 70, 71, 72, 57, 73, 74, 75, 5, 6, 7, 8, 9, 94, 95, 96, 97, 76, 77, 78, 79, 80, 81, 82, 13, 83, 16, 84, 98, 99, 100, 101, 15, 17, 18, 19, 20, 21, 22, 102, 103, 104, 105, 106, 107, 108, 109, 110, 111, 112, 113, 134, 135, 136, 137, 138, 139, 140, 141, 142, 121, 122, 123, 124, 125, 143, 144, 145, 146, 147, 126, 127, 128, 129, 130, 131, 132, 133] (by decide +kernel) (by decide +kernel)
set_option maxRecDepth 20000 in
theorem gX8_modeFor_X4_betrayedBars : GoodIn wsX8_modeFor (wsV RX8 144 RX4 yX4_betrayedBars wsX4_betrayedBars) := goodIn_app (goodIn_of _ (by decide +kernel)) ggX8_modeFor_X4_betrayedBars
theorem dX8_modeFor_0 : decode cX8_modeFor 0 = .ok (.bipush (-14), 2) := by decide +kernel
theorem dX8_modeFor_2 : decode cX8_modeFor 2 = .ok (.istore_n 1, 1) := by decide +kernel
theorem dX8_modeFor_3 : decode cX8_modeFor 3 = .ok (.iconst 0, 1) := by decide +kernel
theorem dX8_modeFor_4 : decode cX8_modeFor 4 = .ok (.istore_n 2, 1) := by decide +kernel
theorem dX8_modeFor_5 : decode cX8_modeFor 5 = .ok (.iconst 0, 1) := by decide +kernel
theorem dX8_modeFor_6 : decode cX8_modeFor 6 = .ok (.istore_n 3, 1) := by decide +kernel
theorem dX8_modeFor_7 : decode cX8_modeFor 7 = .ok (.iload_n 3, 1) := by decide +kernel
theorem dX8_modeFor_8 : decode cX8_modeFor 8 = .ok (.iconst 3, 1) := by decide +kernel
theorem dX8_modeFor_9 : decode cX8_modeFor 9 = .ok (.if_icmp .gt 95, 3) := by decide +kernel
theorem dX8_modeFor_12 : decode cX8_modeFor 12 = .ok (.aload_n 0, 1) := by decide +kernel
theorem dX8_modeFor_13 : decode cX8_modeFor 13 = .ok (.getfield 46, 3) := by decide +kernel
theorem dX8_modeFor_16 : decode cX8_modeFor 16 = .ok (.iload_n 3, 1) := by decide +kernel
theorem dX8_modeFor_17 : decode cX8_modeFor 17 = .ok (.aload_n 0, 1) := by decide +kernel
theorem dX8_modeFor_18 : decode cX8_modeFor 18 = .ok (.getfield 19, 3) := by decide +kernel
theorem dX8_modeFor_21 : decode cX8_modeFor 21 = .ok (.getfield 133, 3) := by decide +kernel
theorem dX8_modeFor_24 : decode cX8_modeFor 24 = .ok (.iconst 1, 1) := by decide +kernel
theorem dX8_modeFor_25 : decode cX8_modeFor 25 = .ok (.invokevirtual 117, 3) := by decide +kernel
theorem dX8_modeFor_28 : decode cX8_modeFor 28 = .ok (.aload_n 0, 1) := by decide +kernel
theorem dX8_modeFor_29 : decode cX8_modeFor 29 = .ok (.getfield 19, 3) := by decide +kernel
theorem dX8_modeFor_32 : decode cX8_modeFor 32 = .ok (.getfield 133, 3) := by decide +kernel
theorem dX8_modeFor_35 : decode cX8_modeFor 35 = .ok (.iconst 2, 1) := by decide +kernel
theorem dX8_modeFor_36 : decode cX8_modeFor 36 = .ok (.invokevirtual 117, 3) := by decide +kernel
theorem dX8_modeFor_39 : decode cX8_modeFor 39 = .ok (.invokevirtual 229, 3) := by decide +kernel
theorem dX8_modeFor_42 : decode cX8_modeFor 42 = .ok (.aload_n 0, 1) := by decide +kernel
theorem dX8_modeFor_43 : decode cX8_modeFor 43 = .ok (.getfield 54, 3) := by decide +kernel
theorem dX8_modeFor_46 : decode cX8_modeFor 46 = .ok (.aload_n 0, 1) := by decide +kernel
theorem dX8_modeFor_47 : decode cX8_modeFor 47 = .ok (.getfield 46, 3) := by decide +kernel
theorem dX8_modeFor_50 : decode cX8_modeFor 50 = .ok (.invokevirtual 148, 3) := by decide +kernel
theorem dX8_modeFor_53 : decode cX8_modeFor 53 = .ok (.istore 4, 2) := by decide +kernel
theorem dX8_modeFor_55 : decode cX8_modeFor 55 = .ok (.iload_n 1, 1) := by decide +kernel
theorem dX8_modeFor_56 : decode cX8_modeFor 56 = .ok (.bipush (-14), 2) := by decide +kernel
theorem dX8_modeFor_58 : decode cX8_modeFor 58 = .ok (.if_icmp .eq 9, 3) := by decide +kernel
theorem dX8_modeFor_61 : decode cX8_modeFor 61 = .ok (.iload 4, 2) := by decide +kernel
theorem dX8_modeFor_63 : decode cX8_modeFor 63 = .ok (.iload_n 2, 1) := by decide +kernel
theorem dX8_modeFor_64 : decode cX8_modeFor 64 = .ok (.if_icmp .ge 7, 3) := by decide +kernel
theorem dX8_modeFor_67 : decode cX8_modeFor 67 = .ok (.iconst 1, 1) := by decide +kernel
theorem dX8_modeFor_68 : decode cX8_modeFor 68 = .ok (.goto 4, 3) := by decide +kernel
theorem dX8_modeFor_71 : decode cX8_modeFor 71 = .ok (.iconst 0, 1) := by decide +kernel
theorem dX8_modeFor_72 : decode cX8_modeFor 72 = .ok (.istore 5, 2) := by decide +kernel
theorem dX8_modeFor_74 : decode cX8_modeFor 74 = .ok (.iload 5, 2) := by decide +kernel
theorem dX8_modeFor_76 : decode cX8_modeFor 76 = .ok (.ifCond .eq 22, 3) := by decide +kernel
theorem dX8_modeFor_79 : decode cX8_modeFor 79 = .ok (.aload_n 0, 1) := by decide +kernel
theorem dX8_modeFor_80 : decode cX8_modeFor 80 = .ok (.getfield 54, 3) := by decide +kernel
theorem dX8_modeFor_83 : decode cX8_modeFor 83 = .ok (.aload_n 0, 1) := by decide +kernel
theorem dX8_modeFor_84 : decode cX8_modeFor 84 = .ok (.getfield 46, 3) := by decide +kernel
theorem dX8_modeFor_87 : decode cX8_modeFor 87 = .ok (.invokevirtual 144, 3) := by decide +kernel
theorem dX8_modeFor_90 : decode cX8_modeFor 90 = .ok (.ifCond .ne 8, 3) := by decide +kernel
theorem dX8_modeFor_93 : decode cX8_modeFor 93 = .ok (.iload_n 3, 1) := by decide +kernel
theorem dX8_modeFor_94 : decode cX8_modeFor 94 = .ok (.istore_n 1, 1) := by decide +kernel
theorem dX8_modeFor_95 : decode cX8_modeFor 95 = .ok (.iload 4, 2) := by decide +kernel
theorem dX8_modeFor_97 : decode cX8_modeFor 97 = .ok (.istore_n 2, 1) := by decide +kernel
theorem dX8_modeFor_98 : decode cX8_modeFor 98 = .ok (.iinc 3 1, 3) := by decide +kernel
theorem dX8_modeFor_101 : decode cX8_modeFor 101 = .ok (.goto (-94), 3) := by decide +kernel
theorem dX8_modeFor_104 : decode cX8_modeFor 104 = .ok (.iload_n 1, 1) := by decide +kernel
theorem dX8_modeFor_105 : decode cX8_modeFor 105 = .ok (.ireturn, 1) := by decide +kernel
set_option maxRecDepth 20000 in
theorem ggX8_undo_X2_size : GoodIn wsX8_undo wsX2_size := goodIn_r _ [7, 8, 206, 207] (by decide +kernel) (by decide +kernel)
set_option maxRecDepth 20000 in
theorem gX8_undo_X2_size : GoodIn wsX8_undo (wsV RX8 157 RX2 yX2_size wsX2_size) := goodIn_app (goodIn_of _ (by decide +kernel)) ggX8_undo_X2_size
set_option maxRecDepth 20000 in
theorem ggX8_undo_X2_restore : GoodIn wsX8_undo wsX2_restore := goodIn_r _ [12, 8, 13, 14, 15, 6, 16, 17, 18, 19, 20, 21, 22, 23, 24, 25, 26, 27, 28, 29, 30, 31, 32, 33, 34, 35, 36, 37, 38, 39, 40, 41, 42, 43, 44, 45, 46, 47, 48, 49, 50, 51, 52, 206, 207, 208, 209, 210, 211, 212, 213, 214, 215, 216, 217, 218] (by decide +kernel) (by decide +kernel)
set_option maxRecDepth 20000 in
theorem gX8_undo_X2_restore : GoodIn wsX8_undo (wsV RX8 237 RX2 yX2_restore wsX2_restore) := goodIn_app (goodIn_of _ (by decide +kernel)) ggX8_undo_X2_restore
set_option maxRecDepth 20000 in
theorem ggX8_undo_X8_workOut : GoodIn wsX8_undo wsX8_workOut := goodIn_r _ [57, 58, 2, 59, 60, 61, 62, 63, 64, 65, 66, 67, 68, 69, 70, 71, 72, 73, 31, 74, 36, 75, 76, 77, 78, 79, 80, 81, 82, 83, 84, 85, 21, 86, 24, 26, 25, 87, 88, 89, 90, 91, 34, 33, 92, 93, 94, 44, 95, 46, 96, 97, 98, 99, 100, 101, 102, 103, 104, 105, 106, 107, 108, 109, 110, 111, 112, 113, 114, 115, 116, 117, 118, 119, 120, 121, 122, 123, 124, 125, 126, 127, 128, 129, 130, 131, 132, 133, 134, 135, 136, 137, 138, 139, 140, 141, 142, 143, 144, 145, 146, 147, 148, 149, 150, 151, 152, 153, 154, 155, 156, 157, 23, 158, 159, 160, 161, 162, 163, 164, 165, 166, 167, 168, 169, 170, 171, 172, 173, 174, 175, 176, 177, 178, 179, 180, 181, 182, 183, 184, 185, 186, 187, 188, 189, 190, 191, 192, 193, 194, 195, 196, 197, 198, 199, 200, 201, 202, 203, 204, 205, 208, 209, 210, 211, 212, 219, 220, 221, 222, 223, 213, 214, 215, 216, 217, 218, 224, 225, 226, 227, 228, 229, 230, 231, 232, 233, 234] (by decide +kernel) (by decide +kernel)
set_option maxRecDepth 20000 in
theorem gX8_undo_X8_workOut : GoodIn wsX8_undo (wsV RX8 91 RX8 yX8_workOut wsX8_workOut) := goodIn_app (goodIn_of _ (by decide +kernel)) ggX8_undo_X8_workOut
theorem dX8_undo_0 : decode cX8_undo 0 = .ok (.aload_n 0, 1) := by decide +kernel
theorem dX8_undo_1 : decode cX8_undo 1 = .ok (.getfield 26, 3) := by decide +kernel
theorem dX8_undo_4 : decode cX8_undo 4 = .ok (.invokevirtual 157, 3) := by decide +kernel
theorem dX8_undo_7 : decode cX8_undo 7 = .ok (.ifCond .ne 6, 3) := by decide +kernel
theorem dX8_undo_10 : decode cX8_undo 10 = .ok (.bipush (-12), 2) := by decide +kernel
theorem dX8_undo_12 : decode cX8_undo 12 = .ok (.ireturn, 1) := by decide +kernel
theorem dX8_undo_13 : decode cX8_undo 13 = .ok (.aload_n 0, 1) := by decide +kernel
theorem dX8_undo_14 : decode cX8_undo 14 = .ok (.getfield 26, 3) := by decide +kernel
theorem dX8_undo_17 : decode cX8_undo 17 = .ok (.aload_n 0, 1) := by decide +kernel
theorem dX8_undo_18 : decode cX8_undo 18 = .ok (.getfield 19, 3) := by decide +kernel
theorem dX8_undo_21 : decode cX8_undo 21 = .ok (.invokevirtual 237, 3) := by decide +kernel
theorem dX8_undo_24 : decode cX8_undo 24 = .ok (.aload_n 0, 1) := by decide +kernel
theorem dX8_undo_25 : decode cX8_undo 25 = .ok (.invokevirtual 91, 3) := by decide +kernel
theorem dX8_undo_28 : decode cX8_undo 28 = .ok (.aload_n 0, 1) := by decide +kernel
theorem dX8_undo_29 : decode cX8_undo 29 = .ok (.getfield 26, 3) := by decide +kernel
theorem dX8_undo_32 : decode cX8_undo 32 = .ok (.invokevirtual 157, 3) := by decide +kernel
theorem dX8_undo_35 : decode cX8_undo 35 = .ok (.ireturn, 1) := by decide +kernel
set_option maxRecDepth 20000 in
theorem ggX8_workOut_X1_measure : GoodIn wsX8_workOut wsX1_measure := goodIn_r _ [9, 10, 11, 12, 13, 14, 15, 16, 17, 18, 19, 20, 21, 22, 23, 8, 24, 25, 26, 27, 28, 29, 30, 31, 32, 33, 34, 35, 36, 37, 38, 39, 40, 41, 42, 43, 44, 45, 46, 47, 48, 49, 50, 51, 52, 53, 54, 55, 56, 57, 58, 161, 162, 163, 164, 165, 166, 167, 168, 169, 170, 171, 172, 173, 174, 175, 176] (by decide +kernel) (by decide +kernel)
set_option maxRecDepth 20000 in
theorem gX8_workOut_X1_measure : GoodIn wsX8_workOut (wsV RX8 240 RX1 yX1_measure wsX1_measure) := goodIn_app (goodIn_of _ (by decide +kernel)) ggX8_workOut_X1_measure
set_option maxRecDepth 20000 in
theorem ggX8_workOut_X3_at : GoodIn wsX8_workOut wsX3_at := goodIn_r _ [48, 49, 176] (by decide +kernel) (by decide +kernel)
set_option maxRecDepth 20000 in
theorem gX8_workOut_X3_at : GoodIn wsX8_workOut (wsV RX8 117 RX3 yX3_at wsX3_at) := goodIn_app (goodIn_of _ (by decide +kernel)) ggX8_workOut_X3_at
set_option maxRecDepth 20000 in
theorem ggX8_workOut_X0_draw : GoodIn wsX8_workOut wsX0_draw := goodIn_r _ [64, 65, 66, 67, 68, 69, 8, 70, 11, 71, 72, 73, 63, 74, 75, 76, 77, 78, 12, 58, 45, 46, 47, 48, 49, 79, 80, 81, 82, 83, 84, 85, 13, 86, 87, 88, 89, 90, 91, 92, 93, 14, 94, 51, 52, 53, 177, 178, 166, 167, 168, 169, 170, 176] (by decide +kernel) (by decide +kernel)
set_option maxRecDepth 20000 in
theorem gX8_workOut_X0_draw : GoodIn wsX8_workOut (wsV RX8 229 RX0 yX0_draw wsX0_draw) := goodIn_app (goodIn_of _ (by decide +kernel)) ggX8_workOut_X0_draw
set_option maxRecDepth 20000 in
theorem ggX8_workOut_X4_hideWords : GoodIn wsX8_workOut wsX4_hideWords := goodIn_r _ [99, 100, 101, 102, 103, 104, 16, 17, 18, 19, 20, 105, 68, 69, 8, 70, 11, 106, 22, 23, 24, 10, 107, 26, 27, 28, 108, 109, 110, 32, 111, 112, 34, 36, 113, 114, 115, 116, 42, 44, 45, 46, 47, 48, 49, 117, 118, 119, 120, 43, 41, 121, 51, 52, 53, 122, 38, 39, 40, 179, 180, 181, 182, 183, 184, 185, 186, 187, 161, 162, 163, 164, 165, 171, 172, 173, 174, 175, 166, 167, 168, 169, 170, 176] (by decide +kernel) (by decide +kernel)
set_option maxRecDepth 20000 in
theorem gX8_workOut_X4_hideWords : GoodIn wsX8_workOut (wsV RX8 243 RX4 yX4_hideWords wsX4_hideWords) := goodIn_app (goodIn_of _ (by decide +kernel)) ggX8_workOut_X4_hideWords
set_option maxRecDepth 20000 in
theorem ggX8_workOut_X4_flow : GoodIn wsX8_workOut wsX4_flow := goodIn_r _ [126, 100, 127, 128, 129, 130, 131, 132, 45, 46, 47, 48, 49, 104, 16, 17, 18, 19, 20, 133, 134, 135, 98, 136, 137, 138, 139, 140, 102, 141, 142, 143, 144, 145, 146, 147, 63, 148, 66, 149, 150, 151, 152, 153, 103, 121, 51, 52, 53, 179, 180, 181, 182, 183, 184, 185, 186, 187, 161, 162, 163, 164, 165, 176, 171, 172, 173, 174, 175, 177, 178] (by decide +kernel) (by decide +kernel)
set_option maxRecDepth 20000 in
theorem gX8_workOut_X4_flow : GoodIn wsX8_workOut (wsV RX8 246 RX4 yX4_flow wsX4_flow) := goodIn_app (goodIn_of _ (by decide +kernel)) ggX8_workOut_X4_flow
theorem dX8_workOut_0 : decode cX8_workOut 0 = .ok (.aload_n 0, 1) := by decide +kernel
theorem dX8_workOut_1 : decode cX8_workOut 1 = .ok (.getfield 33, 3) := by decide +kernel
theorem dX8_workOut_4 : decode cX8_workOut 4 = .ok (.aload_n 0, 1) := by decide +kernel
theorem dX8_workOut_5 : decode cX8_workOut 5 = .ok (.getfield 19, 3) := by decide +kernel
theorem dX8_workOut_8 : decode cX8_workOut 8 = .ok (.invokevirtual 240, 3) := by decide +kernel
theorem dX8_workOut_11 : decode cX8_workOut 11 = .ok (.aload_n 0, 1) := by decide +kernel
theorem dX8_workOut_12 : decode cX8_workOut 12 = .ok (.getfield 42, 3) := by decide +kernel
theorem dX8_workOut_15 : decode cX8_workOut 15 = .ok (.aload_n 0, 1) := by decide +kernel
theorem dX8_workOut_16 : decode cX8_workOut 16 = .ok (.getfield 19, 3) := by decide +kernel
theorem dX8_workOut_19 : decode cX8_workOut 19 = .ok (.getfield 133, 3) := by decide +kernel
theorem dX8_workOut_22 : decode cX8_workOut 22 = .ok (.iconst 0, 1) := by decide +kernel
theorem dX8_workOut_23 : decode cX8_workOut 23 = .ok (.invokevirtual 117, 3) := by decide +kernel
theorem dX8_workOut_26 : decode cX8_workOut 26 = .ok (.aload_n 0, 1) := by decide +kernel
theorem dX8_workOut_27 : decode cX8_workOut 27 = .ok (.getfield 19, 3) := by decide +kernel
theorem dX8_workOut_30 : decode cX8_workOut 30 = .ok (.getfield 133, 3) := by decide +kernel
theorem dX8_workOut_33 : decode cX8_workOut 33 = .ok (.iconst 1, 1) := by decide +kernel
theorem dX8_workOut_34 : decode cX8_workOut 34 = .ok (.invokevirtual 117, 3) := by decide +kernel
theorem dX8_workOut_37 : decode cX8_workOut 37 = .ok (.aload_n 0, 1) := by decide +kernel
theorem dX8_workOut_38 : decode cX8_workOut 38 = .ok (.getfield 19, 3) := by decide +kernel
theorem dX8_workOut_41 : decode cX8_workOut 41 = .ok (.getfield 133, 3) := by decide +kernel
theorem dX8_workOut_44 : decode cX8_workOut 44 = .ok (.iconst 2, 1) := by decide +kernel
theorem dX8_workOut_45 : decode cX8_workOut 45 = .ok (.invokevirtual 117, 3) := by decide +kernel
theorem dX8_workOut_48 : decode cX8_workOut 48 = .ok (.invokevirtual 229, 3) := by decide +kernel
theorem dX8_workOut_51 : decode cX8_workOut 51 = .ok (.aload_n 0, 1) := by decide +kernel
theorem dX8_workOut_52 : decode cX8_workOut 52 = .ok (.getfield 54, 3) := by decide +kernel
theorem dX8_workOut_55 : decode cX8_workOut 55 = .ok (.invokevirtual 243, 3) := by decide +kernel
theorem dX8_workOut_58 : decode cX8_workOut 58 = .ok (.aload_n 0, 1) := by decide +kernel
theorem dX8_workOut_59 : decode cX8_workOut 59 = .ok (.getfield 54, 3) := by decide +kernel
theorem dX8_workOut_62 : decode cX8_workOut 62 = .ok (.aload_n 0, 1) := by decide +kernel
theorem dX8_workOut_63 : decode cX8_workOut 63 = .ok (.getfield 42, 3) := by decide +kernel
theorem dX8_workOut_66 : decode cX8_workOut 66 = .ok (.invokevirtual 246, 3) := by decide +kernel
theorem dX8_workOut_69 : decode cX8_workOut 69 = .ok (.return_, 1) := by decide +kernel
set_option maxRecDepth 20000 in
theorem ggX8_addTextTo_X7_greatestLength : GoodIn wsX8_addTextTo wsX7_greatestLength := goodIn_r _ [8, 9, 257, 258, 259, 260, 261] (by decide +kernel) (by decide +kernel)
set_option maxRecDepth 20000 in
theorem gX8_addTextTo_X7_greatestLength : GoodIn wsX8_addTextTo (wsV RX8 250 RX7 yX7_greatestLength wsX7_greatestLength) := goodIn_app (goodIn_of _ (by decide +kernel)) ggX8_addTextTo_X7_greatestLength
set_option maxRecDepth 20000 in
theorem ggX8_addTextTo_X6_isOneWord : GoodIn wsX8_addTextTo wsX6_isOneWord := goodIn_r _ [14, 15, 16, 17, 18, 19, 20, 21, 22, 23, 24, 25, 262, 263, 264] (by decide +kernel) (by decide +kernel)
set_option maxRecDepth 20000 in
theorem gX8_addTextTo_X6_isOneWord : GoodIn wsX8_addTextTo (wsV RX8 253 RX6 yX6_isOneWord wsX6_isOneWord) := goodIn_app (goodIn_of _ (by decide +kernel)) ggX8_addTextTo_X6_isOneWord
set_option maxRecDepth 20000 in
theorem ggX8_addTextTo_X7_hasWord : GoodIn wsX8_addTextTo wsX7_hasWord := goodIn_r _ [29, 30, 31, 32, 33, 7, 34, 35, 36, 37, 38, 39, 40, 18, 19, 20, 21, 22, 41, 42, 43, 13, 44, 15, 45, 46, 47, 48, 49, 9, 50, 51, 52, 53, 16, 17, 257, 258, 259, 260, 261, 264, 262, 263] (by decide +kernel) (by decide +kernel)
set_option maxRecDepth 20000 in
theorem gX8_addTextTo_X7_hasWord : GoodIn wsX8_addTextTo (wsV RX8 256 RX7 yX7_hasWord wsX7_hasWord) := goodIn_app (goodIn_of _ (by decide +kernel)) ggX8_addTextTo_X7_hasWord
set_option maxRecDepth 20000 in
theorem ggX8_addTextTo_X7_isFull : GoodIn wsX8_addTextTo wsX7_isFull := goodIn_r _ [57, 30, 58, 257, 258, 259, 260, 261] (by decide +kernel) (by decide +kernel)
set_option maxRecDepth 20000 in
theorem gX8_addTextTo_X7_isFull : GoodIn wsX8_addTextTo (wsV RX8 260 RX7 yX7_isFull wsX7_isFull) := goodIn_app (goodIn_of _ (by decide +kernel)) ggX8_addTextTo_X7_isFull
set_option maxRecDepth 20000 in
theorem ggX8_addTextTo_X2_keep : GoodIn wsX8_addTextTo wsX2_keep := goodIn_r _ [63, 64, 65, 66, 67, 68, 62, 69, 70, 71, 72, 73, 74, 75, 76, 77, 78, 79, 80, 81, 82, 83, 84, 85, 86, 7, 87, 49, 39, 58, 30, 88, 89, 90, 91, 92, 93, 94, 20, 95, 22, 96, 97, 98, 99, 100, 101, 265, 266, 267, 268, 269, 270, 271, 257, 258, 259, 260, 261, 264] (by decide +kernel) (by decide +kernel)
set_option maxRecDepth 20000 in
theorem gX8_addTextTo_X2_keep : GoodIn wsX8_addTextTo (wsV RX8 76 RX2 yX2_keep wsX2_keep) := goodIn_app (goodIn_of _ (by decide +kernel)) ggX8_addTextTo_X2_keep
set_option maxRecDepth 20000 in
theorem ggX8_addTextTo_X7_addWordsOf : GoodIn wsX8_addTextTo wsX7_addWordsOf := goodIn_r _ [105, 41, 42, 43, 13, 44, 15, 50, 51, 52, 53, 16, 17, 18, 19, 20, 21, 22, 23, 24, 25, 106, 107, 108, 7, 109, 30, 58, 39, 110, 111, 112, 113, 114, 115, 116, 117, 9, 49, 35, 36, 37, 38, 40, 262, 263, 264, 257, 258, 259, 260, 261] (by decide +kernel) (by decide +kernel)
set_option maxRecDepth 20000 in
theorem gX8_addTextTo_X7_addWordsOf : GoodIn wsX8_addTextTo (wsV RX8 87 RX7 yX7_addWordsOf wsX7_addWordsOf) := goodIn_app (goodIn_of _ (by decide +kernel)) ggX8_addTextTo_X7_addWordsOf
set_option maxRecDepth 20000 in
theorem ggX8_addTextTo_X8_workOut : GoodIn wsX8_addTextTo wsX8_workOut := goodIn_r _ [121, 122, 3, 123, 124, 125, 126, 127, 128, 129, 130, 131, 132, 133, 134, 135, 136, 137, 7, 138, 30, 139, 140, 141, 142, 143, 144, 145, 146, 147, 148, 149, 77, 150, 80, 82, 81, 151, 152, 153, 154, 9, 39, 49, 40, 18, 19, 20, 21, 22, 155, 111, 112, 113, 156, 157, 158, 159, 160, 161, 162, 163, 164, 165, 166, 167, 168, 169, 170, 171, 172, 173, 174, 175, 176, 177, 178, 179, 180, 181, 182, 183, 184, 185, 186, 187, 188, 189, 190, 191, 192, 193, 194, 195, 196, 197, 198, 199, 200, 201, 202, 203, 204, 205, 206, 207, 208, 209, 210, 211, 212, 213, 79, 214, 36, 37, 38, 215, 46, 47, 48, 216, 217, 218, 219, 220, 221, 222, 223, 224, 225, 226, 227, 228, 229, 230, 231, 232, 233, 234, 235, 236, 237, 238, 239, 240, 241, 242, 243, 244, 245, 246, 247, 248, 250, 251, 252, 253, 254, 255, 256, 267, 268, 269, 270, 271, 272, 273, 274, 275, 276, 257, 258, 259, 260, 261, 264, 277, 278, 279, 280, 281, 282, 283, 284, 285, 286, 287] (by decide +kernel) (by decide +kernel)
set_option maxRecDepth 20000 in
theorem gX8_addTextTo_X8_workOut : GoodIn wsX8_addTextTo (wsV RX8 91 RX8 yX8_workOut wsX8_workOut) := goodIn_app (goodIn_of _ (by decide +kernel)) ggX8_addTextTo_X8_workOut
set_option maxRecDepth 20000 in
theorem ggX8_addTextTo_X7_size : GoodIn wsX8_addTextTo wsX7_size := goodIn_r _ [138, 30, 257, 258, 259, 260, 261] (by decide +kernel) (by decide +kernel)
set_option maxRecDepth 20000 in
theorem gX8_addTextTo_X7_size : GoodIn wsX8_addTextTo (wsV RX8 94 RX7 yX7_size wsX7_size) := goodIn_app (goodIn_of _ (by decide +kernel)) ggX8_addTextTo_X7_size
theorem dX8_addTextTo_0 : decode cX8_addTextTo 0 = .ok (.aload_n 0, 1) := by decide +kernel
theorem dX8_addTextTo_1 : decode cX8_addTextTo 1 = .ok (.getfield 12, 3) := by decide +kernel
theorem dX8_addTextTo_4 : decode cX8_addTextTo 4 = .ok (.aload_n 1, 1) := by decide +kernel
theorem dX8_addTextTo_5 : decode cX8_addTextTo 5 = .ok (.invokevirtual 250, 3) := by decide +kernel
theorem dX8_addTextTo_8 : decode cX8_addTextTo 8 = .ok (.invokevirtual 253, 3) := by decide +kernel
theorem dX8_addTextTo_11 : decode cX8_addTextTo 11 = .ok (.ifCond .eq 14, 3) := by decide +kernel
theorem dX8_addTextTo_14 : decode cX8_addTextTo 14 = .ok (.aload_n 1, 1) := by decide +kernel
theorem dX8_addTextTo_15 : decode cX8_addTextTo 15 = .ok (.aload_n 0, 1) := by decide +kernel
theorem dX8_addTextTo_16 : decode cX8_addTextTo 16 = .ok (.getfield 12, 3) := by decide +kernel
theorem dX8_addTextTo_19 : decode cX8_addTextTo 19 = .ok (.invokevirtual 256, 3) := by decide +kernel
theorem dX8_addTextTo_22 : decode cX8_addTextTo 22 = .ok (.ifCond .eq 6, 3) := by decide +kernel
theorem dX8_addTextTo_25 : decode cX8_addTextTo 25 = .ok (.bipush (-12), 2) := by decide +kernel
theorem dX8_addTextTo_27 : decode cX8_addTextTo 27 = .ok (.ireturn, 1) := by decide +kernel
theorem dX8_addTextTo_28 : decode cX8_addTextTo 28 = .ok (.aload_n 1, 1) := by decide +kernel
theorem dX8_addTextTo_29 : decode cX8_addTextTo 29 = .ok (.invokevirtual 260, 3) := by decide +kernel
theorem dX8_addTextTo_32 : decode cX8_addTextTo 32 = .ok (.ifCond .eq 6, 3) := by decide +kernel
theorem dX8_addTextTo_35 : decode cX8_addTextTo 35 = .ok (.bipush (-13), 2) := by decide +kernel
theorem dX8_addTextTo_37 : decode cX8_addTextTo 37 = .ok (.ireturn, 1) := by decide +kernel
theorem dX8_addTextTo_38 : decode cX8_addTextTo 38 = .ok (.aload_n 0, 1) := by decide +kernel
theorem dX8_addTextTo_39 : decode cX8_addTextTo 39 = .ok (.getfield 26, 3) := by decide +kernel
theorem dX8_addTextTo_42 : decode cX8_addTextTo 42 = .ok (.aload_n 0, 1) := by decide +kernel
theorem dX8_addTextTo_43 : decode cX8_addTextTo 43 = .ok (.getfield 19, 3) := by decide +kernel
theorem dX8_addTextTo_46 : decode cX8_addTextTo 46 = .ok (.invokevirtual 76, 3) := by decide +kernel
theorem dX8_addTextTo_49 : decode cX8_addTextTo 49 = .ok (.aload_n 1, 1) := by decide +kernel
theorem dX8_addTextTo_50 : decode cX8_addTextTo 50 = .ok (.aload_n 0, 1) := by decide +kernel
theorem dX8_addTextTo_51 : decode cX8_addTextTo 51 = .ok (.getfield 12, 3) := by decide +kernel
theorem dX8_addTextTo_54 : decode cX8_addTextTo 54 = .ok (.invokevirtual 87, 3) := by decide +kernel
theorem dX8_addTextTo_57 : decode cX8_addTextTo 57 = .ok (.aload_n 0, 1) := by decide +kernel
theorem dX8_addTextTo_58 : decode cX8_addTextTo 58 = .ok (.invokevirtual 91, 3) := by decide +kernel
theorem dX8_addTextTo_61 : decode cX8_addTextTo 61 = .ok (.aload_n 1, 1) := by decide +kernel
theorem dX8_addTextTo_62 : decode cX8_addTextTo 62 = .ok (.invokevirtual 94, 3) := by decide +kernel
theorem dX8_addTextTo_65 : decode cX8_addTextTo 65 = .ok (.iconst 1, 1) := by decide +kernel
theorem dX8_addTextTo_66 : decode cX8_addTextTo 66 = .ok (.isub, 1) := by decide +kernel
theorem dX8_addTextTo_67 : decode cX8_addTextTo 67 = .ok (.ireturn, 1) := by decide +kernel
set_option maxRecDepth 20000 in
theorem ggX8_dropFrom_X7_has : GoodIn wsX8_dropFrom wsX7_has := goodIn_r _ [7, 8, 219, 220, 221, 222, 223] (by decide +kernel) (by decide +kernel)
set_option maxRecDepth 20000 in
theorem gX8_dropFrom_X7_has : GoodIn wsX8_dropFrom (wsV RX8 158 RX7 yX7_has wsX7_has) := goodIn_app (goodIn_of _ (by decide +kernel)) ggX8_dropFrom_X7_has
set_option maxRecDepth 20000 in
theorem ggX8_dropFrom_X2_keep : GoodIn wsX8_dropFrom wsX2_keep := goodIn_r _ [13, 14, 15, 16, 17, 18, 12, 19, 20, 21, 22, 23, 24, 25, 26, 27, 28, 29, 30, 31, 32, 33, 34, 35, 36, 6, 37, 38, 39, 40, 8, 41, 42, 43, 44, 45, 46, 47, 48, 49, 50, 51, 52, 53, 54, 55, 56, 224, 225, 226, 227, 228, 229, 230, 219, 220, 221, 222, 223, 231] (by decide +kernel) (by decide +kernel)
set_option maxRecDepth 20000 in
theorem gX8_dropFrom_X2_keep : GoodIn wsX8_dropFrom (wsV RX8 76 RX2 yX2_keep wsX2_keep) := goodIn_app (goodIn_of _ (by decide +kernel)) ggX8_dropFrom_X2_keep
set_option maxRecDepth 20000 in
theorem ggX8_dropFrom_X7_remove : GoodIn wsX8_dropFrom wsX7_remove := goodIn_r _ [60, 8, 39, 61, 38, 62, 4, 5, 6, 7, 63, 64, 65, 66, 67, 68, 69, 48, 70, 50, 71, 72, 73, 74, 75, 76, 77, 78, 219, 220, 221, 222, 223, 231] (by decide +kernel) (by decide +kernel)
set_option maxRecDepth 20000 in
theorem gX8_dropFrom_X7_remove : GoodIn wsX8_dropFrom (wsV RX8 264 RX7 yX7_remove wsX7_remove) := goodIn_app (goodIn_of _ (by decide +kernel)) ggX8_dropFrom_X7_remove
set_option maxRecDepth 20000 in
theorem ggX8_dropFrom_X8_workOut : GoodIn wsX8_dropFrom wsX8_workOut := goodIn_r _ [83, 84, 2, 85, 86, 87, 88, 89, 90, 91, 92, 93, 94, 95, 96, 97, 98, 99, 6, 100, 8, 101, 102, 103, 104, 105, 106, 107, 108, 109, 110, 111, 27, 112, 30, 32, 31, 113, 114, 115, 116, 61, 39, 38, 67, 68, 69, 48, 70, 50, 117, 72, 73, 74, 118, 119, 120, 121, 122, 123, 124, 125, 126, 127, 128, 129, 130, 131, 132, 133, 134, 135, 136, 137, 138, 139, 140, 141, 142, 143, 144, 145, 146, 147, 148, 149, 150, 151, 152, 153, 154, 155, 156, 157, 158, 159, 160, 161, 162, 163, 164, 165, 166, 167, 168, 169, 170, 171, 172, 173, 174, 175, 29, 176, 64, 65, 66, 177, 76, 77, 78, 178, 179, 180, 181, 182, 183, 184, 185, 186, 187, 188, 189, 190, 191, 192, 193, 194, 195, 196, 197, 198, 199, 200, 201, 202, 203, 204, 205, 206, 207, 208, 209, 210, 212, 213, 214, 215, 216, 217, 218, 226, 227, 228, 229, 230, 232, 233, 234, 235, 236, 219, 220, 221, 222, 223, 231, 237, 238, 239, 240, 241, 242, 243, 244, 245, 246, 247] (by decide +kernel) (by decide +kernel)
set_option maxRecDepth 20000 in
theorem gX8_dropFrom_X8_workOut : GoodIn wsX8_dropFrom (wsV RX8 91 RX8 yX8_workOut wsX8_workOut) := goodIn_app (goodIn_of _ (by decide +kernel)) ggX8_dropFrom_X8_workOut
set_option maxRecDepth 20000 in
theorem ggX8_dropFrom_X7_size : GoodIn wsX8_dropFrom wsX7_size := goodIn_r _ [100, 8, 219, 220, 221, 222, 223] (by decide +kernel) (by decide +kernel)
set_option maxRecDepth 20000 in
theorem gX8_dropFrom_X7_size : GoodIn wsX8_dropFrom (wsV RX8 94 RX7 yX7_size wsX7_size) := goodIn_app (goodIn_of _ (by decide +kernel)) ggX8_dropFrom_X7_size
theorem dX8_dropFrom_0 : decode cX8_dropFrom 0 = .ok (.aload_n 1, 1) := by decide +kernel
theorem dX8_dropFrom_1 : decode cX8_dropFrom 1 = .ok (.iload_n 2, 1) := by decide +kernel
theorem dX8_dropFrom_2 : decode cX8_dropFrom 2 = .ok (.invokevirtual 158, 3) := by decide +kernel
theorem dX8_dropFrom_5 : decode cX8_dropFrom 5 = .ok (.ifCond .ne 6, 3) := by decide +kernel
theorem dX8_dropFrom_8 : decode cX8_dropFrom 8 = .ok (.bipush (-11), 2) := by decide +kernel
theorem dX8_dropFrom_10 : decode cX8_dropFrom 10 = .ok (.ireturn, 1) := by decide +kernel
theorem dX8_dropFrom_11 : decode cX8_dropFrom 11 = .ok (.aload_n 0, 1) := by decide +kernel
theorem dX8_dropFrom_12 : decode cX8_dropFrom 12 = .ok (.getfield 26, 3) := by decide +kernel
theorem dX8_dropFrom_15 : decode cX8_dropFrom 15 = .ok (.aload_n 0, 1) := by decide +kernel
theorem dX8_dropFrom_16 : decode cX8_dropFrom 16 = .ok (.getfield 19, 3) := by decide +kernel
theorem dX8_dropFrom_19 : decode cX8_dropFrom 19 = .ok (.invokevirtual 76, 3) := by decide +kernel
theorem dX8_dropFrom_22 : decode cX8_dropFrom 22 = .ok (.aload_n 1, 1) := by decide +kernel
theorem dX8_dropFrom_23 : decode cX8_dropFrom 23 = .ok (.iload_n 2, 1) := by decide +kernel
theorem dX8_dropFrom_24 : decode cX8_dropFrom 24 = .ok (.invokevirtual 264, 3) := by decide +kernel
theorem dX8_dropFrom_27 : decode cX8_dropFrom 27 = .ok (.aload_n 0, 1) := by decide +kernel
theorem dX8_dropFrom_28 : decode cX8_dropFrom 28 = .ok (.invokevirtual 91, 3) := by decide +kernel
theorem dX8_dropFrom_31 : decode cX8_dropFrom 31 = .ok (.aload_n 1, 1) := by decide +kernel
theorem dX8_dropFrom_32 : decode cX8_dropFrom 32 = .ok (.invokevirtual 94, 3) := by decide +kernel
theorem dX8_dropFrom_35 : decode cX8_dropFrom 35 = .ok (.ireturn, 1) := by decide +kernel
set_option maxRecDepth 20000 in
theorem ggX8_hiddenWord_X4_isHidden : GoodIn wsX8_hiddenWord wsX4_isHidden := goodIn_r _ [8, 9, 10, 11, 12, 13, 14, 15, 63, 64, 65, 66, 67, 68, 69, 70, 71, 72] (by decide +kernel) (by decide +kernel)
set_option maxRecDepth 20000 in
theorem gX8_hiddenWord_X4_isHidden : GoodIn wsX8_hiddenWord (wsV RX8 170 RX4 yX4_isHidden wsX4_isHidden) := goodIn_app (goodIn_of _ (by decide +kernel)) ggX8_hiddenWord_X4_isHidden
set_option maxRecDepth 20000 in
theorem ggX8_hiddenWord_X4_shownWidthOf : GoodIn wsX8_hiddenWord wsX4_shownWidthOf := goodIn_r _ [19, 20, 10, 11, 12, 13, 14, 15, 63, 64, 65, 66, 67, 68, 69, 70, 71, 72] (by decide +kernel) (by decide +kernel)
set_option maxRecDepth 20000 in
theorem gX8_hiddenWord_X4_shownWidthOf : GoodIn wsX8_hiddenWord (wsV RX8 167 RX4 yX4_shownWidthOf wsX4_shownWidthOf) := goodIn_app (goodIn_of _ (by decide +kernel)) ggX8_hiddenWord_X4_shownWidthOf
set_option maxRecDepth 20000 in
theorem ggX8_hiddenWord_X0_namesUnder : GoodIn wsX8_hiddenWord wsX0_namesUnder := goodIn_r _ [25, 26, 27, 28, 29, 30, 31, 32, 33, 34, 11, 12, 13, 14, 15, 35, 36, 37, 38, 39, 73, 74, 75, 76, 77, 78, 79, 72] (by decide +kernel) (by decide +kernel)
set_option maxRecDepth 20000 in
theorem gX8_hiddenWord_X0_namesUnder : GoodIn wsX8_hiddenWord (wsV RX8 215 RX0 yX0_namesUnder wsX0_namesUnder) := goodIn_app (goodIn_of _ (by decide +kernel)) ggX8_hiddenWord_X0_namesUnder
set_option maxRecDepth 20000 in
theorem ggX8_hiddenWord_X4_formOf : GoodIn wsX8_hiddenWord wsX4_formOf := goodIn_r _ [43, 9, 10, 11, 12, 13, 14, 15, 63, 64, 65, 66, 67, 68, 69, 70, 71, 72] (by decide +kernel) (by decide +kernel)
set_option maxRecDepth 20000 in
theorem gX8_hiddenWord_X4_formOf : GoodIn wsX8_hiddenWord (wsV RX8 267 RX4 yX4_formOf wsX4_formOf) := goodIn_app (goodIn_of _ (by decide +kernel)) ggX8_hiddenWord_X4_formOf
set_option maxRecDepth 20000 in
theorem ggX8_hiddenWord_X1_nameOf : GoodIn wsX8_hiddenWord wsX1_nameOf := goodIn_r _ [38, 39, 75, 76, 77, 78, 79] (by decide +kernel) (by decide +kernel)
set_option maxRecDepth 20000 in
theorem gX8_hiddenWord_X1_nameOf : GoodIn wsX8_hiddenWord (wsV RX8 270 RX1 yX1_nameOf wsX1_nameOf) := goodIn_app (goodIn_of _ (by decide +kernel)) ggX8_hiddenWord_X1_nameOf
set_option maxRecDepth 20000 in
theorem ggX8_hiddenWord_X1_endingOf : GoodIn wsX8_hiddenWord wsX1_endingOf := goodIn_r _ [48, 39, 75, 76, 77, 78, 79] (by decide +kernel) (by decide +kernel)
set_option maxRecDepth 20000 in
theorem gX8_hiddenWord_X1_endingOf : GoodIn wsX8_hiddenWord (wsV RX8 273 RX1 yX1_endingOf wsX1_endingOf) := goodIn_app (goodIn_of _ (by decide +kernel)) ggX8_hiddenWord_X1_endingOf
set_option maxRecDepth 20000 in
theorem ggX8_hiddenWord_J6_bitCount_0f7a4 : GoodIn wsX8_hiddenWord wsJ6_bitCount_0f7a4 := goodIn_r _ [52, 53, 54, 55] (by decide +kernel) (by decide +kernel)
set_option maxRecDepth 20000 in
theorem gX8_hiddenWord_J6_bitCount_0f7a4 : GoodIn wsX8_hiddenWord (va_wsS RX8 276 yJ6_bitCount_0f7a4 wsJ6_bitCount_0f7a4) := goodIn_app (goodIn_of _ (by decide +kernel)) ggX8_hiddenWord_J6_bitCount_0f7a4
theorem dX8_hiddenWord_0 : decode cX8_hiddenWord 0 = .ok (.aload_n 0, 1) := by decide +kernel
theorem dX8_hiddenWord_1 : decode cX8_hiddenWord 1 = .ok (.getfield 54, 3) := by decide +kernel
theorem dX8_hiddenWord_4 : decode cX8_hiddenWord 4 = .ok (.iload_n 1, 1) := by decide +kernel
theorem dX8_hiddenWord_5 : decode cX8_hiddenWord 5 = .ok (.invokevirtual 170, 3) := by decide +kernel
theorem dX8_hiddenWord_8 : decode cX8_hiddenWord 8 = .ok (.ifCond .ne 6, 3) := by decide +kernel
theorem dX8_hiddenWord_11 : decode cX8_hiddenWord 11 = .ok (.bipush (-14), 2) := by decide +kernel
theorem dX8_hiddenWord_13 : decode cX8_hiddenWord 13 = .ok (.ireturn, 1) := by decide +kernel
theorem dX8_hiddenWord_14 : decode cX8_hiddenWord 14 = .ok (.aload_n 0, 1) := by decide +kernel
theorem dX8_hiddenWord_15 : decode cX8_hiddenWord 15 = .ok (.getfield 42, 3) := by decide +kernel
theorem dX8_hiddenWord_18 : decode cX8_hiddenWord 18 = .ok (.aload_n 0, 1) := by decide +kernel
theorem dX8_hiddenWord_19 : decode cX8_hiddenWord 19 = .ok (.getfield 54, 3) := by decide +kernel
theorem dX8_hiddenWord_22 : decode cX8_hiddenWord 22 = .ok (.iload_n 1, 1) := by decide +kernel
theorem dX8_hiddenWord_23 : decode cX8_hiddenWord 23 = .ok (.invokevirtual 167, 3) := by decide +kernel
theorem dX8_hiddenWord_26 : decode cX8_hiddenWord 26 = .ok (.invokevirtual 215, 3) := by decide +kernel
theorem dX8_hiddenWord_29 : decode cX8_hiddenWord 29 = .ok (.istore_n 3, 1) := by decide +kernel
theorem dX8_hiddenWord_30 : decode cX8_hiddenWord 30 = .ok (.iload_n 2, 1) := by decide +kernel
theorem dX8_hiddenWord_31 : decode cX8_hiddenWord 31 = .ok (.tableswitch 67 4 8 #[33, 49, 67, 67, 65], 33) := by decide +kernel
theorem dX8_hiddenWord_64 : decode cX8_hiddenWord 64 = .ok (.aload_n 0, 1) := by decide +kernel
theorem dX8_hiddenWord_65 : decode cX8_hiddenWord 65 = .ok (.getfield 33, 3) := by decide +kernel
theorem dX8_hiddenWord_68 : decode cX8_hiddenWord 68 = .ok (.aload_n 0, 1) := by decide +kernel
theorem dX8_hiddenWord_69 : decode cX8_hiddenWord 69 = .ok (.getfield 54, 3) := by decide +kernel
theorem dX8_hiddenWord_72 : decode cX8_hiddenWord 72 = .ok (.iload_n 1, 1) := by decide +kernel
theorem dX8_hiddenWord_73 : decode cX8_hiddenWord 73 = .ok (.invokevirtual 267, 3) := by decide +kernel
theorem dX8_hiddenWord_76 : decode cX8_hiddenWord 76 = .ok (.invokevirtual 270, 3) := by decide +kernel
theorem dX8_hiddenWord_79 : decode cX8_hiddenWord 79 = .ok (.ireturn, 1) := by decide +kernel
theorem dX8_hiddenWord_80 : decode cX8_hiddenWord 80 = .ok (.aload_n 0, 1) := by decide +kernel
theorem dX8_hiddenWord_81 : decode cX8_hiddenWord 81 = .ok (.getfield 33, 3) := by decide +kernel
theorem dX8_hiddenWord_84 : decode cX8_hiddenWord 84 = .ok (.aload_n 0, 1) := by decide +kernel
theorem dX8_hiddenWord_85 : decode cX8_hiddenWord 85 = .ok (.getfield 54, 3) := by decide +kernel
theorem dX8_hiddenWord_88 : decode cX8_hiddenWord 88 = .ok (.iload_n 1, 1) := by decide +kernel
theorem dX8_hiddenWord_89 : decode cX8_hiddenWord 89 = .ok (.invokevirtual 267, 3) := by decide +kernel
theorem dX8_hiddenWord_92 : decode cX8_hiddenWord 92 = .ok (.invokevirtual 273, 3) := by decide +kernel
theorem dX8_hiddenWord_95 : decode cX8_hiddenWord 95 = .ok (.ireturn, 1) := by decide +kernel
theorem dX8_hiddenWord_96 : decode cX8_hiddenWord 96 = .ok (.iload_n 3, 1) := by decide +kernel
theorem dX8_hiddenWord_97 : decode cX8_hiddenWord 97 = .ok (.ireturn, 1) := by decide +kernel
theorem dX8_hiddenWord_98 : decode cX8_hiddenWord 98 = .ok (.iload_n 3, 1) := by decide +kernel
theorem dX8_hiddenWord_99 : decode cX8_hiddenWord 99 = .ok (.invokestatic 276, 3) := by decide +kernel
theorem dX8_hiddenWord_102 : decode cX8_hiddenWord 102 = .ok (.ireturn, 1) := by decide +kernel
set_option maxRecDepth 20000 in
theorem ggX8_guessesAheadOf_X7_size : GoodIn wsX8_guessesAheadOf wsX7_size := goodIn_r _ [7, 8, 55, 56, 57, 58, 59] (by decide +kernel) (by decide +kernel)
set_option maxRecDepth 20000 in
theorem gX8_guessesAheadOf_X7_size : GoodIn wsX8_guessesAheadOf (wsV RX8 94 RX7 yX7_size wsX7_size) := goodIn_app (goodIn_of _ (by decide +kernel)) ggX8_guessesAheadOf_X7_size
set_option maxRecDepth 20000 in
theorem ggX8_guessesAheadOf_X0_leastGap : GoodIn wsX8_guessesAheadOf wsX0_leastGap := goodIn_r _ [13, 14, 15, 16, 17, 18, 19, 20, 21, 22, 23, 24, 25, 26, 27, 28, 29, 30, 31, 32, 33, 34, 35, 36, 37, 38, 39, 40, 41, 42, 60, 61, 62, 63, 64, 65, 66, 67] (by decide +kernel) (by decide +kernel)
set_option maxRecDepth 20000 in
theorem gX8_guessesAheadOf_X0_leastGap : GoodIn wsX8_guessesAheadOf (wsV RX8 218 RX0 yX0_leastGap wsX0_leastGap) := goodIn_app (goodIn_of _ (by decide +kernel)) ggX8_guessesAheadOf_X0_leastGap
theorem dX8_guessesAheadOf_0 : decode cX8_guessesAheadOf 0 = .ok (.iconst 0, 1) := by decide +kernel
theorem dX8_guessesAheadOf_1 : decode cX8_guessesAheadOf 1 = .ok (.istore 4, 2) := by decide +kernel
theorem dX8_guessesAheadOf_3 : decode cX8_guessesAheadOf 3 = .ok (.iconst 0, 1) := by decide +kernel
theorem dX8_guessesAheadOf_4 : decode cX8_guessesAheadOf 4 = .ok (.istore 5, 2) := by decide +kernel
theorem dX8_guessesAheadOf_6 : decode cX8_guessesAheadOf 6 = .ok (.iload 5, 2) := by decide +kernel
theorem dX8_guessesAheadOf_8 : decode cX8_guessesAheadOf 8 = .ok (.aload_n 0, 1) := by decide +kernel
theorem dX8_guessesAheadOf_9 : decode cX8_guessesAheadOf 9 = .ok (.getfield 19, 3) := by decide +kernel
theorem dX8_guessesAheadOf_12 : decode cX8_guessesAheadOf 12 = .ok (.getfield 95, 3) := by decide +kernel
theorem dX8_guessesAheadOf_15 : decode cX8_guessesAheadOf 15 = .ok (.invokevirtual 94, 3) := by decide +kernel
theorem dX8_guessesAheadOf_18 : decode cX8_guessesAheadOf 18 = .ok (.if_icmp .ge 60, 3) := by decide +kernel
theorem dX8_guessesAheadOf_21 : decode cX8_guessesAheadOf 21 = .ok (.aload_n 0, 1) := by decide +kernel
theorem dX8_guessesAheadOf_22 : decode cX8_guessesAheadOf 22 = .ok (.getfield 42, 3) := by decide +kernel
theorem dX8_guessesAheadOf_25 : decode cX8_guessesAheadOf 25 = .ok (.iload 5, 2) := by decide +kernel
theorem dX8_guessesAheadOf_27 : decode cX8_guessesAheadOf 27 = .ok (.iload_n 3, 1) := by decide +kernel
theorem dX8_guessesAheadOf_28 : decode cX8_guessesAheadOf 28 = .ok (.invokevirtual 218, 3) := by decide +kernel
theorem dX8_guessesAheadOf_31 : decode cX8_guessesAheadOf 31 = .ok (.istore 6, 2) := by decide +kernel
theorem dX8_guessesAheadOf_33 : decode cX8_guessesAheadOf 33 = .ok (.iload 6, 2) := by decide +kernel
theorem dX8_guessesAheadOf_35 : decode cX8_guessesAheadOf 35 = .ok (.iload_n 2, 1) := by decide +kernel
theorem dX8_guessesAheadOf_36 : decode cX8_guessesAheadOf 36 = .ok (.if_icmp .lt 15, 3) := by decide +kernel
theorem dX8_guessesAheadOf_39 : decode cX8_guessesAheadOf 39 = .ok (.iload 6, 2) := by decide +kernel
theorem dX8_guessesAheadOf_41 : decode cX8_guessesAheadOf 41 = .ok (.iload_n 2, 1) := by decide +kernel
theorem dX8_guessesAheadOf_42 : decode cX8_guessesAheadOf 42 = .ok (.if_icmp .ne 13, 3) := by decide +kernel
theorem dX8_guessesAheadOf_45 : decode cX8_guessesAheadOf 45 = .ok (.iload 5, 2) := by decide +kernel
theorem dX8_guessesAheadOf_47 : decode cX8_guessesAheadOf 47 = .ok (.iload_n 1, 1) := by decide +kernel
theorem dX8_guessesAheadOf_48 : decode cX8_guessesAheadOf 48 = .ok (.if_icmp .ge 7, 3) := by decide +kernel
theorem dX8_guessesAheadOf_51 : decode cX8_guessesAheadOf 51 = .ok (.iconst 1, 1) := by decide +kernel
theorem dX8_guessesAheadOf_52 : decode cX8_guessesAheadOf 52 = .ok (.goto 4, 3) := by decide +kernel
theorem dX8_guessesAheadOf_55 : decode cX8_guessesAheadOf 55 = .ok (.iconst 0, 1) := by decide +kernel
theorem dX8_guessesAheadOf_56 : decode cX8_guessesAheadOf 56 = .ok (.istore 7, 2) := by decide +kernel
theorem dX8_guessesAheadOf_58 : decode cX8_guessesAheadOf 58 = .ok (.iload 6, 2) := by decide +kernel
theorem dX8_guessesAheadOf_60 : decode cX8_guessesAheadOf 60 = .ok (.iconst (-1), 1) := by decide +kernel
theorem dX8_guessesAheadOf_61 : decode cX8_guessesAheadOf 61 = .ok (.if_icmp .eq 11, 3) := by decide +kernel
theorem dX8_guessesAheadOf_64 : decode cX8_guessesAheadOf 64 = .ok (.iload 7, 2) := by decide +kernel
theorem dX8_guessesAheadOf_66 : decode cX8_guessesAheadOf 66 = .ok (.ifCond .eq 6, 3) := by decide +kernel
theorem dX8_guessesAheadOf_69 : decode cX8_guessesAheadOf 69 = .ok (.iinc 4 1, 3) := by decide +kernel
theorem dX8_guessesAheadOf_72 : decode cX8_guessesAheadOf 72 = .ok (.iinc 5 1, 3) := by decide +kernel
theorem dX8_guessesAheadOf_75 : decode cX8_guessesAheadOf 75 = .ok (.goto (-69), 3) := by decide +kernel
theorem dX8_guessesAheadOf_78 : decode cX8_guessesAheadOf 78 = .ok (.iload 4, 2) := by decide +kernel
theorem dX8_guessesAheadOf_80 : decode cX8_guessesAheadOf 80 = .ok (.ireturn, 1) := by decide +kernel
set_option maxRecDepth 20000 in
theorem ggX8_tellsApart_X4_formOf : GoodIn wsX8_tellsApart wsX4_formOf := goodIn_r _ [8, 9, 10, 11, 12, 13, 14, 15, 44, 45, 46, 47, 48, 49, 50, 51, 52, 53] (by decide +kernel) (by decide +kernel)
set_option maxRecDepth 20000 in
theorem gX8_tellsApart_X4_formOf : GoodIn wsX8_tellsApart (wsV RX8 267 RX4 yX4_formOf wsX4_formOf) := goodIn_app (goodIn_of _ (by decide +kernel)) ggX8_tellsApart_X4_formOf
set_option maxRecDepth 20000 in
theorem ggX8_tellsApart_X1_nameOf : GoodIn wsX8_tellsApart wsX1_nameOf := goodIn_r _ [20, 21, 54, 55, 56, 57, 58] (by decide +kernel) (by decide +kernel)
set_option maxRecDepth 20000 in
theorem gX8_tellsApart_X1_nameOf : GoodIn wsX8_tellsApart (wsV RX8 270 RX1 yX1_nameOf wsX1_nameOf) := goodIn_app (goodIn_of _ (by decide +kernel)) ggX8_tellsApart_X1_nameOf
set_option maxRecDepth 20000 in
theorem ggX8_tellsApart_X1_endingOf : GoodIn wsX8_tellsApart wsX1_endingOf := goodIn_r _ [25, 21, 54, 55, 56, 57, 58] (by decide +kernel) (by decide +kernel)
set_option maxRecDepth 20000 in
theorem gX8_tellsApart_X1_endingOf : GoodIn wsX8_tellsApart (wsV RX8 273 RX1 yX1_endingOf wsX1_endingOf) := goodIn_app (goodIn_of _ (by decide +kernel)) ggX8_tellsApart_X1_endingOf
set_option maxRecDepth 20000 in
theorem ggX8_tellsApart_X1_numberOf : GoodIn wsX8_tellsApart wsX1_numberOf := goodIn_r _ [29, 21, 54, 55, 56, 57, 58] (by decide +kernel) (by decide +kernel)
set_option maxRecDepth 20000 in
theorem gX8_tellsApart_X1_numberOf : GoodIn wsX8_tellsApart (wsV RX8 202 RX1 yX1_numberOf wsX1_numberOf) := goodIn_app (goodIn_of _ (by decide +kernel)) ggX8_tellsApart_X1_numberOf
set_option maxRecDepth 20000 in
theorem ggX8_tellsApart_X0_widthOf : GoodIn wsX8_tellsApart wsX0_widthOf := goodIn_r _ [34, 35, 36, 11, 12, 13, 14, 15, 59, 60, 53] (by decide +kernel) (by decide +kernel)
set_option maxRecDepth 20000 in
theorem gX8_tellsApart_X0_widthOf : GoodIn wsX8_tellsApart (wsV RX8 211 RX0 yX0_widthOf wsX0_widthOf) := goodIn_app (goodIn_of _ (by decide +kernel)) ggX8_tellsApart_X0_widthOf
theorem dX8_tellsApart_0 : decode cX8_tellsApart 0 = .ok (.aload_n 0, 1) := by decide +kernel
theorem dX8_tellsApart_1 : decode cX8_tellsApart 1 = .ok (.getfield 33, 3) := by decide +kernel
theorem dX8_tellsApart_4 : decode cX8_tellsApart 4 = .ok (.aload_n 0, 1) := by decide +kernel
theorem dX8_tellsApart_5 : decode cX8_tellsApart 5 = .ok (.getfield 54, 3) := by decide +kernel
theorem dX8_tellsApart_8 : decode cX8_tellsApart 8 = .ok (.iload_n 1, 1) := by decide +kernel
theorem dX8_tellsApart_9 : decode cX8_tellsApart 9 = .ok (.invokevirtual 267, 3) := by decide +kernel
theorem dX8_tellsApart_12 : decode cX8_tellsApart 12 = .ok (.invokevirtual 270, 3) := by decide +kernel
theorem dX8_tellsApart_15 : decode cX8_tellsApart 15 = .ok (.istore 4, 2) := by decide +kernel
theorem dX8_tellsApart_17 : decode cX8_tellsApart 17 = .ok (.aload_n 0, 1) := by decide +kernel
theorem dX8_tellsApart_18 : decode cX8_tellsApart 18 = .ok (.getfield 33, 3) := by decide +kernel
theorem dX8_tellsApart_21 : decode cX8_tellsApart 21 = .ok (.aload_n 0, 1) := by decide +kernel
theorem dX8_tellsApart_22 : decode cX8_tellsApart 22 = .ok (.getfield 54, 3) := by decide +kernel
theorem dX8_tellsApart_25 : decode cX8_tellsApart 25 = .ok (.iload_n 1, 1) := by decide +kernel
theorem dX8_tellsApart_26 : decode cX8_tellsApart 26 = .ok (.invokevirtual 267, 3) := by decide +kernel
theorem dX8_tellsApart_29 : decode cX8_tellsApart 29 = .ok (.invokevirtual 273, 3) := by decide +kernel
theorem dX8_tellsApart_32 : decode cX8_tellsApart 32 = .ok (.istore 5, 2) := by decide +kernel
theorem dX8_tellsApart_34 : decode cX8_tellsApart 34 = .ok (.iload 4, 2) := by decide +kernel
theorem dX8_tellsApart_36 : decode cX8_tellsApart 36 = .ok (.iload_n 2, 1) := by decide +kernel
theorem dX8_tellsApart_37 : decode cX8_tellsApart 37 = .ok (.if_icmp .eq 11, 3) := by decide +kernel
theorem dX8_tellsApart_40 : decode cX8_tellsApart 40 = .ok (.iload 4, 2) := by decide +kernel
theorem dX8_tellsApart_42 : decode cX8_tellsApart 42 = .ok (.iload_n 3, 1) := by decide +kernel
theorem dX8_tellsApart_43 : decode cX8_tellsApart 43 = .ok (.if_icmp .eq 5, 3) := by decide +kernel
theorem dX8_tellsApart_46 : decode cX8_tellsApart 46 = .ok (.iconst 0, 1) := by decide +kernel
theorem dX8_tellsApart_47 : decode cX8_tellsApart 47 = .ok (.ireturn, 1) := by decide +kernel
theorem dX8_tellsApart_48 : decode cX8_tellsApart 48 = .ok (.aload_n 0, 1) := by decide +kernel
theorem dX8_tellsApart_49 : decode cX8_tellsApart 49 = .ok (.getfield 42, 3) := by decide +kernel
theorem dX8_tellsApart_52 : decode cX8_tellsApart 52 = .ok (.aload_n 0, 1) := by decide +kernel
theorem dX8_tellsApart_53 : decode cX8_tellsApart 53 = .ok (.getfield 33, 3) := by decide +kernel
theorem dX8_tellsApart_56 : decode cX8_tellsApart 56 = .ok (.iload_n 2, 1) := by decide +kernel
theorem dX8_tellsApart_57 : decode cX8_tellsApart 57 = .ok (.iload 5, 2) := by decide +kernel
theorem dX8_tellsApart_59 : decode cX8_tellsApart 59 = .ok (.invokevirtual 202, 3) := by decide +kernel
theorem dX8_tellsApart_62 : decode cX8_tellsApart 62 = .ok (.invokevirtual 211, 3) := by decide +kernel
theorem dX8_tellsApart_65 : decode cX8_tellsApart 65 = .ok (.istore 6, 2) := by decide +kernel
theorem dX8_tellsApart_67 : decode cX8_tellsApart 67 = .ok (.aload_n 0, 1) := by decide +kernel
theorem dX8_tellsApart_68 : decode cX8_tellsApart 68 = .ok (.getfield 42, 3) := by decide +kernel
theorem dX8_tellsApart_71 : decode cX8_tellsApart 71 = .ok (.aload_n 0, 1) := by decide +kernel
theorem dX8_tellsApart_72 : decode cX8_tellsApart 72 = .ok (.getfield 33, 3) := by decide +kernel
theorem dX8_tellsApart_75 : decode cX8_tellsApart 75 = .ok (.iload_n 3, 1) := by decide +kernel
theorem dX8_tellsApart_76 : decode cX8_tellsApart 76 = .ok (.iload 5, 2) := by decide +kernel
theorem dX8_tellsApart_78 : decode cX8_tellsApart 78 = .ok (.invokevirtual 202, 3) := by decide +kernel
theorem dX8_tellsApart_81 : decode cX8_tellsApart 81 = .ok (.invokevirtual 211, 3) := by decide +kernel
theorem dX8_tellsApart_84 : decode cX8_tellsApart 84 = .ok (.istore 7, 2) := by decide +kernel
theorem dX8_tellsApart_86 : decode cX8_tellsApart 86 = .ok (.iload 6, 2) := by decide +kernel
theorem dX8_tellsApart_88 : decode cX8_tellsApart 88 = .ok (.iload 7, 2) := by decide +kernel
theorem dX8_tellsApart_90 : decode cX8_tellsApart 90 = .ok (.if_icmp .eq 7, 3) := by decide +kernel
theorem dX8_tellsApart_93 : decode cX8_tellsApart 93 = .ok (.iconst 1, 1) := by decide +kernel
theorem dX8_tellsApart_94 : decode cX8_tellsApart 94 = .ok (.goto 4, 3) := by decide +kernel
theorem dX8_tellsApart_97 : decode cX8_tellsApart 97 = .ok (.iconst 0, 1) := by decide +kernel
theorem dX8_tellsApart_98 : decode cX8_tellsApart 98 = .ok (.ireturn, 1) := by decide +kernel
theorem dX8_isLetter_0 : decode cX8_isLetter 0 = .ok (.iload_n 0, 1) := by decide +kernel
theorem dX8_isLetter_1 : decode cX8_isLetter 1 = .ok (.bipush 97, 2) := by decide +kernel
theorem dX8_isLetter_3 : decode cX8_isLetter 3 = .ok (.if_icmp .lt 13, 3) := by decide +kernel
theorem dX8_isLetter_6 : decode cX8_isLetter 6 = .ok (.iload_n 0, 1) := by decide +kernel
theorem dX8_isLetter_7 : decode cX8_isLetter 7 = .ok (.bipush 122, 2) := by decide +kernel
theorem dX8_isLetter_9 : decode cX8_isLetter 9 = .ok (.if_icmp .gt 7, 3) := by decide +kernel
theorem dX8_isLetter_12 : decode cX8_isLetter 12 = .ok (.iconst 1, 1) := by decide +kernel
theorem dX8_isLetter_13 : decode cX8_isLetter 13 = .ok (.goto 4, 3) := by decide +kernel
theorem dX8_isLetter_16 : decode cX8_isLetter 16 = .ok (.iconst 0, 1) := by decide +kernel
theorem dX8_isLetter_17 : decode cX8_isLetter 17 = .ok (.ireturn, 1) := by decide +kernel
theorem dX9_init_0 : decode cX9_init 0 = .ok (.aload_n 0, 1) := by decide +kernel
theorem dX9_init_1 : decode cX9_init 1 = .ok (.invokespecial 1, 3) := by decide +kernel
theorem dX9_init_4 : decode cX9_init 4 = .ok (.aload_n 0, 1) := by decide +kernel
theorem dX9_init_5 : decode cX9_init 5 = .ok (.sipush 642, 3) := by decide +kernel
theorem dX9_init_8 : decode cX9_init 8 = .ok (.newarray .int, 2) := by decide +kernel
theorem dX9_init_10 : decode cX9_init 10 = .ok (.putfield 7, 3) := by decide +kernel
theorem dX9_init_13 : decode cX9_init 13 = .ok (.aload_n 0, 1) := by decide +kernel
theorem dX9_init_14 : decode cX9_init 14 = .ok (.sipush 2568, 3) := by decide +kernel
theorem dX9_init_17 : decode cX9_init 17 = .ok (.newarray .int, 2) := by decide +kernel
theorem dX9_init_19 : decode cX9_init 19 = .ok (.putfield 13, 3) := by decide +kernel
theorem dX9_init_22 : decode cX9_init 22 = .ok (.aload_n 0, 1) := by decide +kernel
theorem dX9_init_23 : decode cX9_init 23 = .ok (.sipush 200, 3) := by decide +kernel
theorem dX9_init_26 : decode cX9_init 26 = .ok (.newarray .int, 2) := by decide +kernel
theorem dX9_init_28 : decode cX9_init 28 = .ok (.putfield 16, 3) := by decide +kernel
theorem dX9_init_31 : decode cX9_init 31 = .ok (.aload_n 0, 1) := by decide +kernel
theorem dX9_init_32 : decode cX9_init 32 = .ok (.bipush 40, 2) := by decide +kernel
theorem dX9_init_34 : decode cX9_init 34 = .ok (.newarray .int, 2) := by decide +kernel
theorem dX9_init_36 : decode cX9_init 36 = .ok (.putfield 19, 3) := by decide +kernel
theorem dX9_init_39 : decode cX9_init 39 = .ok (.aload_n 0, 1) := by decide +kernel
theorem dX9_init_40 : decode cX9_init 40 = .ok (.bipush 40, 2) := by decide +kernel
theorem dX9_init_42 : decode cX9_init 42 = .ok (.newarray .int, 2) := by decide +kernel
theorem dX9_init_44 : decode cX9_init 44 = .ok (.putfield 22, 3) := by decide +kernel
theorem dX9_init_47 : decode cX9_init 47 = .ok (.aload_n 0, 1) := by decide +kernel
theorem dX9_init_48 : decode cX9_init 48 = .ok (.bipush 40, 2) := by decide +kernel
theorem dX9_init_50 : decode cX9_init 50 = .ok (.newarray .int, 2) := by decide +kernel
theorem dX9_init_52 : decode cX9_init 52 = .ok (.putfield 25, 3) := by decide +kernel
theorem dX9_init_55 : decode cX9_init 55 = .ok (.aload_n 0, 1) := by decide +kernel
theorem dX9_init_56 : decode cX9_init 56 = .ok (.bipush 40, 2) := by decide +kernel
theorem dX9_init_58 : decode cX9_init 58 = .ok (.newarray .int, 2) := by decide +kernel
theorem dX9_init_60 : decode cX9_init 60 = .ok (.putfield 28, 3) := by decide +kernel
theorem dX9_init_63 : decode cX9_init 63 = .ok (.aload_n 0, 1) := by decide +kernel
theorem dX9_init_64 : decode cX9_init 64 = .ok (.bipush 40, 2) := by decide +kernel
theorem dX9_init_66 : decode cX9_init 66 = .ok (.newarray .int, 2) := by decide +kernel
theorem dX9_init_68 : decode cX9_init 68 = .ok (.putfield 31, 3) := by decide +kernel
theorem dX9_init_71 : decode cX9_init 71 = .ok (.aload_n 0, 1) := by decide +kernel
theorem dX9_init_72 : decode cX9_init 72 = .ok (.bipush 40, 2) := by decide +kernel
theorem dX9_init_74 : decode cX9_init 74 = .ok (.newarray .int, 2) := by decide +kernel
theorem dX9_init_76 : decode cX9_init 76 = .ok (.putfield 34, 3) := by decide +kernel
theorem dX9_init_79 : decode cX9_init 79 = .ok (.aload_n 0, 1) := by decide +kernel
theorem dX9_init_80 : decode cX9_init 80 = .ok (.bipush 40, 2) := by decide +kernel
theorem dX9_init_82 : decode cX9_init 82 = .ok (.newarray .int, 2) := by decide +kernel
theorem dX9_init_84 : decode cX9_init 84 = .ok (.putfield 37, 3) := by decide +kernel
theorem dX9_init_87 : decode cX9_init 87 = .ok (.aload_n 0, 1) := by decide +kernel
theorem dX9_init_88 : decode cX9_init 88 = .ok (.getfield 7, 3) := by decide +kernel
theorem dX9_init_91 : decode cX9_init 91 = .ok (.iconst 4, 1) := by decide +kernel
theorem dX9_init_92 : decode cX9_init 92 = .ok (.bipush 10, 2) := by decide +kernel
theorem dX9_init_94 : decode cX9_init 94 = .ok (.iastore, 1) := by decide +kernel
theorem dX9_init_95 : decode cX9_init 95 = .ok (.aload_n 0, 1) := by decide +kernel
theorem dX9_init_96 : decode cX9_init 96 = .ok (.getfield 7, 3) := by decide +kernel
theorem dX9_init_99 : decode cX9_init 99 = .ok (.iconst 5, 1) := by decide +kernel
theorem dX9_init_100 : decode cX9_init 100 = .ok (.iconst 3, 1) := by decide +kernel
theorem dX9_init_101 : decode cX9_init 101 = .ok (.iastore, 1) := by decide +kernel
theorem dX9_init_102 : decode cX9_init 102 = .ok (.aload_n 0, 1) := by decide +kernel
theorem dX9_init_103 : decode cX9_init 103 = .ok (.getfield 7, 3) := by decide +kernel
theorem dX9_init_106 : decode cX9_init 106 = .ok (.bipush 6, 2) := by decide +kernel
theorem dX9_init_108 : decode cX9_init 108 = .ok (.iconst 3, 1) := by decide +kernel
theorem dX9_init_109 : decode cX9_init 109 = .ok (.iastore, 1) := by decide +kernel
theorem dX9_init_110 : decode cX9_init 110 = .ok (.aload_n 0, 1) := by decide +kernel
theorem dX9_init_111 : decode cX9_init 111 = .ok (.getfield 7, 3) := by decide +kernel
theorem dX9_init_114 : decode cX9_init 114 = .ok (.bipush 7, 2) := by decide +kernel
theorem dX9_init_116 : decode cX9_init 116 = .ok (.bipush 80, 2) := by decide +kernel
theorem dX9_init_118 : decode cX9_init 118 = .ok (.iastore, 1) := by decide +kernel
theorem dX9_init_119 : decode cX9_init 119 = .ok (.iconst 0, 1) := by decide +kernel
theorem dX9_init_120 : decode cX9_init 120 = .ok (.istore_n 1, 1) := by decide +kernel
theorem dX9_init_121 : decode cX9_init 121 = .ok (.iload_n 1, 1) := by decide +kernel
theorem dX9_init_122 : decode cX9_init 122 = .ok (.bipush 26, 2) := by decide +kernel
theorem dX9_init_124 : decode cX9_init 124 = .ok (.if_icmp .ge 107, 3) := by decide +kernel
theorem dX9_init_127 : decode cX9_init 127 = .ok (.iload_n 1, 1) := by decide +kernel
theorem dX9_init_128 : decode cX9_init 128 = .ok (.bipush 97, 2) := by decide +kernel
theorem dX9_init_130 : decode cX9_init 130 = .ok (.iadd, 1) := by decide +kernel
theorem dX9_init_131 : decode cX9_init 131 = .ok (.istore_n 2, 1) := by decide +kernel
theorem dX9_init_132 : decode cX9_init 132 = .ok (.iload_n 2, 1) := by decide +kernel
theorem dX9_init_133 : decode cX9_init 133 = .ok (.bipush 105, 2) := by decide +kernel
theorem dX9_init_135 : decode cX9_init 135 = .ok (.if_icmp .eq 15, 3) := by decide +kernel
theorem dX9_init_138 : decode cX9_init 138 = .ok (.iload_n 2, 1) := by decide +kernel
theorem dX9_init_139 : decode cX9_init 139 = .ok (.bipush 106, 2) := by decide +kernel
theorem dX9_init_141 : decode cX9_init 141 = .ok (.if_icmp .eq 9, 3) := by decide +kernel
theorem dX9_init_144 : decode cX9_init 144 = .ok (.iload_n 2, 1) := by decide +kernel
theorem dX9_init_145 : decode cX9_init 145 = .ok (.bipush 108, 2) := by decide +kernel
theorem dX9_init_147 : decode cX9_init 147 = .ok (.if_icmp .ne 7, 3) := by decide +kernel
theorem dX9_init_150 : decode cX9_init 150 = .ok (.iconst 1, 1) := by decide +kernel
theorem dX9_init_151 : decode cX9_init 151 = .ok (.goto 4, 3) := by decide +kernel
theorem dX9_init_154 : decode cX9_init 154 = .ok (.iconst 0, 1) := by decide +kernel
theorem dX9_init_155 : decode cX9_init 155 = .ok (.istore_n 3, 1) := by decide +kernel
theorem dX9_init_156 : decode cX9_init 156 = .ok (.iload_n 2, 1) := by decide +kernel
theorem dX9_init_157 : decode cX9_init 157 = .ok (.bipush 102, 2) := by decide +kernel
theorem dX9_init_159 : decode cX9_init 159 = .ok (.if_icmp .eq 15, 3) := by decide +kernel
theorem dX9_init_162 : decode cX9_init 162 = .ok (.iload_n 2, 1) := by decide +kernel
theorem dX9_init_163 : decode cX9_init 163 = .ok (.bipush 114, 2) := by decide +kernel
theorem dX9_init_165 : decode cX9_init 165 = .ok (.if_icmp .eq 9, 3) := by decide +kernel
theorem dX9_init_168 : decode cX9_init 168 = .ok (.iload_n 2, 1) := by decide +kernel
theorem dX9_init_169 : decode cX9_init 169 = .ok (.bipush 116, 2) := by decide +kernel
theorem dX9_init_171 : decode cX9_init 171 = .ok (.if_icmp .ne 7, 3) := by decide +kernel
theorem dX9_init_174 : decode cX9_init 174 = .ok (.iconst 1, 1) := by decide +kernel
theorem dX9_init_175 : decode cX9_init 175 = .ok (.goto 4, 3) := by decide +kernel
theorem dX9_init_178 : decode cX9_init 178 = .ok (.iconst 0, 1) := by decide +kernel
theorem dX9_init_179 : decode cX9_init 179 = .ok (.istore 4, 2) := by decide +kernel
theorem dX9_init_181 : decode cX9_init 181 = .ok (.aload_n 0, 1) := by decide +kernel
theorem dX9_init_182 : decode cX9_init 182 = .ok (.getfield 7, 3) := by decide +kernel
theorem dX9_init_185 : decode cX9_init 185 = .ok (.bipush 8, 2) := by decide +kernel
theorem dX9_init_187 : decode cX9_init 187 = .ok (.iload_n 1, 1) := by decide +kernel
theorem dX9_init_188 : decode cX9_init 188 = .ok (.iadd, 1) := by decide +kernel
theorem dX9_init_189 : decode cX9_init 189 = .ok (.iload_n 3, 1) := by decide +kernel
theorem dX9_init_190 : decode cX9_init 190 = .ok (.ifCond .eq 7, 3) := by decide +kernel
theorem dX9_init_193 : decode cX9_init 193 = .ok (.iconst 2, 1) := by decide +kernel
theorem dX9_init_194 : decode cX9_init 194 = .ok (.goto 30, 3) := by decide +kernel
theorem dX9_init_197 : decode cX9_init 197 = .ok (.iload 4, 2) := by decide +kernel
theorem dX9_init_199 : decode cX9_init 199 = .ok (.ifCond .eq 7, 3) := by decide +kernel
theorem dX9_init_202 : decode cX9_init 202 = .ok (.iconst 3, 1) := by decide +kernel
theorem dX9_init_203 : decode cX9_init 203 = .ok (.goto 21, 3) := by decide +kernel
theorem dX9_init_206 : decode cX9_init 206 = .ok (.iload_n 2, 1) := by decide +kernel
theorem dX9_init_207 : decode cX9_init 207 = .ok (.bipush 109, 2) := by decide +kernel
theorem dX9_init_209 : decode cX9_init 209 = .ok (.if_icmp .eq 9, 3) := by decide +kernel
theorem dX9_init_212 : decode cX9_init 212 = .ok (.iload_n 2, 1) := by decide +kernel
theorem dX9_init_213 : decode cX9_init 213 = .ok (.bipush 119, 2) := by decide +kernel
theorem dX9_init_215 : decode cX9_init 215 = .ok (.if_icmp .ne 8, 3) := by decide +kernel
theorem dX9_init_218 : decode cX9_init 218 = .ok (.bipush 6, 2) := by decide +kernel
theorem dX9_init_220 : decode cX9_init 220 = .ok (.goto 4, 3) := by decide +kernel
theorem dX9_init_223 : decode cX9_init 223 = .ok (.iconst 4, 1) := by decide +kernel
theorem dX9_init_224 : decode cX9_init 224 = .ok (.iastore, 1) := by decide +kernel
theorem dX9_init_225 : decode cX9_init 225 = .ok (.iinc 1 1, 3) := by decide +kernel
theorem dX9_init_228 : decode cX9_init 228 = .ok (.goto (-107), 3) := by decide +kernel
theorem dX9_init_231 : decode cX9_init 231 = .ok (.return_, 1) := by decide +kernel
theorem dX9_in_0 : decode cX9_in 0 = .ok (.iload_n 0, 1) := by decide +kernel
theorem dX9_in_1 : decode cX9_in 1 = .ok (.iload_n 1, 1) := by decide +kernel
theorem dX9_in_2 : decode cX9_in 2 = .ok (.if_icmp .lt 12, 3) := by decide +kernel
theorem dX9_in_5 : decode cX9_in 5 = .ok (.iload_n 0, 1) := by decide +kernel
theorem dX9_in_6 : decode cX9_in 6 = .ok (.iload_n 2, 1) := by decide +kernel
theorem dX9_in_7 : decode cX9_in 7 = .ok (.if_icmp .gt 7, 3) := by decide +kernel
theorem dX9_in_10 : decode cX9_in 10 = .ok (.iconst 1, 1) := by decide +kernel
theorem dX9_in_11 : decode cX9_in 11 = .ok (.goto 4, 3) := by decide +kernel
theorem dX9_in_14 : decode cX9_in 14 = .ok (.iconst 0, 1) := by decide +kernel
theorem dX9_in_15 : decode cX9_in 15 = .ok (.ireturn, 1) := by decide +kernel
theorem dX9_records_0 : decode cX9_records 0 = .ok (.aload_n 0, 1) := by decide +kernel
theorem dX9_records_1 : decode cX9_records 1 = .ok (.getfield 40, 3) := by decide +kernel
theorem dX9_records_4 : decode cX9_records 4 = .ok (.iconst 4, 1) := by decide +kernel
theorem dX9_records_5 : decode cX9_records 5 = .ok (.if_icmp .ne 44, 3) := by decide +kernel
theorem dX9_records_8 : decode cX9_records 8 = .ok (.iconst 0, 1) := by decide +kernel
theorem dX9_records_9 : decode cX9_records 9 = .ok (.istore_n 1, 1) := by decide +kernel
theorem dX9_records_10 : decode cX9_records 10 = .ok (.iload_n 1, 1) := by decide +kernel
theorem dX9_records_11 : decode cX9_records 11 = .ok (.sipush 1926, 3) := by decide +kernel
theorem dX9_records_14 : decode cX9_records 14 = .ok (.if_icmp .ge 25, 3) := by decide +kernel
theorem dX9_records_17 : decode cX9_records 17 = .ok (.aload_n 0, 1) := by decide +kernel
theorem dX9_records_18 : decode cX9_records 18 = .ok (.getfield 13, 3) := by decide +kernel
theorem dX9_records_21 : decode cX9_records 21 = .ok (.iload_n 1, 1) := by decide +kernel
theorem dX9_records_22 : decode cX9_records 22 = .ok (.aload_n 0, 1) := by decide +kernel
theorem dX9_records_23 : decode cX9_records 23 = .ok (.getfield 13, 3) := by decide +kernel
theorem dX9_records_26 : decode cX9_records 26 = .ok (.iload_n 1, 1) := by decide +kernel
theorem dX9_records_27 : decode cX9_records 27 = .ok (.sipush 642, 3) := by decide +kernel
theorem dX9_records_30 : decode cX9_records 30 = .ok (.iadd, 1) := by decide +kernel
theorem dX9_records_31 : decode cX9_records 31 = .ok (.iaload, 1) := by decide +kernel
theorem dX9_records_32 : decode cX9_records 32 = .ok (.iastore, 1) := by decide +kernel
theorem dX9_records_33 : decode cX9_records 33 = .ok (.iinc 1 1, 3) := by decide +kernel
theorem dX9_records_36 : decode cX9_records 36 = .ok (.goto (-26), 3) := by decide +kernel
theorem dX9_records_39 : decode cX9_records 39 = .ok (.aload_n 0, 1) := by decide +kernel
theorem dX9_records_40 : decode cX9_records 40 = .ok (.dup, 1) := by decide +kernel
theorem dX9_records_41 : decode cX9_records 41 = .ok (.getfield 40, 3) := by decide +kernel
theorem dX9_records_44 : decode cX9_records 44 = .ok (.iconst 1, 1) := by decide +kernel
theorem dX9_records_45 : decode cX9_records 45 = .ok (.isub, 1) := by decide +kernel
theorem dX9_records_46 : decode cX9_records 46 = .ok (.putfield 40, 3) := by decide +kernel
theorem dX9_records_49 : decode cX9_records 49 = .ok (.iconst 0, 1) := by decide +kernel
theorem dX9_records_50 : decode cX9_records 50 = .ok (.istore_n 1, 1) := by decide +kernel
theorem dX9_records_51 : decode cX9_records 51 = .ok (.iload_n 1, 1) := by decide +kernel
theorem dX9_records_52 : decode cX9_records 52 = .ok (.sipush 642, 3) := by decide +kernel
theorem dX9_records_55 : decode cX9_records 55 = .ok (.if_icmp .ge 30, 3) := by decide +kernel
theorem dX9_records_58 : decode cX9_records 58 = .ok (.aload_n 0, 1) := by decide +kernel
theorem dX9_records_59 : decode cX9_records 59 = .ok (.getfield 13, 3) := by decide +kernel
theorem dX9_records_62 : decode cX9_records 62 = .ok (.sipush 642, 3) := by decide +kernel
theorem dX9_records_65 : decode cX9_records 65 = .ok (.aload_n 0, 1) := by decide +kernel
theorem dX9_records_66 : decode cX9_records 66 = .ok (.getfield 40, 3) := by decide +kernel
theorem dX9_records_69 : decode cX9_records 69 = .ok (.imul, 1) := by decide +kernel
theorem dX9_records_70 : decode cX9_records 70 = .ok (.iload_n 1, 1) := by decide +kernel
theorem dX9_records_71 : decode cX9_records 71 = .ok (.iadd, 1) := by decide +kernel
theorem dX9_records_72 : decode cX9_records 72 = .ok (.aload_n 0, 1) := by decide +kernel
theorem dX9_records_73 : decode cX9_records 73 = .ok (.getfield 7, 3) := by decide +kernel
theorem dX9_records_76 : decode cX9_records 76 = .ok (.iload_n 1, 1) := by decide +kernel
theorem dX9_records_77 : decode cX9_records 77 = .ok (.iaload, 1) := by decide +kernel
theorem dX9_records_78 : decode cX9_records 78 = .ok (.iastore, 1) := by decide +kernel
theorem dX9_records_79 : decode cX9_records 79 = .ok (.iinc 1 1, 3) := by decide +kernel
theorem dX9_records_82 : decode cX9_records 82 = .ok (.goto (-31), 3) := by decide +kernel
theorem dX9_records_85 : decode cX9_records 85 = .ok (.aload_n 0, 1) := by decide +kernel
theorem dX9_records_86 : decode cX9_records 86 = .ok (.dup, 1) := by decide +kernel
theorem dX9_records_87 : decode cX9_records 87 = .ok (.getfield 40, 3) := by decide +kernel
theorem dX9_records_90 : decode cX9_records 90 = .ok (.iconst 1, 1) := by decide +kernel
theorem dX9_records_91 : decode cX9_records 91 = .ok (.iadd, 1) := by decide +kernel
theorem dX9_records_92 : decode cX9_records 92 = .ok (.putfield 40, 3) := by decide +kernel
theorem dX9_records_95 : decode cX9_records 95 = .ok (.return_, 1) := by decide +kernel
set_option maxRecDepth 20000 in
theorem ggX9_isLetter_X9_in : GoodIn wsX9_isLetter wsX9_in := goodIn_r _ [4] (by decide +kernel) (by decide +kernel)
set_option maxRecDepth 20000 in
theorem gX9_isLetter_X9_in : GoodIn wsX9_isLetter (va_wsS RX9 44 yX9_in wsX9_in) := goodIn_app (goodIn_of _ (by decide +kernel)) ggX9_isLetter_X9_in
theorem dX9_isLetter_0 : decode cX9_isLetter 0 = .ok (.iload_n 0, 1) := by decide +kernel
theorem dX9_isLetter_1 : decode cX9_isLetter 1 = .ok (.bipush 97, 2) := by decide +kernel
theorem dX9_isLetter_3 : decode cX9_isLetter 3 = .ok (.bipush 122, 2) := by decide +kernel
theorem dX9_isLetter_5 : decode cX9_isLetter 5 = .ok (.invokestatic 44, 3) := by decide +kernel
theorem dX9_isLetter_8 : decode cX9_isLetter 8 = .ok (.ireturn, 1) := by decide +kernel
set_option maxRecDepth 20000 in
theorem ggX9_type_X9_in : GoodIn wsX9_type wsX9_in := goodIn_r _ [6] (by decide +kernel) (by decide +kernel)
set_option maxRecDepth 20000 in
theorem gX9_type_X9_in : GoodIn wsX9_type (va_wsS RX9 44 yX9_in wsX9_in) := goodIn_app (goodIn_of _ (by decide +kernel)) ggX9_type_X9_in
theorem dX9_type_0 : decode cX9_type 0 = .ok (.iload_n 1, 1) := by decide +kernel
theorem dX9_type_1 : decode cX9_type 1 = .ok (.bipush 32, 2) := by decide +kernel
theorem dX9_type_3 : decode cX9_type 3 = .ok (.bipush 126, 2) := by decide +kernel
theorem dX9_type_5 : decode cX9_type 5 = .ok (.invokestatic 44, 3) := by decide +kernel
theorem dX9_type_8 : decode cX9_type 8 = .ok (.ifCond .ne 6, 3) := by decide +kernel
theorem dX9_type_11 : decode cX9_type 11 = .ok (.bipush (-11), 2) := by decide +kernel
theorem dX9_type_13 : decode cX9_type 13 = .ok (.ireturn, 1) := by decide +kernel
theorem dX9_type_14 : decode cX9_type 14 = .ok (.aload_n 0, 1) := by decide +kernel
theorem dX9_type_15 : decode cX9_type 15 = .ok (.getfield 48, 3) := by decide +kernel
theorem dX9_type_18 : decode cX9_type 18 = .ok (.sipush 200, 3) := by decide +kernel
theorem dX9_type_21 : decode cX9_type 21 = .ok (.if_icmp .ne 6, 3) := by decide +kernel
theorem dX9_type_24 : decode cX9_type 24 = .ok (.bipush (-13), 2) := by decide +kernel
theorem dX9_type_26 : decode cX9_type 26 = .ok (.ireturn, 1) := by decide +kernel
theorem dX9_type_27 : decode cX9_type 27 = .ok (.aload_n 0, 1) := by decide +kernel
theorem dX9_type_28 : decode cX9_type 28 = .ok (.getfield 16, 3) := by decide +kernel
theorem dX9_type_31 : decode cX9_type 31 = .ok (.aload_n 0, 1) := by decide +kernel
theorem dX9_type_32 : decode cX9_type 32 = .ok (.getfield 48, 3) := by decide +kernel
theorem dX9_type_35 : decode cX9_type 35 = .ok (.iload_n 1, 1) := by decide +kernel
theorem dX9_type_36 : decode cX9_type 36 = .ok (.iastore, 1) := by decide +kernel
theorem dX9_type_37 : decode cX9_type 37 = .ok (.aload_n 0, 1) := by decide +kernel
theorem dX9_type_38 : decode cX9_type 38 = .ok (.dup, 1) := by decide +kernel
theorem dX9_type_39 : decode cX9_type 39 = .ok (.getfield 48, 3) := by decide +kernel
theorem dX9_type_42 : decode cX9_type 42 = .ok (.iconst 1, 1) := by decide +kernel
theorem dX9_type_43 : decode cX9_type 43 = .ok (.iadd, 1) := by decide +kernel
theorem dX9_type_44 : decode cX9_type 44 = .ok (.putfield 48, 3) := by decide +kernel
theorem dX9_type_47 : decode cX9_type 47 = .ok (.aload_n 0, 1) := by decide +kernel
theorem dX9_type_48 : decode cX9_type 48 = .ok (.getfield 48, 3) := by decide +kernel
theorem dX9_type_51 : decode cX9_type 51 = .ok (.ireturn, 1) := by decide +kernel
theorem dX9_clearText_0 : decode cX9_clearText 0 = .ok (.aload_n 0, 1) := by decide +kernel
theorem dX9_clearText_1 : decode cX9_clearText 1 = .ok (.getfield 48, 3) := by decide +kernel
theorem dX9_clearText_4 : decode cX9_clearText 4 = .ok (.istore_n 1, 1) := by decide +kernel
theorem dX9_clearText_5 : decode cX9_clearText 5 = .ok (.aload_n 0, 1) := by decide +kernel
theorem dX9_clearText_6 : decode cX9_clearText 6 = .ok (.iconst 0, 1) := by decide +kernel
theorem dX9_clearText_7 : decode cX9_clearText 7 = .ok (.putfield 48, 3) := by decide +kernel
theorem dX9_clearText_10 : decode cX9_clearText 10 = .ok (.iload_n 1, 1) := by decide +kernel
theorem dX9_clearText_11 : decode cX9_clearText 11 = .ok (.ireturn, 1) := by decide +kernel
set_option maxRecDepth 20000 in
theorem ggX9_reasonAt_X9_isLetter : GoodIn wsX9_reasonAt wsX9_isLetter := goodIn_r _ [6, 7, 8, 5, 9] (by decide +kernel) (by decide +kernel)
set_option maxRecDepth 20000 in
theorem gX9_reasonAt_X9_isLetter : GoodIn wsX9_reasonAt (va_wsS RX9 51 yX9_isLetter wsX9_isLetter) := goodIn_app (goodIn_of _ (by decide +kernel)) ggX9_reasonAt_X9_isLetter
theorem dX9_reasonAt_0 : decode cX9_reasonAt 0 = .ok (.aload_n 0, 1) := by decide +kernel
theorem dX9_reasonAt_1 : decode cX9_reasonAt 1 = .ok (.getfield 16, 3) := by decide +kernel
theorem dX9_reasonAt_4 : decode cX9_reasonAt 4 = .ok (.iload_n 1, 1) := by decide +kernel
theorem dX9_reasonAt_5 : decode cX9_reasonAt 5 = .ok (.iaload, 1) := by decide +kernel
theorem dX9_reasonAt_6 : decode cX9_reasonAt 6 = .ok (.bipush 32, 2) := by decide +kernel
theorem dX9_reasonAt_8 : decode cX9_reasonAt 8 = .ok (.if_icmp .ne 36, 3) := by decide +kernel
theorem dX9_reasonAt_11 : decode cX9_reasonAt 11 = .ok (.iload_n 1, 1) := by decide +kernel
theorem dX9_reasonAt_12 : decode cX9_reasonAt 12 = .ok (.ifCond .eq 26, 3) := by decide +kernel
theorem dX9_reasonAt_15 : decode cX9_reasonAt 15 = .ok (.aload_n 0, 1) := by decide +kernel
theorem dX9_reasonAt_16 : decode cX9_reasonAt 16 = .ok (.getfield 16, 3) := by decide +kernel
theorem dX9_reasonAt_19 : decode cX9_reasonAt 19 = .ok (.iload_n 1, 1) := by decide +kernel
theorem dX9_reasonAt_20 : decode cX9_reasonAt 20 = .ok (.iconst 1, 1) := by decide +kernel
theorem dX9_reasonAt_21 : decode cX9_reasonAt 21 = .ok (.isub, 1) := by decide +kernel
theorem dX9_reasonAt_22 : decode cX9_reasonAt 22 = .ok (.iaload, 1) := by decide +kernel
theorem dX9_reasonAt_23 : decode cX9_reasonAt 23 = .ok (.bipush 32, 2) := by decide +kernel
theorem dX9_reasonAt_25 : decode cX9_reasonAt 25 = .ok (.if_icmp .eq 13, 3) := by decide +kernel
theorem dX9_reasonAt_28 : decode cX9_reasonAt 28 = .ok (.iload_n 1, 1) := by decide +kernel
theorem dX9_reasonAt_29 : decode cX9_reasonAt 29 = .ok (.aload_n 0, 1) := by decide +kernel
theorem dX9_reasonAt_30 : decode cX9_reasonAt 30 = .ok (.getfield 48, 3) := by decide +kernel
theorem dX9_reasonAt_33 : decode cX9_reasonAt 33 = .ok (.iconst 1, 1) := by decide +kernel
theorem dX9_reasonAt_34 : decode cX9_reasonAt 34 = .ok (.isub, 1) := by decide +kernel
theorem dX9_reasonAt_35 : decode cX9_reasonAt 35 = .ok (.if_icmp .ne 7, 3) := by decide +kernel
theorem dX9_reasonAt_38 : decode cX9_reasonAt 38 = .ok (.iconst 2, 1) := by decide +kernel
theorem dX9_reasonAt_39 : decode cX9_reasonAt 39 = .ok (.goto 4, 3) := by decide +kernel
theorem dX9_reasonAt_42 : decode cX9_reasonAt 42 = .ok (.iconst 0, 1) := by decide +kernel
theorem dX9_reasonAt_43 : decode cX9_reasonAt 43 = .ok (.ireturn, 1) := by decide +kernel
theorem dX9_reasonAt_44 : decode cX9_reasonAt 44 = .ok (.aload_n 0, 1) := by decide +kernel
theorem dX9_reasonAt_45 : decode cX9_reasonAt 45 = .ok (.getfield 16, 3) := by decide +kernel
theorem dX9_reasonAt_48 : decode cX9_reasonAt 48 = .ok (.iload_n 1, 1) := by decide +kernel
theorem dX9_reasonAt_49 : decode cX9_reasonAt 49 = .ok (.iaload, 1) := by decide +kernel
theorem dX9_reasonAt_50 : decode cX9_reasonAt 50 = .ok (.invokestatic 51, 3) := by decide +kernel
theorem dX9_reasonAt_53 : decode cX9_reasonAt 53 = .ok (.ifCond .ne 5, 3) := by decide +kernel
theorem dX9_reasonAt_56 : decode cX9_reasonAt 56 = .ok (.iconst 1, 1) := by decide +kernel
theorem dX9_reasonAt_57 : decode cX9_reasonAt 57 = .ok (.ireturn, 1) := by decide +kernel
theorem dX9_reasonAt_58 : decode cX9_reasonAt 58 = .ok (.iload_n 2, 1) := by decide +kernel
theorem dX9_reasonAt_59 : decode cX9_reasonAt 59 = .ok (.bipush 12, 2) := by decide +kernel
theorem dX9_reasonAt_61 : decode cX9_reasonAt 61 = .ok (.if_icmp .ne 7, 3) := by decide +kernel
theorem dX9_reasonAt_64 : decode cX9_reasonAt 64 = .ok (.iconst 3, 1) := by decide +kernel
theorem dX9_reasonAt_65 : decode cX9_reasonAt 65 = .ok (.goto 18, 3) := by decide +kernel
theorem dX9_reasonAt_68 : decode cX9_reasonAt 68 = .ok (.iload_n 2, 1) := by decide +kernel
theorem dX9_reasonAt_69 : decode cX9_reasonAt 69 = .ok (.ifCond .ne 13, 3) := by decide +kernel
theorem dX9_reasonAt_72 : decode cX9_reasonAt 72 = .ok (.iload_n 3, 1) := by decide +kernel
theorem dX9_reasonAt_73 : decode cX9_reasonAt 73 = .ok (.bipush 40, 2) := by decide +kernel
theorem dX9_reasonAt_75 : decode cX9_reasonAt 75 = .ok (.if_icmp .ne 7, 3) := by decide +kernel
theorem dX9_reasonAt_78 : decode cX9_reasonAt 78 = .ok (.iconst 4, 1) := by decide +kernel
theorem dX9_reasonAt_79 : decode cX9_reasonAt 79 = .ok (.goto 4, 3) := by decide +kernel
theorem dX9_reasonAt_82 : decode cX9_reasonAt 82 = .ok (.iconst 0, 1) := by decide +kernel
theorem dX9_reasonAt_83 : decode cX9_reasonAt 83 = .ok (.ireturn, 1) := by decide +kernel
set_option maxRecDepth 20000 in
theorem ggX9_faultAt_X9_reasonAt : GoodIn wsX9_faultAt wsX9_reasonAt := goodIn_r _ [8, 3, 1, 9, 10, 7, 11, 12, 13, 14, 15, 16, 17, 18, 19, 20, 21, 22, 23, 24, 25, 26, 27, 28, 29] (by decide +kernel) (by decide +kernel)
set_option maxRecDepth 20000 in
theorem gX9_faultAt_X9_reasonAt : GoodIn wsX9_faultAt (wsV RX9 55 RX9 yX9_reasonAt wsX9_reasonAt) := goodIn_app (goodIn_of _ (by decide +kernel)) ggX9_faultAt_X9_reasonAt
theorem dX9_faultAt_0 : decode cX9_faultAt 0 = .ok (.iconst 0, 1) := by decide +kernel
theorem dX9_faultAt_1 : decode cX9_faultAt 1 = .ok (.istore_n 1, 1) := by decide +kernel
theorem dX9_faultAt_2 : decode cX9_faultAt 2 = .ok (.iconst 0, 1) := by decide +kernel
theorem dX9_faultAt_3 : decode cX9_faultAt 3 = .ok (.istore_n 2, 1) := by decide +kernel
theorem dX9_faultAt_4 : decode cX9_faultAt 4 = .ok (.iconst 0, 1) := by decide +kernel
theorem dX9_faultAt_5 : decode cX9_faultAt 5 = .ok (.istore_n 3, 1) := by decide +kernel
theorem dX9_faultAt_6 : decode cX9_faultAt 6 = .ok (.iload_n 3, 1) := by decide +kernel
theorem dX9_faultAt_7 : decode cX9_faultAt 7 = .ok (.aload_n 0, 1) := by decide +kernel
theorem dX9_faultAt_8 : decode cX9_faultAt 8 = .ok (.getfield 48, 3) := by decide +kernel
theorem dX9_faultAt_11 : decode cX9_faultAt 11 = .ok (.if_icmp .ge 71, 3) := by decide +kernel
theorem dX9_faultAt_14 : decode cX9_faultAt 14 = .ok (.aload_n 0, 1) := by decide +kernel
theorem dX9_faultAt_15 : decode cX9_faultAt 15 = .ok (.aload_n 0, 1) := by decide +kernel
theorem dX9_faultAt_16 : decode cX9_faultAt 16 = .ok (.iload_n 3, 1) := by decide +kernel
theorem dX9_faultAt_17 : decode cX9_faultAt 17 = .ok (.iload_n 1, 1) := by decide +kernel
theorem dX9_faultAt_18 : decode cX9_faultAt 18 = .ok (.iload_n 2, 1) := by decide +kernel
theorem dX9_faultAt_19 : decode cX9_faultAt 19 = .ok (.invokevirtual 55, 3) := by decide +kernel
theorem dX9_faultAt_22 : decode cX9_faultAt 22 = .ok (.putfield 59, 3) := by decide +kernel
theorem dX9_faultAt_25 : decode cX9_faultAt 25 = .ok (.aload_n 0, 1) := by decide +kernel
theorem dX9_faultAt_26 : decode cX9_faultAt 26 = .ok (.getfield 59, 3) := by decide +kernel
theorem dX9_faultAt_29 : decode cX9_faultAt 29 = .ok (.ifCond .le 5, 3) := by decide +kernel
theorem dX9_faultAt_32 : decode cX9_faultAt 32 = .ok (.iload_n 3, 1) := by decide +kernel
theorem dX9_faultAt_33 : decode cX9_faultAt 33 = .ok (.ireturn, 1) := by decide +kernel
theorem dX9_faultAt_34 : decode cX9_faultAt 34 = .ok (.iload_n 2, 1) := by decide +kernel
theorem dX9_faultAt_35 : decode cX9_faultAt 35 = .ok (.aload_n 0, 1) := by decide +kernel
theorem dX9_faultAt_36 : decode cX9_faultAt 36 = .ok (.getfield 16, 3) := by decide +kernel
theorem dX9_faultAt_39 : decode cX9_faultAt 39 = .ok (.iload_n 3, 1) := by decide +kernel
theorem dX9_faultAt_40 : decode cX9_faultAt 40 = .ok (.iaload, 1) := by decide +kernel
theorem dX9_faultAt_41 : decode cX9_faultAt 41 = .ok (.bipush 32, 2) := by decide +kernel
theorem dX9_faultAt_43 : decode cX9_faultAt 43 = .ok (.if_icmp .eq 11, 3) := by decide +kernel
theorem dX9_faultAt_46 : decode cX9_faultAt 46 = .ok (.iload_n 1, 1) := by decide +kernel
theorem dX9_faultAt_47 : decode cX9_faultAt 47 = .ok (.ifCond .ne 7, 3) := by decide +kernel
theorem dX9_faultAt_50 : decode cX9_faultAt 50 = .ok (.iconst 1, 1) := by decide +kernel
theorem dX9_faultAt_51 : decode cX9_faultAt 51 = .ok (.goto 4, 3) := by decide +kernel
theorem dX9_faultAt_54 : decode cX9_faultAt 54 = .ok (.iconst 0, 1) := by decide +kernel
theorem dX9_faultAt_55 : decode cX9_faultAt 55 = .ok (.iadd, 1) := by decide +kernel
theorem dX9_faultAt_56 : decode cX9_faultAt 56 = .ok (.istore_n 2, 1) := by decide +kernel
theorem dX9_faultAt_57 : decode cX9_faultAt 57 = .ok (.aload_n 0, 1) := by decide +kernel
theorem dX9_faultAt_58 : decode cX9_faultAt 58 = .ok (.getfield 16, 3) := by decide +kernel
theorem dX9_faultAt_61 : decode cX9_faultAt 61 = .ok (.iload_n 3, 1) := by decide +kernel
theorem dX9_faultAt_62 : decode cX9_faultAt 62 = .ok (.iaload, 1) := by decide +kernel
theorem dX9_faultAt_63 : decode cX9_faultAt 63 = .ok (.bipush 32, 2) := by decide +kernel
theorem dX9_faultAt_65 : decode cX9_faultAt 65 = .ok (.if_icmp .ne 7, 3) := by decide +kernel
theorem dX9_faultAt_68 : decode cX9_faultAt 68 = .ok (.iconst 0, 1) := by decide +kernel
theorem dX9_faultAt_69 : decode cX9_faultAt 69 = .ok (.goto 6, 3) := by decide +kernel
theorem dX9_faultAt_72 : decode cX9_faultAt 72 = .ok (.iload_n 1, 1) := by decide +kernel
theorem dX9_faultAt_73 : decode cX9_faultAt 73 = .ok (.iconst 1, 1) := by decide +kernel
theorem dX9_faultAt_74 : decode cX9_faultAt 74 = .ok (.iadd, 1) := by decide +kernel
theorem dX9_faultAt_75 : decode cX9_faultAt 75 = .ok (.istore_n 1, 1) := by decide +kernel
theorem dX9_faultAt_76 : decode cX9_faultAt 76 = .ok (.iinc 3 1, 3) := by decide +kernel
theorem dX9_faultAt_79 : decode cX9_faultAt 79 = .ok (.goto (-73), 3) := by decide +kernel
theorem dX9_faultAt_82 : decode cX9_faultAt 82 = .ok (.bipush (-14), 2) := by decide +kernel
theorem dX9_faultAt_84 : decode cX9_faultAt 84 = .ok (.ireturn, 1) := by decide +kernel
set_option maxRecDepth 20000 in
theorem ggX9_fault_X9_in : GoodIn wsX9_fault wsX9_in := goodIn_r _ [5] (by decide +kernel) (by decide +kernel)
set_option maxRecDepth 20000 in
theorem gX9_fault_X9_in : GoodIn wsX9_fault (va_wsS RX9 44 yX9_in wsX9_in) := goodIn_app (goodIn_of _ (by decide +kernel)) ggX9_fault_X9_in
set_option maxRecDepth 20000 in
theorem ggX9_fault_X9_faultAt : GoodIn wsX9_fault wsX9_faultAt := goodIn_r _ [9, 10, 1, 11, 12, 13, 14, 4, 15, 16, 17, 18, 2, 3, 5, 19, 20, 21, 22, 23, 24, 25, 26, 27, 28, 29, 30, 31, 32, 33] (by decide +kernel) (by decide +kernel)
set_option maxRecDepth 20000 in
theorem gX9_fault_X9_faultAt : GoodIn wsX9_fault (wsV RX9 62 RX9 yX9_faultAt wsX9_faultAt) := goodIn_app (goodIn_of _ (by decide +kernel)) ggX9_fault_X9_faultAt
theorem dX9_fault_0 : decode cX9_fault 0 = .ok (.iload_n 1, 1) := by decide +kernel
theorem dX9_fault_1 : decode cX9_fault 1 = .ok (.iconst 0, 1) := by decide +kernel
theorem dX9_fault_2 : decode cX9_fault 2 = .ok (.iconst 1, 1) := by decide +kernel
theorem dX9_fault_3 : decode cX9_fault 3 = .ok (.invokestatic 44, 3) := by decide +kernel
theorem dX9_fault_6 : decode cX9_fault 6 = .ok (.ifCond .ne 6, 3) := by decide +kernel
theorem dX9_fault_9 : decode cX9_fault 9 = .ok (.bipush (-11), 2) := by decide +kernel
theorem dX9_fault_11 : decode cX9_fault 11 = .ok (.ireturn, 1) := by decide +kernel
theorem dX9_fault_12 : decode cX9_fault 12 = .ok (.aload_n 0, 1) := by decide +kernel
theorem dX9_fault_13 : decode cX9_fault 13 = .ok (.invokevirtual 62, 3) := by decide +kernel
theorem dX9_fault_16 : decode cX9_fault 16 = .ok (.istore_n 2, 1) := by decide +kernel
theorem dX9_fault_17 : decode cX9_fault 17 = .ok (.iload_n 2, 1) := by decide +kernel
theorem dX9_fault_18 : decode cX9_fault 18 = .ok (.bipush (-14), 2) := by decide +kernel
theorem dX9_fault_20 : decode cX9_fault 20 = .ok (.if_icmp .eq 7, 3) := by decide +kernel
theorem dX9_fault_23 : decode cX9_fault 23 = .ok (.iload_n 1, 1) := by decide +kernel
theorem dX9_fault_24 : decode cX9_fault 24 = .ok (.ifCond .ne 7, 3) := by decide +kernel
theorem dX9_fault_27 : decode cX9_fault 27 = .ok (.iload_n 2, 1) := by decide +kernel
theorem dX9_fault_28 : decode cX9_fault 28 = .ok (.goto 7, 3) := by decide +kernel
theorem dX9_fault_31 : decode cX9_fault 31 = .ok (.aload_n 0, 1) := by decide +kernel
theorem dX9_fault_32 : decode cX9_fault 32 = .ok (.getfield 59, 3) := by decide +kernel
theorem dX9_fault_35 : decode cX9_fault 35 = .ok (.ireturn, 1) := by decide +kernel
set_option maxRecDepth 20000 in
theorem ggX9_page_X9_faultAt : GoodIn wsX9_page wsX9_faultAt := goodIn_r _ [8, 2, 9, 3, 10, 11, 12, 7, 13, 14, 15, 16, 17, 18, 19, 26, 27, 28, 29, 30, 31, 32, 33, 34, 35, 36, 37, 38, 39, 40] (by decide +kernel) (by decide +kernel)
set_option maxRecDepth 20000 in
theorem gX9_page_X9_faultAt : GoodIn wsX9_page (wsV RX9 62 RX9 yX9_faultAt wsX9_faultAt) := goodIn_app (goodIn_of _ (by decide +kernel)) ggX9_page_X9_faultAt
set_option maxRecDepth 20000 in
theorem ggX9_page_X9_records : GoodIn wsX9_page wsX9_records := goodIn_r _ [23, 24, 25, 1, 26, 27, 28, 29, 30, 31, 32, 33, 34, 35, 36, 37, 38, 39, 40] (by decide +kernel) (by decide +kernel)
set_option maxRecDepth 20000 in
theorem gX9_page_X9_records : GoodIn wsX9_page (wsV RX9 66 RX9 yX9_records wsX9_records) := goodIn_app (goodIn_of _ (by decide +kernel)) ggX9_page_X9_records
theorem dX9_page_0 : decode cX9_page 0 = .ok (.aload_n 0, 1) := by decide +kernel
theorem dX9_page_1 : decode cX9_page 1 = .ok (.invokevirtual 62, 3) := by decide +kernel
theorem dX9_page_4 : decode cX9_page 4 = .ok (.bipush (-14), 2) := by decide +kernel
theorem dX9_page_6 : decode cX9_page 6 = .ok (.if_icmp .eq 6, 3) := by decide +kernel
theorem dX9_page_9 : decode cX9_page 9 = .ok (.bipush (-12), 2) := by decide +kernel
theorem dX9_page_11 : decode cX9_page 11 = .ok (.ireturn, 1) := by decide +kernel
theorem dX9_page_12 : decode cX9_page 12 = .ok (.aload_n 0, 1) := by decide +kernel
theorem dX9_page_13 : decode cX9_page 13 = .ok (.invokevirtual 66, 3) := by decide +kernel
theorem dX9_page_16 : decode cX9_page 16 = .ok (.aload_n 0, 1) := by decide +kernel
theorem dX9_page_17 : decode cX9_page 17 = .ok (.getfield 7, 3) := by decide +kernel
theorem dX9_page_20 : decode cX9_page 20 = .ok (.iconst 0, 1) := by decide +kernel
theorem dX9_page_21 : decode cX9_page 21 = .ok (.iconst 0, 1) := by decide +kernel
theorem dX9_page_22 : decode cX9_page 22 = .ok (.iastore, 1) := by decide +kernel
theorem dX9_page_23 : decode cX9_page 23 = .ok (.iconst 0, 1) := by decide +kernel
theorem dX9_page_24 : decode cX9_page 24 = .ok (.istore_n 1, 1) := by decide +kernel
theorem dX9_page_25 : decode cX9_page 25 = .ok (.iconst 0, 1) := by decide +kernel
theorem dX9_page_26 : decode cX9_page 26 = .ok (.istore_n 2, 1) := by decide +kernel
theorem dX9_page_27 : decode cX9_page 27 = .ok (.iload_n 2, 1) := by decide +kernel
theorem dX9_page_28 : decode cX9_page 28 = .ok (.aload_n 0, 1) := by decide +kernel
theorem dX9_page_29 : decode cX9_page 29 = .ok (.getfield 48, 3) := by decide +kernel
theorem dX9_page_32 : decode cX9_page 32 = .ok (.if_icmp .ge 85, 3) := by decide +kernel
theorem dX9_page_35 : decode cX9_page 35 = .ok (.aload_n 0, 1) := by decide +kernel
theorem dX9_page_36 : decode cX9_page 36 = .ok (.getfield 16, 3) := by decide +kernel
theorem dX9_page_39 : decode cX9_page 39 = .ok (.iload_n 2, 1) := by decide +kernel
theorem dX9_page_40 : decode cX9_page 40 = .ok (.iaload, 1) := by decide +kernel
theorem dX9_page_41 : decode cX9_page 41 = .ok (.bipush 32, 2) := by decide +kernel
theorem dX9_page_43 : decode cX9_page 43 = .ok (.if_icmp .ne 8, 3) := by decide +kernel
theorem dX9_page_46 : decode cX9_page 46 = .ok (.iconst 0, 1) := by decide +kernel
theorem dX9_page_47 : decode cX9_page 47 = .ok (.istore_n 1, 1) := by decide +kernel
theorem dX9_page_48 : decode cX9_page 48 = .ok (.goto 63, 3) := by decide +kernel
theorem dX9_page_51 : decode cX9_page 51 = .ok (.aload_n 0, 1) := by decide +kernel
theorem dX9_page_52 : decode cX9_page 52 = .ok (.getfield 7, 3) := by decide +kernel
theorem dX9_page_55 : decode cX9_page 55 = .ok (.iconst 0, 1) := by decide +kernel
theorem dX9_page_56 : decode cX9_page 56 = .ok (.dup2, 1) := by decide +kernel
theorem dX9_page_57 : decode cX9_page 57 = .ok (.iaload, 1) := by decide +kernel
theorem dX9_page_58 : decode cX9_page 58 = .ok (.iload_n 1, 1) := by decide +kernel
theorem dX9_page_59 : decode cX9_page 59 = .ok (.ifCond .ne 7, 3) := by decide +kernel
theorem dX9_page_62 : decode cX9_page 62 = .ok (.iconst 1, 1) := by decide +kernel
theorem dX9_page_63 : decode cX9_page 63 = .ok (.goto 4, 3) := by decide +kernel
theorem dX9_page_66 : decode cX9_page 66 = .ok (.iconst 0, 1) := by decide +kernel
theorem dX9_page_67 : decode cX9_page 67 = .ok (.iadd, 1) := by decide +kernel
theorem dX9_page_68 : decode cX9_page 68 = .ok (.iastore, 1) := by decide +kernel
theorem dX9_page_69 : decode cX9_page 69 = .ok (.iinc 1 1, 3) := by decide +kernel
theorem dX9_page_72 : decode cX9_page 72 = .ok (.bipush 34, 2) := by decide +kernel
theorem dX9_page_74 : decode cX9_page 74 = .ok (.bipush 13, 2) := by decide +kernel
theorem dX9_page_76 : decode cX9_page 76 = .ok (.aload_n 0, 1) := by decide +kernel
theorem dX9_page_77 : decode cX9_page 77 = .ok (.getfield 7, 3) := by decide +kernel
theorem dX9_page_80 : decode cX9_page 80 = .ok (.iconst 0, 1) := by decide +kernel
theorem dX9_page_81 : decode cX9_page 81 = .ok (.iaload, 1) := by decide +kernel
theorem dX9_page_82 : decode cX9_page 82 = .ok (.iconst 1, 1) := by decide +kernel
theorem dX9_page_83 : decode cX9_page 83 = .ok (.isub, 1) := by decide +kernel
theorem dX9_page_84 : decode cX9_page 84 = .ok (.imul, 1) := by decide +kernel
theorem dX9_page_85 : decode cX9_page 85 = .ok (.iadd, 1) := by decide +kernel
theorem dX9_page_86 : decode cX9_page 86 = .ok (.istore_n 3, 1) := by decide +kernel
theorem dX9_page_87 : decode cX9_page 87 = .ok (.aload_n 0, 1) := by decide +kernel
theorem dX9_page_88 : decode cX9_page 88 = .ok (.getfield 7, 3) := by decide +kernel
theorem dX9_page_91 : decode cX9_page 91 = .ok (.iload_n 3, 1) := by decide +kernel
theorem dX9_page_92 : decode cX9_page 92 = .ok (.iload_n 1, 1) := by decide +kernel
theorem dX9_page_93 : decode cX9_page 93 = .ok (.iastore, 1) := by decide +kernel
theorem dX9_page_94 : decode cX9_page 94 = .ok (.aload_n 0, 1) := by decide +kernel
theorem dX9_page_95 : decode cX9_page 95 = .ok (.getfield 7, 3) := by decide +kernel
theorem dX9_page_98 : decode cX9_page 98 = .ok (.iload_n 3, 1) := by decide +kernel
theorem dX9_page_99 : decode cX9_page 99 = .ok (.iload_n 1, 1) := by decide +kernel
theorem dX9_page_100 : decode cX9_page 100 = .ok (.iadd, 1) := by decide +kernel
theorem dX9_page_101 : decode cX9_page 101 = .ok (.aload_n 0, 1) := by decide +kernel
theorem dX9_page_102 : decode cX9_page 102 = .ok (.getfield 16, 3) := by decide +kernel
theorem dX9_page_105 : decode cX9_page 105 = .ok (.iload_n 2, 1) := by decide +kernel
theorem dX9_page_106 : decode cX9_page 106 = .ok (.iaload, 1) := by decide +kernel
theorem dX9_page_107 : decode cX9_page 107 = .ok (.bipush 97, 2) := by decide +kernel
theorem dX9_page_109 : decode cX9_page 109 = .ok (.isub, 1) := by decide +kernel
theorem dX9_page_110 : decode cX9_page 110 = .ok (.iastore, 1) := by decide +kernel
theorem dX9_page_111 : decode cX9_page 111 = .ok (.iinc 2 1, 3) := by decide +kernel
theorem dX9_page_114 : decode cX9_page 114 = .ok (.goto (-87), 3) := by decide +kernel
theorem dX9_page_117 : decode cX9_page 117 = .ok (.aload_n 0, 1) := by decide +kernel
theorem dX9_page_118 : decode cX9_page 118 = .ok (.getfield 7, 3) := by decide +kernel
theorem dX9_page_121 : decode cX9_page 121 = .ok (.iconst 0, 1) := by decide +kernel
theorem dX9_page_122 : decode cX9_page 122 = .ok (.iaload, 1) := by decide +kernel
theorem dX9_page_123 : decode cX9_page 123 = .ok (.ireturn, 1) := by decide +kernel
set_option maxRecDepth 20000 in
theorem ggX9_areLetters_X9_in : GoodIn wsX9_areLetters wsX9_in := goodIn_r _ [6] (by decide +kernel) (by decide +kernel)
set_option maxRecDepth 20000 in
theorem gX9_areLetters_X9_in : GoodIn wsX9_areLetters (va_wsS RX9 44 yX9_in wsX9_in) := goodIn_app (goodIn_of _ (by decide +kernel)) ggX9_areLetters_X9_in
set_option maxRecDepth 20000 in
theorem ggX9_areLetters_X9_isLetter : GoodIn wsX9_areLetters wsX9_isLetter := goodIn_r _ [9, 3, 4, 5, 6] (by decide +kernel) (by decide +kernel)
set_option maxRecDepth 20000 in
theorem gX9_areLetters_X9_isLetter : GoodIn wsX9_areLetters (va_wsS RX9 51 yX9_isLetter wsX9_isLetter) := goodIn_app (goodIn_of _ (by decide +kernel)) ggX9_areLetters_X9_isLetter
theorem dX9_areLetters_0 : decode cX9_areLetters 0 = .ok (.aload_n 0, 1) := by decide +kernel
theorem dX9_areLetters_1 : decode cX9_areLetters 1 = .ok (.getfield 48, 3) := by decide +kernel
theorem dX9_areLetters_4 : decode cX9_areLetters 4 = .ok (.iconst 1, 1) := by decide +kernel
theorem dX9_areLetters_5 : decode cX9_areLetters 5 = .ok (.iload_n 1, 1) := by decide +kernel
theorem dX9_areLetters_6 : decode cX9_areLetters 6 = .ok (.invokestatic 44, 3) := by decide +kernel
theorem dX9_areLetters_9 : decode cX9_areLetters 9 = .ok (.istore_n 2, 1) := by decide +kernel
theorem dX9_areLetters_10 : decode cX9_areLetters 10 = .ok (.iconst 0, 1) := by decide +kernel
theorem dX9_areLetters_11 : decode cX9_areLetters 11 = .ok (.istore_n 3, 1) := by decide +kernel
theorem dX9_areLetters_12 : decode cX9_areLetters 12 = .ok (.iload_n 3, 1) := by decide +kernel
theorem dX9_areLetters_13 : decode cX9_areLetters 13 = .ok (.aload_n 0, 1) := by decide +kernel
theorem dX9_areLetters_14 : decode cX9_areLetters 14 = .ok (.getfield 48, 3) := by decide +kernel
theorem dX9_areLetters_17 : decode cX9_areLetters 17 = .ok (.if_icmp .ge 31, 3) := by decide +kernel
theorem dX9_areLetters_20 : decode cX9_areLetters 20 = .ok (.iload_n 2, 1) := by decide +kernel
theorem dX9_areLetters_21 : decode cX9_areLetters 21 = .ok (.ifCond .eq 19, 3) := by decide +kernel
theorem dX9_areLetters_24 : decode cX9_areLetters 24 = .ok (.aload_n 0, 1) := by decide +kernel
theorem dX9_areLetters_25 : decode cX9_areLetters 25 = .ok (.getfield 16, 3) := by decide +kernel
theorem dX9_areLetters_28 : decode cX9_areLetters 28 = .ok (.iload_n 3, 1) := by decide +kernel
theorem dX9_areLetters_29 : decode cX9_areLetters 29 = .ok (.iaload, 1) := by decide +kernel
theorem dX9_areLetters_30 : decode cX9_areLetters 30 = .ok (.invokestatic 51, 3) := by decide +kernel
theorem dX9_areLetters_33 : decode cX9_areLetters 33 = .ok (.ifCond .eq 7, 3) := by decide +kernel
theorem dX9_areLetters_36 : decode cX9_areLetters 36 = .ok (.iconst 1, 1) := by decide +kernel
theorem dX9_areLetters_37 : decode cX9_areLetters 37 = .ok (.goto 4, 3) := by decide +kernel
theorem dX9_areLetters_40 : decode cX9_areLetters 40 = .ok (.iconst 0, 1) := by decide +kernel
theorem dX9_areLetters_41 : decode cX9_areLetters 41 = .ok (.istore_n 2, 1) := by decide +kernel
theorem dX9_areLetters_42 : decode cX9_areLetters 42 = .ok (.iinc 3 1, 3) := by decide +kernel
theorem dX9_areLetters_45 : decode cX9_areLetters 45 = .ok (.goto (-33), 3) := by decide +kernel
theorem dX9_areLetters_48 : decode cX9_areLetters 48 = .ok (.iload_n 2, 1) := by decide +kernel
theorem dX9_areLetters_49 : decode cX9_areLetters 49 = .ok (.ireturn, 1) := by decide +kernel
theorem dX9_isText_0 : decode cX9_isText 0 = .ok (.aload_n 0, 1) := by decide +kernel
theorem dX9_isText_1 : decode cX9_isText 1 = .ok (.getfield 7, 3) := by decide +kernel
theorem dX9_isText_4 : decode cX9_isText 4 = .ok (.iload_n 1, 1) := by decide +kernel
theorem dX9_isText_5 : decode cX9_isText 5 = .ok (.iaload, 1) := by decide +kernel
theorem dX9_isText_6 : decode cX9_isText 6 = .ok (.aload_n 0, 1) := by decide +kernel
theorem dX9_isText_7 : decode cX9_isText 7 = .ok (.getfield 48, 3) := by decide +kernel
theorem dX9_isText_10 : decode cX9_isText 10 = .ok (.if_icmp .ne 7, 3) := by decide +kernel
theorem dX9_isText_13 : decode cX9_isText 13 = .ok (.iconst 1, 1) := by decide +kernel
theorem dX9_isText_14 : decode cX9_isText 14 = .ok (.goto 4, 3) := by decide +kernel
theorem dX9_isText_17 : decode cX9_isText 17 = .ok (.iconst 0, 1) := by decide +kernel
theorem dX9_isText_18 : decode cX9_isText 18 = .ok (.istore_n 2, 1) := by decide +kernel
theorem dX9_isText_19 : decode cX9_isText 19 = .ok (.iconst 0, 1) := by decide +kernel
theorem dX9_isText_20 : decode cX9_isText 20 = .ok (.istore_n 3, 1) := by decide +kernel
theorem dX9_isText_21 : decode cX9_isText 21 = .ok (.iload_n 3, 1) := by decide +kernel
theorem dX9_isText_22 : decode cX9_isText 22 = .ok (.aload_n 0, 1) := by decide +kernel
theorem dX9_isText_23 : decode cX9_isText 23 = .ok (.getfield 7, 3) := by decide +kernel
theorem dX9_isText_26 : decode cX9_isText 26 = .ok (.iload_n 1, 1) := by decide +kernel
theorem dX9_isText_27 : decode cX9_isText 27 = .ok (.iaload, 1) := by decide +kernel
theorem dX9_isText_28 : decode cX9_isText 28 = .ok (.if_icmp .ge 41, 3) := by decide +kernel
theorem dX9_isText_31 : decode cX9_isText 31 = .ok (.iload_n 2, 1) := by decide +kernel
theorem dX9_isText_32 : decode cX9_isText 32 = .ok (.ifCond .eq 37, 3) := by decide +kernel
theorem dX9_isText_35 : decode cX9_isText 35 = .ok (.aload_n 0, 1) := by decide +kernel
theorem dX9_isText_36 : decode cX9_isText 36 = .ok (.getfield 7, 3) := by decide +kernel
theorem dX9_isText_39 : decode cX9_isText 39 = .ok (.iload_n 1, 1) := by decide +kernel
theorem dX9_isText_40 : decode cX9_isText 40 = .ok (.iconst 1, 1) := by decide +kernel
theorem dX9_isText_41 : decode cX9_isText 41 = .ok (.iadd, 1) := by decide +kernel
theorem dX9_isText_42 : decode cX9_isText 42 = .ok (.iload_n 3, 1) := by decide +kernel
theorem dX9_isText_43 : decode cX9_isText 43 = .ok (.iadd, 1) := by decide +kernel
theorem dX9_isText_44 : decode cX9_isText 44 = .ok (.iaload, 1) := by decide +kernel
theorem dX9_isText_45 : decode cX9_isText 45 = .ok (.aload_n 0, 1) := by decide +kernel
theorem dX9_isText_46 : decode cX9_isText 46 = .ok (.getfield 16, 3) := by decide +kernel
theorem dX9_isText_49 : decode cX9_isText 49 = .ok (.iload_n 3, 1) := by decide +kernel
theorem dX9_isText_50 : decode cX9_isText 50 = .ok (.iaload, 1) := by decide +kernel
theorem dX9_isText_51 : decode cX9_isText 51 = .ok (.bipush 97, 2) := by decide +kernel
theorem dX9_isText_53 : decode cX9_isText 53 = .ok (.isub, 1) := by decide +kernel
theorem dX9_isText_54 : decode cX9_isText 54 = .ok (.if_icmp .ne 7, 3) := by decide +kernel
theorem dX9_isText_57 : decode cX9_isText 57 = .ok (.iconst 1, 1) := by decide +kernel
theorem dX9_isText_58 : decode cX9_isText 58 = .ok (.goto 4, 3) := by decide +kernel
theorem dX9_isText_61 : decode cX9_isText 61 = .ok (.iconst 0, 1) := by decide +kernel
theorem dX9_isText_62 : decode cX9_isText 62 = .ok (.istore_n 2, 1) := by decide +kernel
theorem dX9_isText_63 : decode cX9_isText 63 = .ok (.iinc 3 1, 3) := by decide +kernel
theorem dX9_isText_66 : decode cX9_isText 66 = .ok (.goto (-45), 3) := by decide +kernel
theorem dX9_isText_69 : decode cX9_isText 69 = .ok (.iload_n 2, 1) := by decide +kernel
theorem dX9_isText_70 : decode cX9_isText 70 = .ok (.ireturn, 1) := by decide +kernel
set_option maxRecDepth 20000 in
theorem ggX9_makes_X9_areLetters : GoodIn wsX9_makes wsX9_areLetters := goodIn_r _ [8, 2, 3, 9, 10, 7, 11, 12, 13, 14, 25, 26, 27, 28, 29, 30, 31, 32, 33, 34, 35, 36, 37, 38, 39] (by decide +kernel) (by decide +kernel)
set_option maxRecDepth 20000 in
theorem gX9_makes_X9_areLetters : GoodIn wsX9_makes (wsV RX9 69 RX9 yX9_areLetters wsX9_areLetters) := goodIn_app (goodIn_of _ (by decide +kernel)) ggX9_makes_X9_areLetters
set_option maxRecDepth 20000 in
theorem ggX9_makes_X9_isText : GoodIn wsX9_makes wsX9_isText := goodIn_r _ [18, 1, 2, 3, 25, 26, 27, 28, 29, 30, 31, 32, 33, 34, 35, 36, 37, 38, 39] (by decide +kernel) (by decide +kernel)
set_option maxRecDepth 20000 in
theorem gX9_makes_X9_isText : GoodIn wsX9_makes (wsV RX9 72 RX9 yX9_isText wsX9_isText) := goodIn_app (goodIn_of _ (by decide +kernel)) ggX9_makes_X9_isText
set_option maxRecDepth 20000 in
theorem ggX9_makes_X9_records : GoodIn wsX9_makes wsX9_records := goodIn_r _ [22, 23, 24, 1, 25, 26, 27, 28, 29, 30, 31, 32, 33, 34, 35, 36, 37, 38, 39] (by decide +kernel) (by decide +kernel)
set_option maxRecDepth 20000 in
theorem gX9_makes_X9_records : GoodIn wsX9_makes (wsV RX9 66 RX9 yX9_records wsX9_records) := goodIn_app (goodIn_of _ (by decide +kernel)) ggX9_makes_X9_records
theorem dX9_makes_0 : decode cX9_makes 0 = .ok (.aload_n 0, 1) := by decide +kernel
theorem dX9_makes_1 : decode cX9_makes 1 = .ok (.iload_n 3, 1) := by decide +kernel
theorem dX9_makes_2 : decode cX9_makes 2 = .ok (.iconst 1, 1) := by decide +kernel
theorem dX9_makes_3 : decode cX9_makes 3 = .ok (.isub, 1) := by decide +kernel
theorem dX9_makes_4 : decode cX9_makes 4 = .ok (.invokevirtual 69, 3) := by decide +kernel
theorem dX9_makes_7 : decode cX9_makes 7 = .ok (.istore 5, 2) := by decide +kernel
theorem dX9_makes_9 : decode cX9_makes 9 = .ok (.iconst 0, 1) := by decide +kernel
theorem dX9_makes_10 : decode cX9_makes 10 = .ok (.istore 6, 2) := by decide +kernel
theorem dX9_makes_12 : decode cX9_makes 12 = .ok (.iload 6, 2) := by decide +kernel
theorem dX9_makes_14 : decode cX9_makes 14 = .ok (.aload_n 0, 1) := by decide +kernel
theorem dX9_makes_15 : decode cX9_makes 15 = .ok (.getfield 7, 3) := by decide +kernel
theorem dX9_makes_18 : decode cX9_makes 18 = .ok (.iload_n 1, 1) := by decide +kernel
theorem dX9_makes_19 : decode cX9_makes 19 = .ok (.iaload, 1) := by decide +kernel
theorem dX9_makes_20 : decode cX9_makes 20 = .ok (.if_icmp .ge 34, 3) := by decide +kernel
theorem dX9_makes_23 : decode cX9_makes 23 = .ok (.iload 5, 2) := by decide +kernel
theorem dX9_makes_25 : decode cX9_makes 25 = .ok (.ifCond .eq 29, 3) := by decide +kernel
theorem dX9_makes_28 : decode cX9_makes 28 = .ok (.aload_n 0, 1) := by decide +kernel
theorem dX9_makes_29 : decode cX9_makes 29 = .ok (.iload_n 2, 1) := by decide +kernel
theorem dX9_makes_30 : decode cX9_makes 30 = .ok (.iload_n 3, 1) := by decide +kernel
theorem dX9_makes_31 : decode cX9_makes 31 = .ok (.iload 6, 2) := by decide +kernel
theorem dX9_makes_33 : decode cX9_makes 33 = .ok (.imul, 1) := by decide +kernel
theorem dX9_makes_34 : decode cX9_makes 34 = .ok (.iadd, 1) := by decide +kernel
theorem dX9_makes_35 : decode cX9_makes 35 = .ok (.invokevirtual 72, 3) := by decide +kernel
theorem dX9_makes_38 : decode cX9_makes 38 = .ok (.ifCond .ne 7, 3) := by decide +kernel
theorem dX9_makes_41 : decode cX9_makes 41 = .ok (.iconst 1, 1) := by decide +kernel
theorem dX9_makes_42 : decode cX9_makes 42 = .ok (.goto 4, 3) := by decide +kernel
theorem dX9_makes_45 : decode cX9_makes 45 = .ok (.iconst 0, 1) := by decide +kernel
theorem dX9_makes_46 : decode cX9_makes 46 = .ok (.istore 5, 2) := by decide +kernel
theorem dX9_makes_48 : decode cX9_makes 48 = .ok (.iinc 6 1, 3) := by decide +kernel
theorem dX9_makes_51 : decode cX9_makes 51 = .ok (.goto (-39), 3) := by decide +kernel
theorem dX9_makes_54 : decode cX9_makes 54 = .ok (.iload 5, 2) := by decide +kernel
theorem dX9_makes_56 : decode cX9_makes 56 = .ok (.ifCond .ne 6, 3) := by decide +kernel
theorem dX9_makes_59 : decode cX9_makes 59 = .ok (.bipush (-12), 2) := by decide +kernel
theorem dX9_makes_61 : decode cX9_makes 61 = .ok (.ireturn, 1) := by decide +kernel
theorem dX9_makes_62 : decode cX9_makes 62 = .ok (.aload_n 0, 1) := by decide +kernel
theorem dX9_makes_63 : decode cX9_makes 63 = .ok (.getfield 7, 3) := by decide +kernel
theorem dX9_makes_66 : decode cX9_makes 66 = .ok (.iload_n 1, 1) := by decide +kernel
theorem dX9_makes_67 : decode cX9_makes 67 = .ok (.iaload, 1) := by decide +kernel
theorem dX9_makes_68 : decode cX9_makes 68 = .ok (.iload 4, 2) := by decide +kernel
theorem dX9_makes_70 : decode cX9_makes 70 = .ok (.if_icmp .ne 6, 3) := by decide +kernel
theorem dX9_makes_73 : decode cX9_makes 73 = .ok (.bipush (-13), 2) := by decide +kernel
theorem dX9_makes_75 : decode cX9_makes 75 = .ok (.ireturn, 1) := by decide +kernel
theorem dX9_makes_76 : decode cX9_makes 76 = .ok (.aload_n 0, 1) := by decide +kernel
theorem dX9_makes_77 : decode cX9_makes 77 = .ok (.invokevirtual 66, 3) := by decide +kernel
theorem dX9_makes_80 : decode cX9_makes 80 = .ok (.iload_n 2, 1) := by decide +kernel
theorem dX9_makes_81 : decode cX9_makes 81 = .ok (.iload_n 3, 1) := by decide +kernel
theorem dX9_makes_82 : decode cX9_makes 82 = .ok (.aload_n 0, 1) := by decide +kernel
theorem dX9_makes_83 : decode cX9_makes 83 = .ok (.getfield 7, 3) := by decide +kernel
theorem dX9_makes_86 : decode cX9_makes 86 = .ok (.iload_n 1, 1) := by decide +kernel
theorem dX9_makes_87 : decode cX9_makes 87 = .ok (.iaload, 1) := by decide +kernel
theorem dX9_makes_88 : decode cX9_makes 88 = .ok (.imul, 1) := by decide +kernel
theorem dX9_makes_89 : decode cX9_makes 89 = .ok (.iadd, 1) := by decide +kernel
theorem dX9_makes_90 : decode cX9_makes 90 = .ok (.istore 6, 2) := by decide +kernel
theorem dX9_makes_92 : decode cX9_makes 92 = .ok (.aload_n 0, 1) := by decide +kernel
theorem dX9_makes_93 : decode cX9_makes 93 = .ok (.getfield 7, 3) := by decide +kernel
theorem dX9_makes_96 : decode cX9_makes 96 = .ok (.iload 6, 2) := by decide +kernel
theorem dX9_makes_98 : decode cX9_makes 98 = .ok (.aload_n 0, 1) := by decide +kernel
theorem dX9_makes_99 : decode cX9_makes 99 = .ok (.getfield 48, 3) := by decide +kernel
theorem dX9_makes_102 : decode cX9_makes 102 = .ok (.iastore, 1) := by decide +kernel
theorem dX9_makes_103 : decode cX9_makes 103 = .ok (.iconst 0, 1) := by decide +kernel
theorem dX9_makes_104 : decode cX9_makes 104 = .ok (.istore 7, 2) := by decide +kernel
theorem dX9_makes_106 : decode cX9_makes 106 = .ok (.iload 7, 2) := by decide +kernel
theorem dX9_makes_108 : decode cX9_makes 108 = .ok (.aload_n 0, 1) := by decide +kernel
theorem dX9_makes_109 : decode cX9_makes 109 = .ok (.getfield 48, 3) := by decide +kernel
theorem dX9_makes_112 : decode cX9_makes 112 = .ok (.if_icmp .ge 31, 3) := by decide +kernel
theorem dX9_makes_115 : decode cX9_makes 115 = .ok (.aload_n 0, 1) := by decide +kernel
theorem dX9_makes_116 : decode cX9_makes 116 = .ok (.getfield 7, 3) := by decide +kernel
theorem dX9_makes_119 : decode cX9_makes 119 = .ok (.iload 6, 2) := by decide +kernel
theorem dX9_makes_121 : decode cX9_makes 121 = .ok (.iconst 1, 1) := by decide +kernel
theorem dX9_makes_122 : decode cX9_makes 122 = .ok (.iadd, 1) := by decide +kernel
theorem dX9_makes_123 : decode cX9_makes 123 = .ok (.iload 7, 2) := by decide +kernel
theorem dX9_makes_125 : decode cX9_makes 125 = .ok (.iadd, 1) := by decide +kernel
theorem dX9_makes_126 : decode cX9_makes 126 = .ok (.aload_n 0, 1) := by decide +kernel
theorem dX9_makes_127 : decode cX9_makes 127 = .ok (.getfield 16, 3) := by decide +kernel
theorem dX9_makes_130 : decode cX9_makes 130 = .ok (.iload 7, 2) := by decide +kernel
theorem dX9_makes_132 : decode cX9_makes 132 = .ok (.iaload, 1) := by decide +kernel
theorem dX9_makes_133 : decode cX9_makes 133 = .ok (.bipush 97, 2) := by decide +kernel
theorem dX9_makes_135 : decode cX9_makes 135 = .ok (.isub, 1) := by decide +kernel
theorem dX9_makes_136 : decode cX9_makes 136 = .ok (.iastore, 1) := by decide +kernel
theorem dX9_makes_137 : decode cX9_makes 137 = .ok (.iinc 7 1, 3) := by decide +kernel
theorem dX9_makes_140 : decode cX9_makes 140 = .ok (.goto (-34), 3) := by decide +kernel
theorem dX9_makes_143 : decode cX9_makes 143 = .ok (.aload_n 0, 1) := by decide +kernel
theorem dX9_makes_144 : decode cX9_makes 144 = .ok (.getfield 7, 3) := by decide +kernel
theorem dX9_makes_147 : decode cX9_makes 147 = .ok (.iload_n 1, 1) := by decide +kernel
theorem dX9_makes_148 : decode cX9_makes 148 = .ok (.dup2, 1) := by decide +kernel
theorem dX9_makes_149 : decode cX9_makes 149 = .ok (.iaload, 1) := by decide +kernel
theorem dX9_makes_150 : decode cX9_makes 150 = .ok (.iconst 1, 1) := by decide +kernel
theorem dX9_makes_151 : decode cX9_makes 151 = .ok (.iadd, 1) := by decide +kernel
theorem dX9_makes_152 : decode cX9_makes 152 = .ok (.iastore, 1) := by decide +kernel
theorem dX9_makes_153 : decode cX9_makes 153 = .ok (.aload_n 0, 1) := by decide +kernel
theorem dX9_makes_154 : decode cX9_makes 154 = .ok (.getfield 7, 3) := by decide +kernel
theorem dX9_makes_157 : decode cX9_makes 157 = .ok (.iload_n 1, 1) := by decide +kernel
theorem dX9_makes_158 : decode cX9_makes 158 = .ok (.iaload, 1) := by decide +kernel
theorem dX9_makes_159 : decode cX9_makes 159 = .ok (.iconst 1, 1) := by decide +kernel
theorem dX9_makes_160 : decode cX9_makes 160 = .ok (.isub, 1) := by decide +kernel
theorem dX9_makes_161 : decode cX9_makes 161 = .ok (.ireturn, 1) := by decide +kernel
set_option maxRecDepth 20000 in
theorem ggX9_name_X9_makes : GoodIn wsX9_name wsX9_makes := goodIn_r _ [5, 6, 7, 8, 9, 10, 11, 4, 12, 13, 14, 15, 16, 17, 18, 19, 20, 21, 22, 23, 24, 25, 26, 27, 28, 29, 30, 31, 32, 33, 34, 35, 36, 37, 38, 39, 40, 41, 42, 43] (by decide +kernel) (by decide +kernel)
set_option maxRecDepth 20000 in
theorem gX9_name_X9_makes : GoodIn wsX9_name (wsV RX9 75 RX9 yX9_makes wsX9_makes) := goodIn_app (goodIn_of _ (by decide +kernel)) ggX9_name_X9_makes
theorem dX9_name_0 : decode cX9_name 0 = .ok (.aload_n 0, 1) := by decide +kernel
theorem dX9_name_1 : decode cX9_name 1 = .ok (.iconst 1, 1) := by decide +kernel
theorem dX9_name_2 : decode cX9_name 2 = .ok (.sipush 554, 3) := by decide +kernel
theorem dX9_name_5 : decode cX9_name 5 = .ok (.bipush 9, 2) := by decide +kernel
theorem dX9_name_7 : decode cX9_name 7 = .ok (.bipush 8, 2) := by decide +kernel
theorem dX9_name_9 : decode cX9_name 9 = .ok (.invokevirtual 75, 3) := by decide +kernel
theorem dX9_name_12 : decode cX9_name 12 = .ok (.ireturn, 1) := by decide +kernel
set_option maxRecDepth 20000 in
theorem ggX9_ending_X9_makes : GoodIn wsX9_ending wsX9_makes := goodIn_r _ [5, 6, 7, 8, 9, 10, 11, 4, 12, 13, 14, 15, 16, 17, 18, 19, 20, 21, 22, 23, 24, 25, 26, 27, 28, 29, 30, 31, 32, 33, 34, 35, 36, 37, 38, 39, 40, 41, 42, 43] (by decide +kernel) (by decide +kernel)
set_option maxRecDepth 20000 in
theorem gX9_ending_X9_makes : GoodIn wsX9_ending (wsV RX9 75 RX9 yX9_makes wsX9_makes) := goodIn_app (goodIn_of _ (by decide +kernel)) ggX9_ending_X9_makes
theorem dX9_ending_0 : decode cX9_ending 0 = .ok (.aload_n 0, 1) := by decide +kernel
theorem dX9_ending_1 : decode cX9_ending 1 = .ok (.iconst 2, 1) := by decide +kernel
theorem dX9_ending_2 : decode cX9_ending 2 = .ok (.sipush 626, 3) := by decide +kernel
theorem dX9_ending_5 : decode cX9_ending 5 = .ok (.iconst 4, 1) := by decide +kernel
theorem dX9_ending_6 : decode cX9_ending 6 = .ok (.iconst 4, 1) := by decide +kernel
theorem dX9_ending_7 : decode cX9_ending 7 = .ok (.invokevirtual 75, 3) := by decide +kernel
theorem dX9_ending_10 : decode cX9_ending 10 = .ok (.ireturn, 1) := by decide +kernel
set_option maxRecDepth 20000 in
theorem ggX9_drops_X9_records : GoodIn wsX9_drops wsX9_records := goodIn_r _ [6, 7, 8, 1, 9, 10, 11, 12, 13, 14, 15, 16, 17, 18, 19, 20, 21, 22, 23] (by decide +kernel) (by decide +kernel)
set_option maxRecDepth 20000 in
theorem gX9_drops_X9_records : GoodIn wsX9_drops (wsV RX9 66 RX9 yX9_records wsX9_records) := goodIn_app (goodIn_of _ (by decide +kernel)) ggX9_drops_X9_records
theorem dX9_drops_0 : decode cX9_drops 0 = .ok (.iload 4, 2) := by decide +kernel
theorem dX9_drops_2 : decode cX9_drops 2 = .ok (.ifCond .lt 14, 3) := by decide +kernel
theorem dX9_drops_5 : decode cX9_drops 5 = .ok (.iload 4, 2) := by decide +kernel
theorem dX9_drops_7 : decode cX9_drops 7 = .ok (.aload_n 0, 1) := by decide +kernel
theorem dX9_drops_8 : decode cX9_drops 8 = .ok (.getfield 7, 3) := by decide +kernel
theorem dX9_drops_11 : decode cX9_drops 11 = .ok (.iload_n 1, 1) := by decide +kernel
theorem dX9_drops_12 : decode cX9_drops 12 = .ok (.iaload, 1) := by decide +kernel
theorem dX9_drops_13 : decode cX9_drops 13 = .ok (.if_icmp .lt 6, 3) := by decide +kernel
theorem dX9_drops_16 : decode cX9_drops 16 = .ok (.bipush (-11), 2) := by decide +kernel
theorem dX9_drops_18 : decode cX9_drops 18 = .ok (.ireturn, 1) := by decide +kernel
theorem dX9_drops_19 : decode cX9_drops 19 = .ok (.aload_n 0, 1) := by decide +kernel
theorem dX9_drops_20 : decode cX9_drops 20 = .ok (.invokevirtual 66, 3) := by decide +kernel
theorem dX9_drops_23 : decode cX9_drops 23 = .ok (.aload_n 0, 1) := by decide +kernel
theorem dX9_drops_24 : decode cX9_drops 24 = .ok (.getfield 7, 3) := by decide +kernel
theorem dX9_drops_27 : decode cX9_drops 27 = .ok (.iload_n 1, 1) := by decide +kernel
theorem dX9_drops_28 : decode cX9_drops 28 = .ok (.dup2, 1) := by decide +kernel
theorem dX9_drops_29 : decode cX9_drops 29 = .ok (.iaload, 1) := by decide +kernel
theorem dX9_drops_30 : decode cX9_drops 30 = .ok (.iconst 1, 1) := by decide +kernel
theorem dX9_drops_31 : decode cX9_drops 31 = .ok (.isub, 1) := by decide +kernel
theorem dX9_drops_32 : decode cX9_drops 32 = .ok (.iastore, 1) := by decide +kernel
theorem dX9_drops_33 : decode cX9_drops 33 = .ok (.iload_n 2, 1) := by decide +kernel
theorem dX9_drops_34 : decode cX9_drops 34 = .ok (.iload_n 3, 1) := by decide +kernel
theorem dX9_drops_35 : decode cX9_drops 35 = .ok (.iload 4, 2) := by decide +kernel
theorem dX9_drops_37 : decode cX9_drops 37 = .ok (.imul, 1) := by decide +kernel
theorem dX9_drops_38 : decode cX9_drops 38 = .ok (.iadd, 1) := by decide +kernel
theorem dX9_drops_39 : decode cX9_drops 39 = .ok (.istore 5, 2) := by decide +kernel
theorem dX9_drops_41 : decode cX9_drops 41 = .ok (.iload 5, 2) := by decide +kernel
theorem dX9_drops_43 : decode cX9_drops 43 = .ok (.iload_n 2, 1) := by decide +kernel
theorem dX9_drops_44 : decode cX9_drops 44 = .ok (.iload_n 3, 1) := by decide +kernel
theorem dX9_drops_45 : decode cX9_drops 45 = .ok (.aload_n 0, 1) := by decide +kernel
theorem dX9_drops_46 : decode cX9_drops 46 = .ok (.getfield 7, 3) := by decide +kernel
theorem dX9_drops_49 : decode cX9_drops 49 = .ok (.iload_n 1, 1) := by decide +kernel
theorem dX9_drops_50 : decode cX9_drops 50 = .ok (.iaload, 1) := by decide +kernel
theorem dX9_drops_51 : decode cX9_drops 51 = .ok (.imul, 1) := by decide +kernel
theorem dX9_drops_52 : decode cX9_drops 52 = .ok (.iadd, 1) := by decide +kernel
theorem dX9_drops_53 : decode cX9_drops 53 = .ok (.if_icmp .ge 25, 3) := by decide +kernel
theorem dX9_drops_56 : decode cX9_drops 56 = .ok (.aload_n 0, 1) := by decide +kernel
theorem dX9_drops_57 : decode cX9_drops 57 = .ok (.getfield 7, 3) := by decide +kernel
theorem dX9_drops_60 : decode cX9_drops 60 = .ok (.iload 5, 2) := by decide +kernel
theorem dX9_drops_62 : decode cX9_drops 62 = .ok (.aload_n 0, 1) := by decide +kernel
theorem dX9_drops_63 : decode cX9_drops 63 = .ok (.getfield 7, 3) := by decide +kernel
theorem dX9_drops_66 : decode cX9_drops 66 = .ok (.iload 5, 2) := by decide +kernel
theorem dX9_drops_68 : decode cX9_drops 68 = .ok (.iload_n 3, 1) := by decide +kernel
theorem dX9_drops_69 : decode cX9_drops 69 = .ok (.iadd, 1) := by decide +kernel
theorem dX9_drops_70 : decode cX9_drops 70 = .ok (.iaload, 1) := by decide +kernel
theorem dX9_drops_71 : decode cX9_drops 71 = .ok (.iastore, 1) := by decide +kernel
theorem dX9_drops_72 : decode cX9_drops 72 = .ok (.iinc 5 1, 3) := by decide +kernel
theorem dX9_drops_75 : decode cX9_drops 75 = .ok (.goto (-34), 3) := by decide +kernel
theorem dX9_drops_78 : decode cX9_drops 78 = .ok (.aload_n 0, 1) := by decide +kernel
theorem dX9_drops_79 : decode cX9_drops 79 = .ok (.getfield 7, 3) := by decide +kernel
theorem dX9_drops_82 : decode cX9_drops 82 = .ok (.iload_n 1, 1) := by decide +kernel
theorem dX9_drops_83 : decode cX9_drops 83 = .ok (.iaload, 1) := by decide +kernel
theorem dX9_drops_84 : decode cX9_drops 84 = .ok (.ireturn, 1) := by decide +kernel
set_option maxRecDepth 20000 in
theorem ggX9_dropName_X9_drops : GoodIn wsX9_dropName wsX9_drops := goodIn_r _ [5, 6, 7, 8, 9, 4, 10, 11, 12, 13, 14, 15, 16, 17, 18, 19, 20, 21, 22, 23, 24, 25, 26, 27] (by decide +kernel) (by decide +kernel)
set_option maxRecDepth 20000 in
theorem gX9_dropName_X9_drops : GoodIn wsX9_dropName (wsV RX9 79 RX9 yX9_drops wsX9_drops) := goodIn_app (goodIn_of _ (by decide +kernel)) ggX9_dropName_X9_drops
theorem dX9_dropName_0 : decode cX9_dropName 0 = .ok (.aload_n 0, 1) := by decide +kernel
theorem dX9_dropName_1 : decode cX9_dropName 1 = .ok (.iconst 1, 1) := by decide +kernel
theorem dX9_dropName_2 : decode cX9_dropName 2 = .ok (.sipush 554, 3) := by decide +kernel
theorem dX9_dropName_5 : decode cX9_dropName 5 = .ok (.bipush 9, 2) := by decide +kernel
theorem dX9_dropName_7 : decode cX9_dropName 7 = .ok (.iload_n 1, 1) := by decide +kernel
theorem dX9_dropName_8 : decode cX9_dropName 8 = .ok (.invokevirtual 79, 3) := by decide +kernel
theorem dX9_dropName_11 : decode cX9_dropName 11 = .ok (.ireturn, 1) := by decide +kernel
set_option maxRecDepth 20000 in
theorem ggX9_dropEnding_X9_drops : GoodIn wsX9_dropEnding wsX9_drops := goodIn_r _ [5, 6, 7, 8, 9, 4, 10, 11, 12, 13, 14, 15, 16, 17, 18, 19, 20, 21, 22, 23, 24, 25, 26, 27] (by decide +kernel) (by decide +kernel)
set_option maxRecDepth 20000 in
theorem gX9_dropEnding_X9_drops : GoodIn wsX9_dropEnding (wsV RX9 79 RX9 yX9_drops wsX9_drops) := goodIn_app (goodIn_of _ (by decide +kernel)) ggX9_dropEnding_X9_drops
theorem dX9_dropEnding_0 : decode cX9_dropEnding 0 = .ok (.aload_n 0, 1) := by decide +kernel
theorem dX9_dropEnding_1 : decode cX9_dropEnding 1 = .ok (.iconst 2, 1) := by decide +kernel
theorem dX9_dropEnding_2 : decode cX9_dropEnding 2 = .ok (.sipush 626, 3) := by decide +kernel
theorem dX9_dropEnding_5 : decode cX9_dropEnding 5 = .ok (.iconst 4, 1) := by decide +kernel
theorem dX9_dropEnding_6 : decode cX9_dropEnding 6 = .ok (.iload_n 1, 1) := by decide +kernel
theorem dX9_dropEnding_7 : decode cX9_dropEnding 7 = .ok (.invokevirtual 79, 3) := by decide +kernel
theorem dX9_dropEnding_10 : decode cX9_dropEnding 10 = .ok (.ireturn, 1) := by decide +kernel
set_option maxRecDepth 20000 in
theorem ggX9_widen_X9_isLetter : GoodIn wsX9_widen wsX9_isLetter := goodIn_r _ [5, 6, 7, 4, 8] (by decide +kernel) (by decide +kernel)
set_option maxRecDepth 20000 in
theorem gX9_widen_X9_isLetter : GoodIn wsX9_widen (va_wsS RX9 51 yX9_isLetter wsX9_isLetter) := goodIn_app (goodIn_of _ (by decide +kernel)) ggX9_widen_X9_isLetter
set_option maxRecDepth 20000 in
theorem ggX9_widen_X9_in : GoodIn wsX9_widen wsX9_in := goodIn_r _ [8] (by decide +kernel) (by decide +kernel)
set_option maxRecDepth 20000 in
theorem gX9_widen_X9_in : GoodIn wsX9_widen (va_wsS RX9 44 yX9_in wsX9_in) := goodIn_app (goodIn_of _ (by decide +kernel)) ggX9_widen_X9_in
set_option maxRecDepth 20000 in
theorem ggX9_widen_X9_records : GoodIn wsX9_widen wsX9_records := goodIn_r _ [12, 13, 14, 1, 15, 16, 17, 18, 19, 20, 21, 22, 23, 24, 25, 26, 27, 28, 29] (by decide +kernel) (by decide +kernel)
set_option maxRecDepth 20000 in
theorem gX9_widen_X9_records : GoodIn wsX9_widen (wsV RX9 66 RX9 yX9_records wsX9_records) := goodIn_app (goodIn_of _ (by decide +kernel)) ggX9_widen_X9_records
theorem dX9_widen_0 : decode cX9_widen 0 = .ok (.iload_n 1, 1) := by decide +kernel
theorem dX9_widen_1 : decode cX9_widen 1 = .ok (.invokestatic 51, 3) := by decide +kernel
theorem dX9_widen_4 : decode cX9_widen 4 = .ok (.ifCond .eq 13, 3) := by decide +kernel
theorem dX9_widen_7 : decode cX9_widen 7 = .ok (.iload_n 2, 1) := by decide +kernel
theorem dX9_widen_8 : decode cX9_widen 8 = .ok (.iconst 1, 1) := by decide +kernel
theorem dX9_widen_9 : decode cX9_widen 9 = .ok (.bipush 9, 2) := by decide +kernel
theorem dX9_widen_11 : decode cX9_widen 11 = .ok (.invokestatic 44, 3) := by decide +kernel
theorem dX9_widen_14 : decode cX9_widen 14 = .ok (.ifCond .ne 6, 3) := by decide +kernel
theorem dX9_widen_17 : decode cX9_widen 17 = .ok (.bipush (-11), 2) := by decide +kernel
theorem dX9_widen_19 : decode cX9_widen 19 = .ok (.ireturn, 1) := by decide +kernel
theorem dX9_widen_20 : decode cX9_widen 20 = .ok (.aload_n 0, 1) := by decide +kernel
theorem dX9_widen_21 : decode cX9_widen 21 = .ok (.invokevirtual 66, 3) := by decide +kernel
theorem dX9_widen_24 : decode cX9_widen 24 = .ok (.bipush 8, 2) := by decide +kernel
theorem dX9_widen_26 : decode cX9_widen 26 = .ok (.iload_n 1, 1) := by decide +kernel
theorem dX9_widen_27 : decode cX9_widen 27 = .ok (.iadd, 1) := by decide +kernel
theorem dX9_widen_28 : decode cX9_widen 28 = .ok (.bipush 97, 2) := by decide +kernel
theorem dX9_widen_30 : decode cX9_widen 30 = .ok (.isub, 1) := by decide +kernel
theorem dX9_widen_31 : decode cX9_widen 31 = .ok (.istore_n 3, 1) := by decide +kernel
theorem dX9_widen_32 : decode cX9_widen 32 = .ok (.aload_n 0, 1) := by decide +kernel
theorem dX9_widen_33 : decode cX9_widen 33 = .ok (.getfield 7, 3) := by decide +kernel
theorem dX9_widen_36 : decode cX9_widen 36 = .ok (.iload_n 3, 1) := by decide +kernel
theorem dX9_widen_37 : decode cX9_widen 37 = .ok (.iaload, 1) := by decide +kernel
theorem dX9_widen_38 : decode cX9_widen 38 = .ok (.istore 4, 2) := by decide +kernel
theorem dX9_widen_40 : decode cX9_widen 40 = .ok (.aload_n 0, 1) := by decide +kernel
theorem dX9_widen_41 : decode cX9_widen 41 = .ok (.getfield 7, 3) := by decide +kernel
theorem dX9_widen_44 : decode cX9_widen 44 = .ok (.iload_n 3, 1) := by decide +kernel
theorem dX9_widen_45 : decode cX9_widen 45 = .ok (.iload_n 2, 1) := by decide +kernel
theorem dX9_widen_46 : decode cX9_widen 46 = .ok (.iastore, 1) := by decide +kernel
theorem dX9_widen_47 : decode cX9_widen 47 = .ok (.iload 4, 2) := by decide +kernel
theorem dX9_widen_49 : decode cX9_widen 49 = .ok (.ireturn, 1) := by decide +kernel
set_option maxRecDepth 20000 in
theorem ggX9_isSetting_X9_in : GoodIn wsX9_isSetting wsX9_in := goodIn_r _ [4] (by decide +kernel) (by decide +kernel)
set_option maxRecDepth 20000 in
theorem gX9_isSetting_X9_in : GoodIn wsX9_isSetting (va_wsS RX9 44 yX9_in wsX9_in) := goodIn_app (goodIn_of _ (by decide +kernel)) ggX9_isSetting_X9_in
theorem dX9_isSetting_0 : decode cX9_isSetting 0 = .ok (.iload_n 0, 1) := by decide +kernel
theorem dX9_isSetting_1 : decode cX9_isSetting 1 = .ok (.tableswitch 76 0 4 #[35, 42, 50, 58, 66], 35) := by decide +kernel
theorem dX9_isSetting_36 : decode cX9_isSetting 36 = .ok (.iload_n 1, 1) := by decide +kernel
theorem dX9_isSetting_37 : decode cX9_isSetting 37 = .ok (.iconst 0, 1) := by decide +kernel
theorem dX9_isSetting_38 : decode cX9_isSetting 38 = .ok (.iconst 3, 1) := by decide +kernel
theorem dX9_isSetting_39 : decode cX9_isSetting 39 = .ok (.invokestatic 44, 3) := by decide +kernel
theorem dX9_isSetting_42 : decode cX9_isSetting 42 = .ok (.ireturn, 1) := by decide +kernel
theorem dX9_isSetting_43 : decode cX9_isSetting 43 = .ok (.iload_n 1, 1) := by decide +kernel
theorem dX9_isSetting_44 : decode cX9_isSetting 44 = .ok (.iconst 1, 1) := by decide +kernel
theorem dX9_isSetting_45 : decode cX9_isSetting 45 = .ok (.bipush 50, 2) := by decide +kernel
theorem dX9_isSetting_47 : decode cX9_isSetting 47 = .ok (.invokestatic 44, 3) := by decide +kernel
theorem dX9_isSetting_50 : decode cX9_isSetting 50 = .ok (.ireturn, 1) := by decide +kernel
theorem dX9_isSetting_51 : decode cX9_isSetting 51 = .ok (.iload_n 1, 1) := by decide +kernel
theorem dX9_isSetting_52 : decode cX9_isSetting 52 = .ok (.iconst 1, 1) := by decide +kernel
theorem dX9_isSetting_53 : decode cX9_isSetting 53 = .ok (.bipush 8, 2) := by decide +kernel
theorem dX9_isSetting_55 : decode cX9_isSetting 55 = .ok (.invokestatic 44, 3) := by decide +kernel
theorem dX9_isSetting_58 : decode cX9_isSetting 58 = .ok (.ireturn, 1) := by decide +kernel
theorem dX9_isSetting_59 : decode cX9_isSetting 59 = .ok (.iload_n 1, 1) := by decide +kernel
theorem dX9_isSetting_60 : decode cX9_isSetting 60 = .ok (.iconst 1, 1) := by decide +kernel
theorem dX9_isSetting_61 : decode cX9_isSetting 61 = .ok (.bipush 9, 2) := by decide +kernel
theorem dX9_isSetting_63 : decode cX9_isSetting 63 = .ok (.invokestatic 44, 3) := by decide +kernel
theorem dX9_isSetting_66 : decode cX9_isSetting 66 = .ok (.ireturn, 1) := by decide +kernel
theorem dX9_isSetting_67 : decode cX9_isSetting 67 = .ok (.iload_n 1, 1) := by decide +kernel
theorem dX9_isSetting_68 : decode cX9_isSetting 68 = .ok (.bipush 20, 2) := by decide +kernel
theorem dX9_isSetting_70 : decode cX9_isSetting 70 = .ok (.sipush 200, 3) := by decide +kernel
theorem dX9_isSetting_73 : decode cX9_isSetting 73 = .ok (.invokestatic 44, 3) := by decide +kernel
theorem dX9_isSetting_76 : decode cX9_isSetting 76 = .ok (.ireturn, 1) := by decide +kernel
theorem dX9_isSetting_77 : decode cX9_isSetting 77 = .ok (.iconst 0, 1) := by decide +kernel
theorem dX9_isSetting_78 : decode cX9_isSetting 78 = .ok (.ireturn, 1) := by decide +kernel
set_option maxRecDepth 20000 in
theorem ggX9_set_X9_isSetting : GoodIn wsX9_set wsX9_isSetting := goodIn_r _ [5, 6, 7, 4, 8] (by decide +kernel) (by decide +kernel)
set_option maxRecDepth 20000 in
theorem gX9_set_X9_isSetting : GoodIn wsX9_set (va_wsS RX9 82 yX9_isSetting wsX9_isSetting) := goodIn_app (goodIn_of _ (by decide +kernel)) ggX9_set_X9_isSetting
set_option maxRecDepth 20000 in
theorem ggX9_set_X9_records : GoodIn wsX9_set wsX9_records := goodIn_r _ [12, 13, 14, 1, 15, 16, 17, 18, 19, 20, 21, 22, 23, 24, 25, 26, 27, 28, 29] (by decide +kernel) (by decide +kernel)
set_option maxRecDepth 20000 in
theorem gX9_set_X9_records : GoodIn wsX9_set (wsV RX9 66 RX9 yX9_records wsX9_records) := goodIn_app (goodIn_of _ (by decide +kernel)) ggX9_set_X9_records
theorem dX9_set_0 : decode cX9_set 0 = .ok (.iload_n 1, 1) := by decide +kernel
theorem dX9_set_1 : decode cX9_set 1 = .ok (.iload_n 2, 1) := by decide +kernel
theorem dX9_set_2 : decode cX9_set 2 = .ok (.invokestatic 82, 3) := by decide +kernel
theorem dX9_set_5 : decode cX9_set 5 = .ok (.ifCond .ne 6, 3) := by decide +kernel
theorem dX9_set_8 : decode cX9_set 8 = .ok (.bipush (-11), 2) := by decide +kernel
theorem dX9_set_10 : decode cX9_set 10 = .ok (.ireturn, 1) := by decide +kernel
theorem dX9_set_11 : decode cX9_set 11 = .ok (.aload_n 0, 1) := by decide +kernel
theorem dX9_set_12 : decode cX9_set 12 = .ok (.invokevirtual 66, 3) := by decide +kernel
theorem dX9_set_15 : decode cX9_set 15 = .ok (.aload_n 0, 1) := by decide +kernel
theorem dX9_set_16 : decode cX9_set 16 = .ok (.getfield 7, 3) := by decide +kernel
theorem dX9_set_19 : decode cX9_set 19 = .ok (.iconst 3, 1) := by decide +kernel
theorem dX9_set_20 : decode cX9_set 20 = .ok (.iload_n 1, 1) := by decide +kernel
theorem dX9_set_21 : decode cX9_set 21 = .ok (.iadd, 1) := by decide +kernel
theorem dX9_set_22 : decode cX9_set 22 = .ok (.iaload, 1) := by decide +kernel
theorem dX9_set_23 : decode cX9_set 23 = .ok (.istore_n 3, 1) := by decide +kernel
theorem dX9_set_24 : decode cX9_set 24 = .ok (.aload_n 0, 1) := by decide +kernel
theorem dX9_set_25 : decode cX9_set 25 = .ok (.getfield 7, 3) := by decide +kernel
theorem dX9_set_28 : decode cX9_set 28 = .ok (.iconst 3, 1) := by decide +kernel
theorem dX9_set_29 : decode cX9_set 29 = .ok (.iload_n 1, 1) := by decide +kernel
theorem dX9_set_30 : decode cX9_set 30 = .ok (.iadd, 1) := by decide +kernel
theorem dX9_set_31 : decode cX9_set 31 = .ok (.iload_n 2, 1) := by decide +kernel
theorem dX9_set_32 : decode cX9_set 32 = .ok (.iastore, 1) := by decide +kernel
theorem dX9_set_33 : decode cX9_set 33 = .ok (.iload_n 3, 1) := by decide +kernel
theorem dX9_set_34 : decode cX9_set 34 = .ok (.ireturn, 1) := by decide +kernel
theorem dX9_widthAt_0 : decode cX9_widthAt 0 = .ok (.iconst 0, 1) := by decide +kernel
theorem dX9_widthAt_1 : decode cX9_widthAt 1 = .ok (.istore_n 2, 1) := by decide +kernel
theorem dX9_widthAt_2 : decode cX9_widthAt 2 = .ok (.iconst 1, 1) := by decide +kernel
theorem dX9_widthAt_3 : decode cX9_widthAt 3 = .ok (.istore_n 3, 1) := by decide +kernel
theorem dX9_widthAt_4 : decode cX9_widthAt 4 = .ok (.iload_n 3, 1) := by decide +kernel
theorem dX9_widthAt_5 : decode cX9_widthAt 5 = .ok (.aload_n 0, 1) := by decide +kernel
theorem dX9_widthAt_6 : decode cX9_widthAt 6 = .ok (.getfield 7, 3) := by decide +kernel
theorem dX9_widthAt_9 : decode cX9_widthAt 9 = .ok (.iload_n 1, 1) := by decide +kernel
theorem dX9_widthAt_10 : decode cX9_widthAt 10 = .ok (.iaload, 1) := by decide +kernel
theorem dX9_widthAt_11 : decode cX9_widthAt 11 = .ok (.if_icmp .gt 28, 3) := by decide +kernel
theorem dX9_widthAt_14 : decode cX9_widthAt 14 = .ok (.iload_n 2, 1) := by decide +kernel
theorem dX9_widthAt_15 : decode cX9_widthAt 15 = .ok (.aload_n 0, 1) := by decide +kernel
theorem dX9_widthAt_16 : decode cX9_widthAt 16 = .ok (.getfield 7, 3) := by decide +kernel
theorem dX9_widthAt_19 : decode cX9_widthAt 19 = .ok (.bipush 8, 2) := by decide +kernel
theorem dX9_widthAt_21 : decode cX9_widthAt 21 = .ok (.aload_n 0, 1) := by decide +kernel
theorem dX9_widthAt_22 : decode cX9_widthAt 22 = .ok (.getfield 7, 3) := by decide +kernel
theorem dX9_widthAt_25 : decode cX9_widthAt 25 = .ok (.iload_n 1, 1) := by decide +kernel
theorem dX9_widthAt_26 : decode cX9_widthAt 26 = .ok (.iload_n 3, 1) := by decide +kernel
theorem dX9_widthAt_27 : decode cX9_widthAt 27 = .ok (.iadd, 1) := by decide +kernel
theorem dX9_widthAt_28 : decode cX9_widthAt 28 = .ok (.iaload, 1) := by decide +kernel
theorem dX9_widthAt_29 : decode cX9_widthAt 29 = .ok (.iadd, 1) := by decide +kernel
theorem dX9_widthAt_30 : decode cX9_widthAt 30 = .ok (.iaload, 1) := by decide +kernel
theorem dX9_widthAt_31 : decode cX9_widthAt 31 = .ok (.iadd, 1) := by decide +kernel
theorem dX9_widthAt_32 : decode cX9_widthAt 32 = .ok (.istore_n 2, 1) := by decide +kernel
theorem dX9_widthAt_33 : decode cX9_widthAt 33 = .ok (.iinc 3 1, 3) := by decide +kernel
theorem dX9_widthAt_36 : decode cX9_widthAt 36 = .ok (.goto (-32), 3) := by decide +kernel
theorem dX9_widthAt_39 : decode cX9_widthAt 39 = .ok (.iload_n 2, 1) := by decide +kernel
theorem dX9_widthAt_40 : decode cX9_widthAt 40 = .ok (.ireturn, 1) := by decide +kernel
theorem dX9_each_0 : decode cX9_each 0 = .ok (.aload_n 0, 1) := by decide +kernel
theorem dX9_each_1 : decode cX9_each 1 = .ok (.getfield 7, 3) := by decide +kernel
theorem dX9_each_4 : decode cX9_each 4 = .ok (.iconst 2, 1) := by decide +kernel
theorem dX9_each_5 : decode cX9_each 5 = .ok (.iaload, 1) := by decide +kernel
theorem dX9_each_6 : decode cX9_each 6 = .ok (.iconst 1, 1) := by decide +kernel
theorem dX9_each_7 : decode cX9_each 7 = .ok (.iadd, 1) := by decide +kernel
theorem dX9_each_8 : decode cX9_each 8 = .ok (.ireturn, 1) := by decide +kernel
set_option maxRecDepth 20000 in
theorem ggX9_endingAt_X9_each : GoodIn wsX9_endingAt wsX9_each := goodIn_r _ [5, 6, 7, 8, 9, 10, 11, 12, 13, 14, 15, 16, 17, 18, 19, 20, 21] (by decide +kernel) (by decide +kernel)
set_option maxRecDepth 20000 in
theorem gX9_endingAt_X9_each : GoodIn wsX9_endingAt (wsV RX9 86 RX9 yX9_each wsX9_each) := goodIn_app (goodIn_of _ (by decide +kernel)) ggX9_endingAt_X9_each
theorem dX9_endingAt_0 : decode cX9_endingAt 0 = .ok (.sipush 626, 3) := by decide +kernel
theorem dX9_endingAt_3 : decode cX9_endingAt 3 = .ok (.iconst 4, 1) := by decide +kernel
theorem dX9_endingAt_4 : decode cX9_endingAt 4 = .ok (.iload_n 1, 1) := by decide +kernel
theorem dX9_endingAt_5 : decode cX9_endingAt 5 = .ok (.aload_n 0, 1) := by decide +kernel
theorem dX9_endingAt_6 : decode cX9_endingAt 6 = .ok (.invokevirtual 86, 3) := by decide +kernel
theorem dX9_endingAt_9 : decode cX9_endingAt 9 = .ok (.irem, 1) := by decide +kernel
theorem dX9_endingAt_10 : decode cX9_endingAt 10 = .ok (.iconst 1, 1) := by decide +kernel
theorem dX9_endingAt_11 : decode cX9_endingAt 11 = .ok (.isub, 1) := by decide +kernel
theorem dX9_endingAt_12 : decode cX9_endingAt 12 = .ok (.imul, 1) := by decide +kernel
theorem dX9_endingAt_13 : decode cX9_endingAt 13 = .ok (.iadd, 1) := by decide +kernel
theorem dX9_endingAt_14 : decode cX9_endingAt 14 = .ok (.ireturn, 1) := by decide +kernel
set_option maxRecDepth 20000 in
theorem ggX9_lettersOf_X9_each : GoodIn wsX9_lettersOf wsX9_each := goodIn_r _ [6, 1, 11, 12, 13, 14, 15, 16, 17, 18, 19, 20, 21, 22, 23, 24, 25] (by decide +kernel) (by decide +kernel)
set_option maxRecDepth 20000 in
theorem gX9_lettersOf_X9_each : GoodIn wsX9_lettersOf (wsV RX9 86 RX9 yX9_each wsX9_each) := goodIn_app (goodIn_of _ (by decide +kernel)) ggX9_lettersOf_X9_each
set_option maxRecDepth 20000 in
theorem ggX9_lettersOf_X9_endingAt : GoodIn wsX9_lettersOf wsX9_endingAt := goodIn_r _ [10, 2, 3, 4, 5, 6, 1, 11, 12, 13, 14, 15, 16, 17, 18, 19, 20, 21, 22, 23, 24, 25] (by decide +kernel) (by decide +kernel)
set_option maxRecDepth 20000 in
theorem gX9_lettersOf_X9_endingAt : GoodIn wsX9_lettersOf (wsV RX9 89 RX9 yX9_endingAt wsX9_endingAt) := goodIn_app (goodIn_of _ (by decide +kernel)) ggX9_lettersOf_X9_endingAt
theorem dX9_lettersOf_0 : decode cX9_lettersOf 0 = .ok (.iload_n 1, 1) := by decide +kernel
theorem dX9_lettersOf_1 : decode cX9_lettersOf 1 = .ok (.aload_n 0, 1) := by decide +kernel
theorem dX9_lettersOf_2 : decode cX9_lettersOf 2 = .ok (.invokevirtual 86, 3) := by decide +kernel
theorem dX9_lettersOf_5 : decode cX9_lettersOf 5 = .ok (.irem, 1) := by decide +kernel
theorem dX9_lettersOf_6 : decode cX9_lettersOf 6 = .ok (.ifCond .ne 7, 3) := by decide +kernel
theorem dX9_lettersOf_9 : decode cX9_lettersOf 9 = .ok (.iconst 0, 1) := by decide +kernel
theorem dX9_lettersOf_10 : decode cX9_lettersOf 10 = .ok (.goto 13, 3) := by decide +kernel
theorem dX9_lettersOf_13 : decode cX9_lettersOf 13 = .ok (.aload_n 0, 1) := by decide +kernel
theorem dX9_lettersOf_14 : decode cX9_lettersOf 14 = .ok (.getfield 7, 3) := by decide +kernel
theorem dX9_lettersOf_17 : decode cX9_lettersOf 17 = .ok (.aload_n 0, 1) := by decide +kernel
theorem dX9_lettersOf_18 : decode cX9_lettersOf 18 = .ok (.iload_n 1, 1) := by decide +kernel
theorem dX9_lettersOf_19 : decode cX9_lettersOf 19 = .ok (.invokevirtual 89, 3) := by decide +kernel
theorem dX9_lettersOf_22 : decode cX9_lettersOf 22 = .ok (.iaload, 1) := by decide +kernel
theorem dX9_lettersOf_23 : decode cX9_lettersOf 23 = .ok (.istore_n 2, 1) := by decide +kernel
theorem dX9_lettersOf_24 : decode cX9_lettersOf 24 = .ok (.aload_n 0, 1) := by decide +kernel
theorem dX9_lettersOf_25 : decode cX9_lettersOf 25 = .ok (.getfield 7, 3) := by decide +kernel
theorem dX9_lettersOf_28 : decode cX9_lettersOf 28 = .ok (.sipush 554, 3) := by decide +kernel
theorem dX9_lettersOf_31 : decode cX9_lettersOf 31 = .ok (.bipush 9, 2) := by decide +kernel
theorem dX9_lettersOf_33 : decode cX9_lettersOf 33 = .ok (.iload_n 1, 1) := by decide +kernel
theorem dX9_lettersOf_34 : decode cX9_lettersOf 34 = .ok (.aload_n 0, 1) := by decide +kernel
theorem dX9_lettersOf_35 : decode cX9_lettersOf 35 = .ok (.invokevirtual 86, 3) := by decide +kernel
theorem dX9_lettersOf_38 : decode cX9_lettersOf 38 = .ok (.idiv, 1) := by decide +kernel
theorem dX9_lettersOf_39 : decode cX9_lettersOf 39 = .ok (.imul, 1) := by decide +kernel
