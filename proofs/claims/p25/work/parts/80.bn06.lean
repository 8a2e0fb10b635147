set_option maxRecDepth 20000 in
theorem ggX8_page_X8_workOut : GoodIn wsX8_page wsX8_workOut := goodIn_r _ [117, 118, 3, 119, 120, 121, 122, 123, 124, 125, 126, 127, 128, 129, 130, 131, 132, 133, 60, 134, 65, 135, 136, 137, 138, 139, 140, 141, 142, 143, 144, 145, 50, 146, 53, 55, 54, 147, 148, 149, 150, 108, 63, 62, 113, 16, 17, 18, 19, 20, 151, 101, 102, 103, 152, 153, 154, 155, 156, 157, 158, 159, 160, 161, 162, 163, 164, 165, 166, 167, 168, 169, 170, 171, 172, 173, 174, 175, 176, 177, 178, 179, 180, 181, 182, 183, 184, 185, 186, 187, 188, 189, 190, 191, 192, 193, 194, 195, 196, 197, 198, 199, 200, 201, 202, 203, 204, 205, 206, 207, 208, 209, 52, 210, 110, 111, 112, 211, 212, 213, 214, 215, 216, 217, 218, 219, 220, 221, 222, 223, 224, 225, 226, 227, 228, 229, 230, 231, 232, 233, 234, 235, 236, 237, 238, 239, 240, 241, 242, 243, 244, 245, 246, 247, 249, 250, 251, 252, 253, 254, 255, 256, 257, 258, 259, 260, 271, 272, 273, 274, 275, 266, 267, 268, 269, 270, 263, 276, 277, 278, 279, 280, 281, 282, 283, 284, 285, 286] (by decide +kernel) (by decide +kernel)
set_option maxRecDepth 20000 in
theorem gX8_page_X8_workOut : GoodIn wsX8_page (wsV RX8 91 RX8 yX8_workOut wsX8_workOut) := goodIn_app (goodIn_of _ (by decide +kernel)) ggX8_page_X8_workOut
set_option maxRecDepth 20000 in
theorem ggX8_page_X7_size : GoodIn wsX8_page wsX7_size := goodIn_r _ [134, 65, 266, 267, 268, 269, 270] (by decide +kernel) (by decide +kernel)
set_option maxRecDepth 20000 in
theorem gX8_page_X7_size : GoodIn wsX8_page (wsV RX8 94 RX7 yX7_size wsX7_size) := goodIn_app (goodIn_of _ (by decide +kernel)) ggX8_page_X7_size
theorem dX8_page_0 : decode cX8_page 0 = .ok (.aload_n 0, 1) := by decide +kernel
theorem dX8_page_1 : decode cX8_page 1 = .ok (.getfield 12, 3) := by decide +kernel
theorem dX8_page_4 : decode cX8_page 4 = .ok (.invokevirtual 69, 3) := by decide +kernel
theorem dX8_page_7 : decode cX8_page 7 = .ok (.ifCond .lt 6, 3) := by decide +kernel
theorem dX8_page_10 : decode cX8_page 10 = .ok (.bipush (-12), 2) := by decide +kernel
theorem dX8_page_12 : decode cX8_page 12 = .ok (.ireturn, 1) := by decide +kernel
theorem dX8_page_13 : decode cX8_page 13 = .ok (.aload_n 0, 1) := by decide +kernel
theorem dX8_page_14 : decode cX8_page 14 = .ok (.getfield 26, 3) := by decide +kernel
theorem dX8_page_17 : decode cX8_page 17 = .ok (.aload_n 0, 1) := by decide +kernel
theorem dX8_page_18 : decode cX8_page 18 = .ok (.getfield 19, 3) := by decide +kernel
theorem dX8_page_21 : decode cX8_page 21 = .ok (.invokevirtual 76, 3) := by decide +kernel
theorem dX8_page_24 : decode cX8_page 24 = .ok (.aload_n 0, 1) := by decide +kernel
theorem dX8_page_25 : decode cX8_page 25 = .ok (.getfield 19, 3) := by decide +kernel
theorem dX8_page_28 : decode cX8_page 28 = .ok (.getfield 80, 3) := by decide +kernel
theorem dX8_page_31 : decode cX8_page 31 = .ok (.invokevirtual 84, 3) := by decide +kernel
theorem dX8_page_34 : decode cX8_page 34 = .ok (.aload_n 0, 1) := by decide +kernel
theorem dX8_page_35 : decode cX8_page 35 = .ok (.getfield 19, 3) := by decide +kernel
theorem dX8_page_38 : decode cX8_page 38 = .ok (.getfield 80, 3) := by decide +kernel
theorem dX8_page_41 : decode cX8_page 41 = .ok (.aload_n 0, 1) := by decide +kernel
theorem dX8_page_42 : decode cX8_page 42 = .ok (.getfield 12, 3) := by decide +kernel
theorem dX8_page_45 : decode cX8_page 45 = .ok (.invokevirtual 87, 3) := by decide +kernel
theorem dX8_page_48 : decode cX8_page 48 = .ok (.aload_n 0, 1) := by decide +kernel
theorem dX8_page_49 : decode cX8_page 49 = .ok (.invokevirtual 91, 3) := by decide +kernel
theorem dX8_page_52 : decode cX8_page 52 = .ok (.aload_n 0, 1) := by decide +kernel
theorem dX8_page_53 : decode cX8_page 53 = .ok (.getfield 19, 3) := by decide +kernel
theorem dX8_page_56 : decode cX8_page 56 = .ok (.getfield 80, 3) := by decide +kernel
theorem dX8_page_59 : decode cX8_page 59 = .ok (.invokevirtual 94, 3) := by decide +kernel
theorem dX8_page_62 : decode cX8_page 62 = .ok (.ireturn, 1) := by decide +kernel
set_option maxRecDepth 20000 in
theorem ggX8_name_X8_addTextTo : GoodIn wsX8_name wsX8_addTextTo := goodIn_r _ [6, 7, 8, 1, 9, 10, 11, 12, 13, 14, 15, 16, 17, 18, 19, 20, 21, 22, 23, 24, 25, 26, 27, 28, 5, 29, 30, 31, 32, 33, 34, 35, 36, 37, 38, 39, 40, 41, 42, 43, 44, 45, 46, 47, 48, 49, 50, 51, 52, 53, 54, 55, 56, 57, 58, 59, 60, 61, 62, 63, 64, 65, 66, 67, 68, 69, 70, 71, 72, 73, 74, 75, 76, 77, 78, 79, 80, 81, 82, 83, 84, 85, 86, 87, 88, 89, 90, 91, 92, 93, 94, 95, 96, 97, 98, 99, 100, 101, 102, 103, 104, 105, 106, 107, 108, 109, 110, 111, 112, 113, 114, 115, 116, 117, 118, 119, 120, 121, 122, 123, 124, 125, 126, 127, 128, 129, 130, 131, 132, 133, 134, 135, 136, 137, 138, 139, 140, 141, 142, 143, 144, 145, 146, 147, 148, 149, 150, 151, 152, 153, 154, 155, 156, 157, 158, 159, 160, 161, 162, 163, 164, 165, 166, 167, 168, 169, 170, 171, 172, 173, 174, 175, 176, 177, 178, 179, 180, 181, 182, 183, 184, 185, 186, 187, 188, 189, 190, 191, 192, 193, 194, 195, 196, 197, 198, 199, 200, 201, 202, 203, 204, 205, 206, 207, 208, 209, 210, 211, 212, 213, 214, 215, 216, 217, 218, 219, 220, 221, 222, 223, 224, 225, 226, 227, 228, 229, 230, 231, 232, 233, 234, 235, 236, 237, 238, 239, 240, 241, 242, 243, 244, 245, 246, 247, 248, 249, 250, 251, 252, 253, 254, 255, 256, 257, 258, 259, 260, 266, 267, 268, 269, 270, 271, 272, 273, 274, 275, 261, 262, 263, 264, 265, 276, 277, 278, 279, 280, 281, 282, 283, 284, 285, 286, 287, 288, 289, 290, 291] (by decide +kernel) (by decide +kernel)
set_option maxRecDepth 20000 in
theorem gX8_name_X8_addTextTo : GoodIn wsX8_name (wsV RX8 98 RX8 yX8_addTextTo wsX8_addTextTo) := goodIn_app (goodIn_of _ (by decide +kernel)) ggX8_name_X8_addTextTo
theorem dX8_name_0 : decode cX8_name 0 = .ok (.aload_n 0, 1) := by decide +kernel
theorem dX8_name_1 : decode cX8_name 1 = .ok (.aload_n 0, 1) := by decide +kernel
theorem dX8_name_2 : decode cX8_name 2 = .ok (.getfield 19, 3) := by decide +kernel
theorem dX8_name_5 : decode cX8_name 5 = .ok (.getfield 95, 3) := by decide +kernel
theorem dX8_name_8 : decode cX8_name 8 = .ok (.invokevirtual 98, 3) := by decide +kernel
theorem dX8_name_11 : decode cX8_name 11 = .ok (.ireturn, 1) := by decide +kernel
set_option maxRecDepth 20000 in
theorem ggX8_ending_X8_addTextTo : GoodIn wsX8_ending wsX8_addTextTo := goodIn_r _ [6, 7, 8, 1, 9, 10, 11, 12, 13, 14, 15, 16, 17, 18, 19, 20, 21, 22, 23, 24, 25, 26, 27, 28, 5, 29, 30, 31, 32, 33, 34, 35, 36, 37, 38, 39, 40, 41, 42, 43, 44, 45, 46, 47, 48, 49, 50, 51, 52, 53, 54, 55, 56, 57, 58, 59, 60, 61, 62, 63, 64, 65, 66, 67, 68, 69, 70, 71, 72, 73, 74, 75, 76, 77, 78, 79, 80, 81, 82, 83, 84, 85, 86, 87, 88, 89, 90, 91, 92, 93, 94, 95, 96, 97, 98, 99, 100, 101, 102, 103, 104, 105, 106, 107, 108, 109, 110, 111, 112, 113, 114, 115, 116, 117, 118, 119, 120, 121, 122, 123, 124, 125, 126, 127, 128, 129, 130, 131, 132, 133, 134, 135, 136, 137, 138, 139, 140, 141, 142, 143, 144, 145, 146, 147, 148, 149, 150, 151, 152, 153, 154, 155, 156, 157, 158, 159, 160, 161, 162, 163, 164, 165, 166, 167, 168, 169, 170, 171, 172, 173, 174, 175, 176, 177, 178, 179, 180, 181, 182, 183, 184, 185, 186, 187, 188, 189, 190, 191, 192, 193, 194, 195, 196, 197, 198, 199, 200, 201, 202, 203, 204, 205, 206, 207, 208, 209, 210, 211, 212, 213, 214, 215, 216, 217, 218, 219, 220, 221, 222, 223, 224, 225, 226, 227, 228, 229, 230, 231, 232, 233, 234, 235, 236, 237, 238, 239, 240, 241, 242, 243, 244, 245, 246, 247, 248, 249, 250, 251, 252, 253, 254, 255, 256, 257, 258, 259, 260, 266, 267, 268, 269, 270, 271, 272, 273, 274, 275, 261, 262, 263, 264, 265, 276, 277, 278, 279, 280, 281, 282, 283, 284, 285, 286, 287, 288, 289, 290, 291] (by decide +kernel) (by decide +kernel)
set_option maxRecDepth 20000 in
theorem gX8_ending_X8_addTextTo : GoodIn wsX8_ending (wsV RX8 98 RX8 yX8_addTextTo wsX8_addTextTo) := goodIn_app (goodIn_of _ (by decide +kernel)) ggX8_ending_X8_addTextTo
theorem dX8_ending_0 : decode cX8_ending 0 = .ok (.aload_n 0, 1) := by decide +kernel
theorem dX8_ending_1 : decode cX8_ending 1 = .ok (.aload_n 0, 1) := by decide +kernel
theorem dX8_ending_2 : decode cX8_ending 2 = .ok (.getfield 19, 3) := by decide +kernel
theorem dX8_ending_5 : decode cX8_ending 5 = .ok (.getfield 102, 3) := by decide +kernel
theorem dX8_ending_8 : decode cX8_ending 8 = .ok (.invokevirtual 98, 3) := by decide +kernel
theorem dX8_ending_11 : decode cX8_ending 11 = .ok (.ireturn, 1) := by decide +kernel
set_option maxRecDepth 20000 in
theorem ggX8_dropName_X8_dropFrom : GoodIn wsX8_dropName wsX8_dropFrom := goodIn_r _ [6, 7, 1, 8, 9, 10, 11, 12, 13, 14, 15, 16, 17, 18, 19, 20, 21, 22, 23, 24, 25, 26, 27, 28, 29, 30, 31, 32, 33, 34, 35, 36, 37, 38, 39, 40, 41, 42, 43, 44, 45, 46, 47, 48, 49, 50, 51, 52, 53, 54, 55, 56, 57, 58, 59, 60, 61, 62, 63, 64, 65, 66, 67, 68, 69, 70, 71, 72, 73, 74, 75, 76, 77, 78, 79, 80, 81, 82, 83, 84, 85, 86, 5, 87, 88, 89, 90, 91, 92, 93, 94, 95, 96, 97, 98, 99, 100, 101, 102, 103, 104, 105, 106, 107, 108, 109, 110, 111, 112, 113, 114, 115, 116, 117, 118, 119, 120, 121, 122, 123, 124, 125, 126, 127, 128, 129, 130, 131, 132, 133, 134, 135, 136, 137, 138, 139, 140, 141, 142, 143, 144, 145, 146, 147, 148, 149, 150, 151, 152, 153, 154, 155, 156, 157, 158, 159, 160, 161, 162, 163, 164, 165, 166, 167, 168, 169, 170, 171, 172, 173, 174, 175, 176, 177, 178, 179, 180, 181, 182, 183, 184, 185, 186, 187, 188, 189, 190, 191, 192, 193, 194, 195, 196, 197, 198, 199, 200, 201, 202, 203, 204, 205, 206, 207, 208, 209, 210, 211, 212, 213, 214, 215, 216, 217, 218, 219, 220, 221, 222, 228, 229, 230, 231, 232, 233, 234, 223, 224, 225, 226, 227, 235, 236, 237, 238, 239, 240, 241, 242, 243, 244, 245, 246, 247, 248, 249, 250, 251] (by decide +kernel) (by decide +kernel)
set_option maxRecDepth 20000 in
theorem gX8_dropName_X8_dropFrom : GoodIn wsX8_dropName (wsV RX8 105 RX8 yX8_dropFrom wsX8_dropFrom) := goodIn_app (goodIn_of _ (by decide +kernel)) ggX8_dropName_X8_dropFrom
theorem dX8_dropName_0 : decode cX8_dropName 0 = .ok (.aload_n 0, 1) := by decide +kernel
theorem dX8_dropName_1 : decode cX8_dropName 1 = .ok (.aload_n 0, 1) := by decide +kernel
theorem dX8_dropName_2 : decode cX8_dropName 2 = .ok (.getfield 19, 3) := by decide +kernel
theorem dX8_dropName_5 : decode cX8_dropName 5 = .ok (.getfield 95, 3) := by decide +kernel
theorem dX8_dropName_8 : decode cX8_dropName 8 = .ok (.iload_n 1, 1) := by decide +kernel
theorem dX8_dropName_9 : decode cX8_dropName 9 = .ok (.invokevirtual 105, 3) := by decide +kernel
theorem dX8_dropName_12 : decode cX8_dropName 12 = .ok (.ireturn, 1) := by decide +kernel
set_option maxRecDepth 20000 in
theorem ggX8_dropEnding_X8_dropFrom : GoodIn wsX8_dropEnding wsX8_dropFrom := goodIn_r _ [6, 7, 1, 8, 9, 10, 11, 12, 13, 14, 15, 16, 17, 18, 19, 20, 21, 22, 23, 24, 25, 26, 27, 28, 29, 30, 31, 32, 33, 34, 35, 36, 37, 38, 39, 40, 41, 42, 43, 44, 45, 46, 47, 48, 49, 50, 51, 52, 53, 54, 55, 56, 57, 58, 59, 60, 61, 62, 63, 64, 65, 66, 67, 68, 69, 70, 71, 72, 73, 74, 75, 76, 77, 78, 79, 80, 81, 82, 83, 84, 85, 86, 5, 87, 88, 89, 90, 91, 92, 93, 94, 95, 96, 97, 98, 99, 100, 101, 102, 103, 104, 105, 106, 107, 108, 109, 110, 111, 112, 113, 114, 115, 116, 117, 118, 119, 120, 121, 122, 123, 124, 125, 126, 127, 128, 129, 130, 131, 132, 133, 134, 135, 136, 137, 138, 139, 140, 141, 142, 143, 144, 145, 146, 147, 148, 149, 150, 151, 152, 153, 154, 155, 156, 157, 158, 159, 160, 161, 162, 163, 164, 165, 166, 167, 168, 169, 170, 171, 172, 173, 174, 175, 176, 177, 178, 179, 180, 181, 182, 183, 184, 185, 186, 187, 188, 189, 190, 191, 192, 193, 194, 195, 196, 197, 198, 199, 200, 201, 202, 203, 204, 205, 206, 207, 208, 209, 210, 211, 212, 213, 214, 215, 216, 217, 218, 219, 220, 221, 222, 228, 229, 230, 231, 232, 233, 234, 223, 224, 225, 226, 227, 235, 236, 237, 238, 239, 240, 241, 242, 243, 244, 245, 246, 247, 248, 249, 250, 251] (by decide +kernel) (by decide +kernel)
set_option maxRecDepth 20000 in
theorem gX8_dropEnding_X8_dropFrom : GoodIn wsX8_dropEnding (wsV RX8 105 RX8 yX8_dropFrom wsX8_dropFrom) := goodIn_app (goodIn_of _ (by decide +kernel)) ggX8_dropEnding_X8_dropFrom
theorem dX8_dropEnding_0 : decode cX8_dropEnding 0 = .ok (.aload_n 0, 1) := by decide +kernel
theorem dX8_dropEnding_1 : decode cX8_dropEnding 1 = .ok (.aload_n 0, 1) := by decide +kernel
theorem dX8_dropEnding_2 : decode cX8_dropEnding 2 = .ok (.getfield 19, 3) := by decide +kernel
theorem dX8_dropEnding_5 : decode cX8_dropEnding 5 = .ok (.getfield 102, 3) := by decide +kernel
theorem dX8_dropEnding_8 : decode cX8_dropEnding 8 = .ok (.iload_n 1, 1) := by decide +kernel
theorem dX8_dropEnding_9 : decode cX8_dropEnding 9 = .ok (.invokevirtual 105, 3) := by decide +kernel
theorem dX8_dropEnding_12 : decode cX8_dropEnding 12 = .ok (.ireturn, 1) := by decide +kernel
set_option maxRecDepth 20000 in
theorem ggX8_widen_X8_isLetter : GoodIn wsX8_widen wsX8_isLetter := goodIn_r _ [6] (by decide +kernel) (by decide +kernel)
set_option maxRecDepth 20000 in
theorem gX8_widen_X8_isLetter : GoodIn wsX8_widen (va_wsS RX8 109 yX8_isLetter wsX8_isLetter) := goodIn_app (goodIn_of _ (by decide +kernel)) ggX8_widen_X8_isLetter
set_option maxRecDepth 20000 in
theorem ggX8_widen_X3_at : GoodIn wsX8_widen wsX3_at := goodIn_r _ [11, 12, 215] (by decide +kernel) (by decide +kernel)
set_option maxRecDepth 20000 in
theorem gX8_widen_X3_at : GoodIn wsX8_widen (wsV RX8 117 RX3 yX3_at wsX3_at) := goodIn_app (goodIn_of _ (by decide +kernel)) ggX8_widen_X3_at
set_option maxRecDepth 20000 in
theorem ggX8_widen_X2_keep : GoodIn wsX8_widen wsX2_keep := goodIn_r _ [17, 18, 19, 20, 21, 22, 16, 23, 24, 25, 26, 27, 28, 29, 30, 31, 32, 33, 34, 35, 36, 37, 38, 39, 40, 41, 42, 43, 44, 45, 46, 47, 48, 49, 50, 51, 52, 53, 10, 54, 12, 55, 56, 57, 58, 59, 60, 216, 217, 210, 211, 212, 213, 214, 218, 219, 220, 221, 222, 215] (by decide +kernel) (by decide +kernel)
set_option maxRecDepth 20000 in
theorem gX8_widen_X2_keep : GoodIn wsX8_widen (wsV RX8 76 RX2 yX2_keep wsX2_keep) := goodIn_app (goodIn_of _ (by decide +kernel)) ggX8_widen_X2_keep
set_option maxRecDepth 20000 in
theorem ggX8_widen_X3_put : GoodIn wsX8_widen wsX3_put := goodIn_r _ [64, 12, 215] (by decide +kernel) (by decide +kernel)
set_option maxRecDepth 20000 in
theorem gX8_widen_X3_put : GoodIn wsX8_widen (wsV RX8 122 RX3 yX3_put wsX3_put) := goodIn_app (goodIn_of _ (by decide +kernel)) ggX8_widen_X3_put
set_option maxRecDepth 20000 in
theorem ggX8_widen_X8_workOut : GoodIn wsX8_widen wsX8_workOut := goodIn_r _ [68, 69, 1, 70, 71, 72, 73, 74, 75, 76, 77, 78, 79, 80, 81, 82, 83, 84, 41, 85, 46, 86, 87, 88, 89, 90, 91, 92, 93, 94, 95, 96, 31, 97, 34, 36, 35, 98, 99, 100, 101, 102, 44, 43, 103, 8, 9, 10, 11, 12, 104, 62, 63, 64, 105, 106, 107, 108, 109, 7, 110, 111, 112, 113, 114, 115, 116, 117, 118, 119, 120, 121, 122, 123, 124, 125, 126, 127, 128, 129, 130, 131, 132, 133, 134, 135, 136, 137, 138, 139, 140, 141, 142, 143, 144, 145, 146, 147, 148, 149, 150, 151, 152, 153, 154, 155, 156, 157, 158, 159, 160, 161, 33, 162, 163, 164, 165, 166, 167, 168, 169, 170, 171, 172, 173, 174, 175, 176, 177, 178, 179, 180, 181, 182, 183, 184, 185, 186, 187, 188, 189, 190, 191, 192, 193, 194, 195, 196, 197, 198, 199, 200, 201, 202, 203, 204, 205, 206, 207, 208, 209, 210, 211, 212, 213, 214, 223, 224, 225, 226, 227, 218, 219, 220, 221, 222, 215, 228, 229, 230, 231, 232, 233, 234, 235, 236, 237, 238] (by decide +kernel) (by decide +kernel)
set_option maxRecDepth 20000 in
theorem gX8_widen_X8_workOut : GoodIn wsX8_widen (wsV RX8 91 RX8 yX8_workOut wsX8_workOut) := goodIn_app (goodIn_of _ (by decide +kernel)) ggX8_widen_X8_workOut
theorem dX8_widen_0 : decode cX8_widen 0 = .ok (.iload_n 1, 1) := by decide +kernel
theorem dX8_widen_1 : decode cX8_widen 1 = .ok (.invokestatic 109, 3) := by decide +kernel
theorem dX8_widen_4 : decode cX8_widen 4 = .ok (.ifCond .eq 14, 3) := by decide +kernel
theorem dX8_widen_7 : decode cX8_widen 7 = .ok (.iload_n 2, 1) := by decide +kernel
theorem dX8_widen_8 : decode cX8_widen 8 = .ok (.iconst 1, 1) := by decide +kernel
theorem dX8_widen_9 : decode cX8_widen 9 = .ok (.if_icmp .lt 9, 3) := by decide +kernel
theorem dX8_widen_12 : decode cX8_widen 12 = .ok (.iload_n 2, 1) := by decide +kernel
theorem dX8_widen_13 : decode cX8_widen 13 = .ok (.bipush 9, 2) := by decide +kernel
theorem dX8_widen_15 : decode cX8_widen 15 = .ok (.if_icmp .le 6, 3) := by decide +kernel
theorem dX8_widen_18 : decode cX8_widen 18 = .ok (.bipush (-11), 2) := by decide +kernel
theorem dX8_widen_20 : decode cX8_widen 20 = .ok (.ireturn, 1) := by decide +kernel
theorem dX8_widen_21 : decode cX8_widen 21 = .ok (.aload_n 0, 1) := by decide +kernel
theorem dX8_widen_22 : decode cX8_widen 22 = .ok (.getfield 19, 3) := by decide +kernel
theorem dX8_widen_25 : decode cX8_widen 25 = .ok (.getfield 113, 3) := by decide +kernel
theorem dX8_widen_28 : decode cX8_widen 28 = .ok (.iload_n 1, 1) := by decide +kernel
theorem dX8_widen_29 : decode cX8_widen 29 = .ok (.bipush 97, 2) := by decide +kernel
theorem dX8_widen_31 : decode cX8_widen 31 = .ok (.isub, 1) := by decide +kernel
theorem dX8_widen_32 : decode cX8_widen 32 = .ok (.invokevirtual 117, 3) := by decide +kernel
theorem dX8_widen_35 : decode cX8_widen 35 = .ok (.istore_n 3, 1) := by decide +kernel
theorem dX8_widen_36 : decode cX8_widen 36 = .ok (.aload_n 0, 1) := by decide +kernel
theorem dX8_widen_37 : decode cX8_widen 37 = .ok (.getfield 26, 3) := by decide +kernel
theorem dX8_widen_40 : decode cX8_widen 40 = .ok (.aload_n 0, 1) := by decide +kernel
theorem dX8_widen_41 : decode cX8_widen 41 = .ok (.getfield 19, 3) := by decide +kernel
theorem dX8_widen_44 : decode cX8_widen 44 = .ok (.invokevirtual 76, 3) := by decide +kernel
theorem dX8_widen_47 : decode cX8_widen 47 = .ok (.aload_n 0, 1) := by decide +kernel
theorem dX8_widen_48 : decode cX8_widen 48 = .ok (.getfield 19, 3) := by decide +kernel
theorem dX8_widen_51 : decode cX8_widen 51 = .ok (.getfield 113, 3) := by decide +kernel
theorem dX8_widen_54 : decode cX8_widen 54 = .ok (.iload_n 1, 1) := by decide +kernel
theorem dX8_widen_55 : decode cX8_widen 55 = .ok (.bipush 97, 2) := by decide +kernel
theorem dX8_widen_57 : decode cX8_widen 57 = .ok (.isub, 1) := by decide +kernel
theorem dX8_widen_58 : decode cX8_widen 58 = .ok (.iload_n 2, 1) := by decide +kernel
theorem dX8_widen_59 : decode cX8_widen 59 = .ok (.invokevirtual 122, 3) := by decide +kernel
theorem dX8_widen_62 : decode cX8_widen 62 = .ok (.aload_n 0, 1) := by decide +kernel
theorem dX8_widen_63 : decode cX8_widen 63 = .ok (.invokevirtual 91, 3) := by decide +kernel
theorem dX8_widen_66 : decode cX8_widen 66 = .ok (.iload_n 3, 1) := by decide +kernel
theorem dX8_widen_67 : decode cX8_widen 67 = .ok (.ireturn, 1) := by decide +kernel
set_option maxRecDepth 20000 in
theorem ggX8_set_X3_at : GoodIn wsX8_set wsX3_at := goodIn_r _ [9, 10, 214] (by decide +kernel) (by decide +kernel)
set_option maxRecDepth 20000 in
theorem gX8_set_X3_at : GoodIn wsX8_set (wsV RX8 117 RX3 yX3_at wsX3_at) := goodIn_app (goodIn_of _ (by decide +kernel)) ggX8_set_X3_at
set_option maxRecDepth 20000 in
theorem ggX8_set_X2_keep : GoodIn wsX8_set wsX2_keep := goodIn_r _ [15, 16, 17, 18, 19, 20, 14, 21, 22, 23, 24, 25, 26, 27, 28, 29, 30, 31, 32, 33, 34, 35, 36, 37, 38, 39, 40, 41, 42, 43, 44, 45, 46, 47, 48, 49, 50, 51, 8, 52, 10, 53, 54, 55, 56, 57, 58, 215, 216, 209, 210, 211, 212, 213, 217, 218, 219, 220, 221, 214] (by decide +kernel) (by decide +kernel)
set_option maxRecDepth 20000 in
theorem gX8_set_X2_keep : GoodIn wsX8_set (wsV RX8 76 RX2 yX2_keep wsX2_keep) := goodIn_app (goodIn_of _ (by decide +kernel)) ggX8_set_X2_keep
set_option maxRecDepth 20000 in
theorem ggX8_set_X3_put : GoodIn wsX8_set wsX3_put := goodIn_r _ [62, 10, 214] (by decide +kernel) (by decide +kernel)
set_option maxRecDepth 20000 in
theorem gX8_set_X3_put : GoodIn wsX8_set (wsV RX8 122 RX3 yX3_put wsX3_put) := goodIn_app (goodIn_of _ (by decide +kernel)) ggX8_set_X3_put
set_option maxRecDepth 20000 in
theorem ggX8_set_X8_workOut : GoodIn wsX8_set wsX8_workOut := goodIn_r _ [67, 68, 3, 69, 70, 71, 72, 73, 74, 75, 76, 77, 78, 79, 80, 81, 82, 83, 39, 84, 44, 85, 86, 87, 88, 89, 90, 91, 92, 93, 94, 95, 29, 96, 32, 34, 33, 97, 98, 99, 100, 101, 42, 41, 102, 6, 7, 8, 9, 10, 103, 60, 61, 62, 104, 105, 106, 107, 108, 5, 109, 110, 111, 112, 113, 114, 115, 116, 117, 118, 119, 120, 121, 122, 123, 124, 125, 126, 127, 128, 129, 130, 131, 132, 133, 134, 135, 136, 137, 138, 139, 140, 141, 142, 143, 144, 145, 146, 147, 148, 149, 150, 151, 152, 153, 154, 155, 156, 157, 158, 159, 160, 31, 161, 162, 163, 164, 165, 166, 167, 168, 169, 170, 171, 172, 173, 174, 175, 176, 177, 178, 179, 180, 181, 182, 183, 184, 185, 186, 187, 188, 189, 190, 191, 192, 193, 194, 195, 196, 197, 198, 199, 200, 201, 202, 203, 204, 205, 206, 207, 208, 209, 210, 211, 212, 213, 222, 223, 224, 225, 226, 217, 218, 219, 220, 221, 214, 227, 228, 229, 230, 231, 232, 233, 234, 235, 236, 237] (by decide +kernel) (by decide +kernel)
set_option maxRecDepth 20000 in
theorem gX8_set_X8_workOut : GoodIn wsX8_set (wsV RX8 91 RX8 yX8_workOut wsX8_workOut) := goodIn_app (goodIn_of _ (by decide +kernel)) ggX8_set_X8_workOut
theorem dX8_set_0 : decode cX8_set 0 = .ok (.iload_n 1, 1) := by decide +kernel
theorem dX8_set_1 : decode cX8_set 1 = .ok (.ifCond .lt 8, 3) := by decide +kernel
theorem dX8_set_4 : decode cX8_set 4 = .ok (.iload_n 1, 1) := by decide +kernel
theorem dX8_set_5 : decode cX8_set 5 = .ok (.iconst 5, 1) := by decide +kernel
theorem dX8_set_6 : decode cX8_set 6 = .ok (.if_icmp .lt 6, 3) := by decide +kernel
theorem dX8_set_9 : decode cX8_set 9 = .ok (.bipush (-11), 2) := by decide +kernel
theorem dX8_set_11 : decode cX8_set 11 = .ok (.ireturn, 1) := by decide +kernel
theorem dX8_set_12 : decode cX8_set 12 = .ok (.iload_n 2, 1) := by decide +kernel
theorem dX8_set_13 : decode cX8_set 13 = .ok (.getstatic 126, 3) := by decide +kernel
theorem dX8_set_16 : decode cX8_set 16 = .ok (.iload_n 1, 1) := by decide +kernel
theorem dX8_set_17 : decode cX8_set 17 = .ok (.iaload, 1) := by decide +kernel
theorem dX8_set_18 : decode cX8_set 18 = .ok (.if_icmp .lt 12, 3) := by decide +kernel
theorem dX8_set_21 : decode cX8_set 21 = .ok (.iload_n 2, 1) := by decide +kernel
theorem dX8_set_22 : decode cX8_set 22 = .ok (.getstatic 130, 3) := by decide +kernel
theorem dX8_set_25 : decode cX8_set 25 = .ok (.iload_n 1, 1) := by decide +kernel
theorem dX8_set_26 : decode cX8_set 26 = .ok (.iaload, 1) := by decide +kernel
theorem dX8_set_27 : decode cX8_set 27 = .ok (.if_icmp .le 6, 3) := by decide +kernel
theorem dX8_set_30 : decode cX8_set 30 = .ok (.bipush (-11), 2) := by decide +kernel
theorem dX8_set_32 : decode cX8_set 32 = .ok (.ireturn, 1) := by decide +kernel
theorem dX8_set_33 : decode cX8_set 33 = .ok (.aload_n 0, 1) := by decide +kernel
theorem dX8_set_34 : decode cX8_set 34 = .ok (.getfield 19, 3) := by decide +kernel
theorem dX8_set_37 : decode cX8_set 37 = .ok (.getfield 133, 3) := by decide +kernel
theorem dX8_set_40 : decode cX8_set 40 = .ok (.iload_n 1, 1) := by decide +kernel
theorem dX8_set_41 : decode cX8_set 41 = .ok (.invokevirtual 117, 3) := by decide +kernel
theorem dX8_set_44 : decode cX8_set 44 = .ok (.istore_n 3, 1) := by decide +kernel
theorem dX8_set_45 : decode cX8_set 45 = .ok (.aload_n 0, 1) := by decide +kernel
theorem dX8_set_46 : decode cX8_set 46 = .ok (.getfield 26, 3) := by decide +kernel
theorem dX8_set_49 : decode cX8_set 49 = .ok (.aload_n 0, 1) := by decide +kernel
theorem dX8_set_50 : decode cX8_set 50 = .ok (.getfield 19, 3) := by decide +kernel
theorem dX8_set_53 : decode cX8_set 53 = .ok (.invokevirtual 76, 3) := by decide +kernel
theorem dX8_set_56 : decode cX8_set 56 = .ok (.aload_n 0, 1) := by decide +kernel
theorem dX8_set_57 : decode cX8_set 57 = .ok (.getfield 19, 3) := by decide +kernel
theorem dX8_set_60 : decode cX8_set 60 = .ok (.getfield 133, 3) := by decide +kernel
theorem dX8_set_63 : decode cX8_set 63 = .ok (.iload_n 1, 1) := by decide +kernel
theorem dX8_set_64 : decode cX8_set 64 = .ok (.iload_n 2, 1) := by decide +kernel
theorem dX8_set_65 : decode cX8_set 65 = .ok (.invokevirtual 122, 3) := by decide +kernel
theorem dX8_set_68 : decode cX8_set 68 = .ok (.aload_n 0, 1) := by decide +kernel
theorem dX8_set_69 : decode cX8_set 69 = .ok (.invokevirtual 91, 3) := by decide +kernel
theorem dX8_set_72 : decode cX8_set 72 = .ok (.iload_n 3, 1) := by decide +kernel
theorem dX8_set_73 : decode cX8_set 73 = .ok (.ireturn, 1) := by decide +kernel
set_option maxRecDepth 20000 in
theorem ggX8_count_X7_size : GoodIn wsX8_count wsX7_size := goodIn_r _ [11, 12, 141, 142, 143, 144, 145] (by decide +kernel) (by decide +kernel)
set_option maxRecDepth 20000 in
theorem gX8_count_X7_size : GoodIn wsX8_count (wsV RX8 94 RX7 yX7_size wsX7_size) := goodIn_app (goodIn_of _ (by decide +kernel)) ggX8_count_X7_size
set_option maxRecDepth 20000 in
theorem ggX8_count_X4_barsBetween : GoodIn wsX8_count wsX4_barsBetween := goodIn_r _ [17, 18, 19, 20, 16, 21, 22, 23, 24, 25, 26, 27, 28, 146, 147, 148, 149, 150, 151, 152, 153, 154, 155] (by decide +kernel) (by decide +kernel)
set_option maxRecDepth 20000 in
theorem gX8_count_X4_barsBetween : GoodIn wsX8_count (wsV RX8 136 RX4 yX4_barsBetween wsX4_barsBetween) := goodIn_app (goodIn_of _ (by decide +kernel)) ggX8_count_X4_barsBetween
set_option maxRecDepth 20000 in
theorem ggX8_count_X4_lineCount : GoodIn wsX8_count wsX4_lineCount := goodIn_r _ [32, 33, 146, 147, 148, 149, 150, 151, 152, 153, 154] (by decide +kernel) (by decide +kernel)
set_option maxRecDepth 20000 in
theorem gX8_count_X4_lineCount : GoodIn wsX8_count (wsV RX8 140 RX4 yX4_lineCount wsX4_lineCount) := goodIn_app (goodIn_of _ (by decide +kernel)) ggX8_count_X4_lineCount
set_option maxRecDepth 20000 in
theorem ggX8_count_X1_size : GoodIn wsX8_count wsX1_size := goodIn_r _ [38, 39, 156, 157, 158, 159, 160] (by decide +kernel) (by decide +kernel)
set_option maxRecDepth 20000 in
theorem gX8_count_X1_size : GoodIn wsX8_count (wsV RX8 143 RX1 yX1_size wsX1_size) := goodIn_app (goodIn_of _ (by decide +kernel)) ggX8_count_X1_size
set_option maxRecDepth 20000 in
theorem ggX8_count_X3_at : GoodIn wsX8_count wsX3_at := goodIn_r _ [27, 28, 155] (by decide +kernel) (by decide +kernel)
set_option maxRecDepth 20000 in
theorem gX8_count_X3_at : GoodIn wsX8_count (wsV RX8 117 RX3 yX3_at wsX3_at) := goodIn_app (goodIn_of _ (by decide +kernel)) ggX8_count_X3_at
set_option maxRecDepth 20000 in
theorem ggX8_count_X4_betrayedBars : GoodIn wsX8_count wsX4_betrayedBars := goodIn_r _ [44, 45, 46, 8, 9, 10, 11, 12, 18, 19, 20, 16, 21, 22, 23, 24, 25, 26, 27, 28, 47, 48, 49, 50, 51, 52, 53, 54, 55, 56, 57, 58, 59, 60, 61, 62, 63, 64, 65, 66, 67, 35, 36, 37, 38, 39, 68, 69, 70, 71, 72, 73, 74, 75, 76, 77, 78, 79, 146, 147, 148, 149, 150, 151, 152, 153, 154, 136, 137, 138, 139, 140, 141, 142, 143, 144, 145, 155, 161, 162, 156, 157, 158, 159, 160] (by decide +kernel) (by decide +kernel)
set_option maxRecDepth 20000 in
theorem gX8_count_X4_betrayedBars : GoodIn wsX8_count (wsV RX8 144 RX4 yX4_betrayedBars wsX4_betrayedBars) := goodIn_app (goodIn_of _ (by decide +kernel)) ggX8_count_X4_betrayedBars
set_option maxRecDepth 20000 in
theorem ggX8_count_X4_sumOfShownWidths : GoodIn wsX8_count wsX4_sumOfShownWidths := goodIn_r _ [83, 45, 46, 8, 9, 10, 11, 12, 84, 85, 86, 16, 87, 18, 19, 20, 21, 22, 23, 24, 25, 26, 27, 28, 51, 52, 53, 54, 55, 56, 57, 58, 59, 60, 61, 88, 89, 90, 91, 92, 146, 147, 148, 149, 150, 151, 152, 153, 154, 136, 137, 138, 139, 140, 141, 142, 143, 144, 145, 155, 161, 162] (by decide +kernel) (by decide +kernel)
set_option maxRecDepth 20000 in
theorem gX8_count_X4_sumOfShownWidths : GoodIn wsX8_count (wsV RX8 148 RX4 yX4_sumOfShownWidths wsX4_sumOfShownWidths) := goodIn_app (goodIn_of _ (by decide +kernel)) ggX8_count_X4_sumOfShownWidths
set_option maxRecDepth 20000 in
theorem ggX8_count_X4_sumOfGaps : GoodIn wsX8_count wsX4_sumOfGaps := goodIn_r _ [96, 45, 97, 46, 8, 9, 10, 11, 12, 18, 19, 20, 16, 21, 22, 23, 24, 25, 26, 27, 28, 51, 52, 53, 54, 55, 56, 57, 58, 59, 60, 61, 98, 99, 100, 37, 101, 102, 103, 146, 147, 148, 149, 150, 151, 152, 153, 154, 136, 137, 138, 139, 140, 141, 142, 143, 144, 145, 155, 161, 162, 156, 157, 158, 159, 160] (by decide +kernel) (by decide +kernel)
set_option maxRecDepth 20000 in
theorem gX8_count_X4_sumOfGaps : GoodIn wsX8_count (wsV RX8 151 RX4 yX4_sumOfGaps wsX4_sumOfGaps) := goodIn_app (goodIn_of _ (by decide +kernel)) ggX8_count_X4_sumOfGaps
set_option maxRecDepth 20000 in
theorem ggX8_count_X4_differentBarWidths : GoodIn wsX8_count wsX4_differentBarWidths := goodIn_r _ [107, 45, 46, 8, 9, 10, 11, 12, 18, 19, 20, 16, 21, 22, 23, 24, 25, 26, 27, 28, 108, 109, 110, 111, 112, 113, 114, 115, 116, 146, 147, 148, 149, 150, 151, 152, 153, 154, 136, 137, 138, 139, 140, 141, 142, 143, 144, 145, 155] (by decide +kernel) (by decide +kernel)
set_option maxRecDepth 20000 in
theorem gX8_count_X4_differentBarWidths : GoodIn wsX8_count (wsV RX8 154 RX4 yX4_differentBarWidths wsX4_differentBarWidths) := goodIn_app (goodIn_of _ (by decide +kernel)) ggX8_count_X4_differentBarWidths
set_option maxRecDepth 20000 in
theorem ggX8_count_X2_size : GoodIn wsX8_count wsX2_size := goodIn_r _ [121, 122, 163, 164] (by decide +kernel) (by decide +kernel)
set_option maxRecDepth 20000 in
theorem gX8_count_X2_size : GoodIn wsX8_count (wsV RX8 157 RX2 yX2_size wsX2_size) := goodIn_app (goodIn_of _ (by decide +kernel)) ggX8_count_X2_size
set_option maxRecDepth 20000 in
theorem ggX8_count_X6_size : GoodIn wsX8_count wsX6_size := goodIn_r _ [127, 128, 165, 166] (by decide +kernel) (by decide +kernel)
set_option maxRecDepth 20000 in
theorem gX8_count_X6_size : GoodIn wsX8_count (wsV RX8 58 RX6 yX6_size wsX6_size) := goodIn_app (goodIn_of _ (by decide +kernel)) ggX8_count_X6_size
theorem dX8_count_0 : decode cX8_count 0 = .ok (.iload_n 1, 1) := by decide +kernel
theorem dX8_count_1 : decode cX8_count 1 = .ok (.tableswitch 271 0 16 #[83, 94, 113, 121, 132, 143, 151, 163, 175, 187, 199, 211, 223, 235, 247, 255, 263], 83) := by decide +kernel
theorem dX8_count_84 : decode cX8_count 84 = .ok (.aload_n 0, 1) := by decide +kernel
theorem dX8_count_85 : decode cX8_count 85 = .ok (.getfield 19, 3) := by decide +kernel
theorem dX8_count_88 : decode cX8_count 88 = .ok (.getfield 80, 3) := by decide +kernel
theorem dX8_count_91 : decode cX8_count 91 = .ok (.invokevirtual 94, 3) := by decide +kernel
theorem dX8_count_94 : decode cX8_count 94 = .ok (.ireturn, 1) := by decide +kernel
theorem dX8_count_95 : decode cX8_count 95 = .ok (.aload_n 0, 1) := by decide +kernel
theorem dX8_count_96 : decode cX8_count 96 = .ok (.getfield 54, 3) := by decide +kernel
theorem dX8_count_99 : decode cX8_count 99 = .ok (.iconst 0, 1) := by decide +kernel
theorem dX8_count_100 : decode cX8_count 100 = .ok (.aload_n 0, 1) := by decide +kernel
theorem dX8_count_101 : decode cX8_count 101 = .ok (.getfield 19, 3) := by decide +kernel
theorem dX8_count_104 : decode cX8_count 104 = .ok (.getfield 80, 3) := by decide +kernel
theorem dX8_count_107 : decode cX8_count 107 = .ok (.invokevirtual 94, 3) := by decide +kernel
theorem dX8_count_110 : decode cX8_count 110 = .ok (.invokevirtual 136, 3) := by decide +kernel
theorem dX8_count_113 : decode cX8_count 113 = .ok (.ireturn, 1) := by decide +kernel
theorem dX8_count_114 : decode cX8_count 114 = .ok (.aload_n 0, 1) := by decide +kernel
theorem dX8_count_115 : decode cX8_count 115 = .ok (.getfield 54, 3) := by decide +kernel
theorem dX8_count_118 : decode cX8_count 118 = .ok (.invokevirtual 140, 3) := by decide +kernel
theorem dX8_count_121 : decode cX8_count 121 = .ok (.ireturn, 1) := by decide +kernel
theorem dX8_count_122 : decode cX8_count 122 = .ok (.aload_n 0, 1) := by decide +kernel
theorem dX8_count_123 : decode cX8_count 123 = .ok (.getfield 19, 3) := by decide +kernel
theorem dX8_count_126 : decode cX8_count 126 = .ok (.getfield 95, 3) := by decide +kernel
theorem dX8_count_129 : decode cX8_count 129 = .ok (.invokevirtual 94, 3) := by decide +kernel
theorem dX8_count_132 : decode cX8_count 132 = .ok (.ireturn, 1) := by decide +kernel
theorem dX8_count_133 : decode cX8_count 133 = .ok (.aload_n 0, 1) := by decide +kernel
theorem dX8_count_134 : decode cX8_count 134 = .ok (.getfield 19, 3) := by decide +kernel
theorem dX8_count_137 : decode cX8_count 137 = .ok (.getfield 102, 3) := by decide +kernel
theorem dX8_count_140 : decode cX8_count 140 = .ok (.invokevirtual 94, 3) := by decide +kernel
theorem dX8_count_143 : decode cX8_count 143 = .ok (.ireturn, 1) := by decide +kernel
theorem dX8_count_144 : decode cX8_count 144 = .ok (.aload_n 0, 1) := by decide +kernel
theorem dX8_count_145 : decode cX8_count 145 = .ok (.getfield 33, 3) := by decide +kernel
theorem dX8_count_148 : decode cX8_count 148 = .ok (.invokevirtual 143, 3) := by decide +kernel
theorem dX8_count_151 : decode cX8_count 151 = .ok (.ireturn, 1) := by decide +kernel
theorem dX8_count_152 : decode cX8_count 152 = .ok (.aload_n 0, 1) := by decide +kernel
theorem dX8_count_153 : decode cX8_count 153 = .ok (.getfield 19, 3) := by decide +kernel
theorem dX8_count_156 : decode cX8_count 156 = .ok (.getfield 133, 3) := by decide +kernel
theorem dX8_count_159 : decode cX8_count 159 = .ok (.iconst 0, 1) := by decide +kernel
theorem dX8_count_160 : decode cX8_count 160 = .ok (.invokevirtual 117, 3) := by decide +kernel
theorem dX8_count_163 : decode cX8_count 163 = .ok (.ireturn, 1) := by decide +kernel
theorem dX8_count_164 : decode cX8_count 164 = .ok (.aload_n 0, 1) := by decide +kernel
theorem dX8_count_165 : decode cX8_count 165 = .ok (.getfield 19, 3) := by decide +kernel
theorem dX8_count_168 : decode cX8_count 168 = .ok (.getfield 133, 3) := by decide +kernel
theorem dX8_count_171 : decode cX8_count 171 = .ok (.iconst 1, 1) := by decide +kernel
theorem dX8_count_172 : decode cX8_count 172 = .ok (.invokevirtual 117, 3) := by decide +kernel
