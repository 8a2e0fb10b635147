set_option maxRecDepth 20000 in
theorem ggL_acts_X8_page : GoodIn wsL_acts wsX8_page := goodIn_r _ [54, 12, 55, 56, 57, 58, 59, 16, 60, 18, 61, 62, 63, 64, 40, 65, 66, 67, 44, 68, 46, 69, 70, 71, 72, 73, 10, 74, 75, 76, 77, 78, 79, 80, 81, 82, 83, 84, 85, 86, 87, 88, 89, 90, 91, 92, 93, 94, 95, 96, 97, 98, 99, 100, 101, 102, 103, 104, 105, 106, 107, 108, 109, 110, 111, 112, 113, 114, 115, 116, 117, 118, 119, 120, 121, 122, 123, 124, 125, 126, 127, 128, 129, 130, 131, 132, 133, 134, 135, 14, 15, 17, 136, 137, 138, 139, 140, 141, 142, 143, 144, 42, 43, 45, 145, 146, 147, 148, 149, 150, 151, 152, 153, 154, 155, 156, 157, 158, 159, 160, 161, 162, 163, 164, 165, 166, 167, 168, 169, 170, 171, 172, 173, 174, 175, 176, 177, 178, 179, 180, 181, 182, 183, 184, 185, 186, 187, 188, 189, 190, 191, 192, 193, 194, 195, 196, 197, 198, 199, 200, 201, 202, 203, 204, 205, 206, 207, 208, 209, 210, 211, 212, 213, 214, 215, 216, 217, 218, 219, 220, 221, 222, 223, 224, 225, 226, 227, 228, 229, 230, 231, 232, 233, 234, 235, 236, 237, 238, 239, 240, 241, 242, 243, 244, 245, 246, 247, 248, 249, 250, 251, 252, 253, 254, 255, 256, 257, 258, 259, 260, 261, 262, 263, 264, 265, 266, 267, 268, 269, 270, 271, 272, 273, 274, 275, 276, 277, 278, 279, 280, 281, 282, 283, 284, 285, 286, 287, 288, 289, 356, 357, 358, 359, 360, 361, 362, 366, 367, 368, 369, 370, 363, 364, 365, 371, 372, 373, 374, 375, 376, 377, 378, 379, 380, 381, 382, 383, 384, 385, 386, 387, 388, 389, 390, 391, 392, 393] (by decide +kernel) (by decide +kernel)
set_option maxRecDepth 20000 in
theorem gL_acts_X8_page : GoodIn wsL_acts (wsV RL 56 RX8 yX8_page wsX8_page) := goodIn_app (goodIn_of _ (by decide +kernel)) ggL_acts_X8_page
set_option maxRecDepth 20000 in
theorem ggL_acts_X8_name : GoodIn wsL_acts wsX8_name := goodIn_r _ [293, 56, 294, 295, 296, 10, 297, 12, 55, 298, 299, 300, 107, 301, 149, 302, 303, 304, 16, 305, 18, 40, 65, 66, 67, 44, 68, 46, 73, 74, 306, 307, 308, 309, 112, 310, 311, 312, 313, 150, 151, 152, 153, 110, 154, 135, 14, 15, 17, 314, 253, 254, 255, 109, 136, 137, 138, 139, 315, 316, 317, 318, 111, 79, 80, 81, 82, 83, 84, 85, 86, 87, 88, 89, 90, 91, 92, 93, 94, 95, 96, 97, 98, 99, 100, 101, 102, 103, 104, 105, 106, 108, 113, 114, 115, 116, 117, 118, 119, 120, 121, 122, 123, 124, 125, 126, 131, 132, 133, 134, 140, 141, 142, 143, 144, 42, 43, 45, 145, 146, 147, 148, 155, 156, 157, 158, 159, 160, 161, 162, 163, 164, 165, 166, 167, 168, 169, 170, 171, 172, 173, 174, 175, 176, 177, 178, 179, 180, 181, 182, 183, 184, 185, 186, 187, 188, 189, 190, 191, 192, 193, 194, 195, 196, 197, 198, 199, 200, 201, 202, 203, 204, 205, 206, 207, 208, 209, 210, 211, 212, 213, 214, 215, 216, 217, 218, 219, 220, 221, 222, 223, 224, 225, 226, 227, 228, 229, 230, 231, 232, 233, 234, 235, 236, 237, 238, 239, 240, 241, 242, 243, 244, 245, 246, 247, 248, 249, 250, 251, 252, 256, 257, 258, 259, 260, 261, 262, 263, 264, 265, 266, 267, 268, 269, 270, 271, 272, 273, 274, 275, 276, 277, 278, 279, 280, 281, 282, 283, 284, 285, 286, 287, 288, 289, 356, 357, 358, 359, 360, 361, 362, 366, 367, 368, 369, 370, 373, 374, 375, 376, 377, 363, 364, 365, 371, 372, 378, 379, 380, 381, 382, 383, 384, 385, 386, 387, 388, 389, 390, 391, 392, 393] (by decide +kernel) (by decide +kernel)
set_option maxRecDepth 20000 in
theorem gL_acts_X8_name : GoodIn wsL_acts (wsV RL 59 RX8 yX8_name wsX8_name) := goodIn_app (goodIn_of _ (by decide +kernel)) ggL_acts_X8_name
set_option maxRecDepth 20000 in
theorem ggL_acts_X8_ending : GoodIn wsL_acts wsX8_ending := goodIn_r _ [322, 56, 294, 295, 296, 10, 297, 12, 55, 298, 299, 300, 107, 301, 149, 302, 303, 304, 16, 305, 18, 40, 65, 66, 67, 44, 68, 46, 73, 74, 306, 307, 308, 309, 112, 310, 311, 312, 313, 150, 151, 152, 153, 110, 154, 135, 14, 15, 17, 314, 253, 254, 255, 109, 136, 137, 138, 139, 315, 316, 317, 318, 111, 79, 80, 81, 82, 83, 84, 85, 86, 87, 88, 89, 90, 91, 92, 93, 94, 95, 96, 97, 98, 99, 100, 101, 102, 103, 104, 105, 106, 108, 113, 114, 115, 116, 117, 118, 119, 120, 121, 122, 123, 124, 125, 126, 131, 132, 133, 134, 140, 141, 142, 143, 144, 42, 43, 45, 145, 146, 147, 148, 155, 156, 157, 158, 159, 160, 161, 162, 163, 164, 165, 166, 167, 168, 169, 170, 171, 172, 173, 174, 175, 176, 177, 178, 179, 180, 181, 182, 183, 184, 185, 186, 187, 188, 189, 190, 191, 192, 193, 194, 195, 196, 197, 198, 199, 200, 201, 202, 203, 204, 205, 206, 207, 208, 209, 210, 211, 212, 213, 214, 215, 216, 217, 218, 219, 220, 221, 222, 223, 224, 225, 226, 227, 228, 229, 230, 231, 232, 233, 234, 235, 236, 237, 238, 239, 240, 241, 242, 243, 244, 245, 246, 247, 248, 249, 250, 251, 252, 256, 257, 258, 259, 260, 261, 262, 263, 264, 265, 266, 267, 268, 269, 270, 271, 272, 273, 274, 275, 276, 277, 278, 279, 280, 281, 282, 283, 284, 285, 286, 287, 288, 289, 356, 357, 358, 359, 360, 361, 362, 366, 367, 368, 369, 370, 373, 374, 375, 376, 377, 363, 364, 365, 371, 372, 378, 379, 380, 381, 382, 383, 384, 385, 386, 387, 388, 389, 390, 391, 392, 393] (by decide +kernel) (by decide +kernel)
set_option maxRecDepth 20000 in
theorem gL_acts_X8_ending : GoodIn wsL_acts (wsV RL 62 RX8 yX8_ending wsX8_ending) := goodIn_app (goodIn_of _ (by decide +kernel)) ggL_acts_X8_ending
set_option maxRecDepth 20000 in
theorem ggL_acts_X8_dropName : GoodIn wsL_acts wsX8_dropName := goodIn_r _ [326, 56, 327, 328, 329, 10, 330, 55, 331, 332, 333, 107, 334, 112, 79, 80, 81, 82, 83, 84, 85, 86, 87, 88, 89, 90, 91, 92, 93, 94, 95, 96, 97, 98, 99, 100, 101, 102, 103, 104, 105, 106, 108, 109, 110, 111, 113, 114, 115, 116, 117, 118, 119, 44, 120, 46, 121, 122, 123, 124, 125, 126, 335, 336, 337, 338, 149, 339, 150, 151, 152, 153, 154, 66, 67, 68, 144, 42, 43, 45, 314, 253, 254, 255, 155, 156, 157, 158, 159, 160, 161, 162, 163, 164, 165, 166, 167, 168, 169, 170, 171, 172, 173, 174, 175, 176, 177, 178, 179, 180, 181, 182, 183, 184, 185, 186, 187, 188, 189, 190, 191, 192, 193, 194, 195, 196, 197, 198, 199, 200, 201, 202, 203, 204, 205, 206, 207, 208, 209, 210, 211, 212, 213, 214, 215, 216, 217, 218, 219, 220, 221, 222, 223, 224, 225, 226, 227, 228, 229, 230, 231, 232, 233, 234, 235, 236, 237, 238, 239, 240, 241, 242, 243, 244, 245, 246, 247, 248, 249, 250, 251, 252, 256, 257, 258, 259, 260, 261, 262, 263, 264, 265, 266, 267, 268, 269, 270, 271, 272, 273, 274, 275, 276, 277, 278, 279, 280, 281, 282, 283, 284, 285, 286, 287, 288, 289, 356, 357, 358, 359, 360, 361, 362, 366, 367, 368, 369, 370, 373, 374, 375, 376, 377, 371, 372, 365, 378, 379, 380, 381, 382, 383, 384, 385, 386, 387, 388, 389, 390, 391, 392, 393] (by decide +kernel) (by decide +kernel)
set_option maxRecDepth 20000 in
theorem gL_acts_X8_dropName : GoodIn wsL_acts (wsV RL 65 RX8 yX8_dropName wsX8_dropName) := goodIn_app (goodIn_of _ (by decide +kernel)) ggL_acts_X8_dropName
set_option maxRecDepth 20000 in
theorem ggL_acts_X8_dropEnding : GoodIn wsL_acts wsX8_dropEnding := goodIn_r _ [343, 56, 327, 328, 329, 10, 330, 55, 331, 332, 333, 107, 334, 112, 79, 80, 81, 82, 83, 84, 85, 86, 87, 88, 89, 90, 91, 92, 93, 94, 95, 96, 97, 98, 99, 100, 101, 102, 103, 104, 105, 106, 108, 109, 110, 111, 113, 114, 115, 116, 117, 118, 119, 44, 120, 46, 121, 122, 123, 124, 125, 126, 335, 336, 337, 338, 149, 339, 150, 151, 152, 153, 154, 66, 67, 68, 144, 42, 43, 45, 314, 253, 254, 255, 155, 156, 157, 158, 159, 160, 161, 162, 163, 164, 165, 166, 167, 168, 169, 170, 171, 172, 173, 174, 175, 176, 177, 178, 179, 180, 181, 182, 183, 184, 185, 186, 187, 188, 189, 190, 191, 192, 193, 194, 195, 196, 197, 198, 199, 200, 201, 202, 203, 204, 205, 206, 207, 208, 209, 210, 211, 212, 213, 214, 215, 216, 217, 218, 219, 220, 221, 222, 223, 224, 225, 226, 227, 228, 229, 230, 231, 232, 233, 234, 235, 236, 237, 238, 239, 240, 241, 242, 243, 244, 245, 246, 247, 248, 249, 250, 251, 252, 256, 257, 258, 259, 260, 261, 262, 263, 264, 265, 266, 267, 268, 269, 270, 271, 272, 273, 274, 275, 276, 277, 278, 279, 280, 281, 282, 283, 284, 285, 286, 287, 288, 289, 356, 357, 358, 359, 360, 361, 362, 366, 367, 368, 369, 370, 373, 374, 375, 376, 377, 371, 372, 365, 378, 379, 380, 381, 382, 383, 384, 385, 386, 387, 388, 389, 390, 391, 392, 393] (by decide +kernel) (by decide +kernel)
set_option maxRecDepth 20000 in
theorem gL_acts_X8_dropEnding : GoodIn wsL_acts (wsV RL 68 RX8 yX8_dropEnding wsX8_dropEnding) := goodIn_app (goodIn_of _ (by decide +kernel)) ggL_acts_X8_dropEnding
set_option maxRecDepth 20000 in
theorem ggL_acts_X8_widen : GoodIn wsL_acts wsX8_widen := goodIn_r _ [347, 56, 55, 348, 73, 10, 74, 198, 66, 67, 44, 68, 46, 79, 80, 81, 82, 83, 84, 85, 86, 87, 88, 89, 90, 91, 92, 93, 94, 95, 96, 97, 98, 99, 100, 101, 102, 103, 104, 105, 106, 107, 108, 109, 110, 111, 112, 113, 114, 115, 116, 117, 118, 119, 120, 121, 122, 123, 124, 125, 126, 349, 42, 43, 45, 155, 156, 157, 158, 159, 160, 161, 162, 163, 164, 165, 166, 167, 168, 169, 170, 171, 172, 173, 174, 175, 176, 177, 178, 179, 180, 181, 182, 183, 184, 185, 186, 187, 188, 189, 190, 191, 149, 154, 192, 193, 194, 195, 196, 197, 199, 200, 201, 202, 203, 204, 205, 206, 207, 208, 209, 210, 211, 212, 213, 214, 215, 216, 217, 218, 219, 220, 221, 222, 223, 224, 225, 226, 227, 228, 229, 230, 231, 232, 233, 234, 235, 236, 237, 238, 239, 240, 241, 242, 243, 244, 245, 246, 247, 248, 249, 250, 251, 151, 152, 153, 252, 253, 254, 255, 256, 257, 258, 259, 260, 261, 262, 263, 264, 265, 266, 267, 268, 269, 270, 271, 272, 273, 274, 275, 276, 277, 278, 279, 280, 281, 282, 283, 284, 285, 286, 287, 288, 356, 357, 358, 359, 360, 361, 362, 366, 367, 368, 369, 370, 365, 371, 372, 373, 374, 375, 376, 377, 378, 379, 380, 381, 382, 383, 384, 385, 386, 387, 388, 389, 390, 391, 392, 393] (by decide +kernel) (by decide +kernel)
set_option maxRecDepth 20000 in
theorem gL_acts_X8_widen : GoodIn wsL_acts (wsV RL 71 RX8 yX8_widen wsX8_widen) := goodIn_app (goodIn_of _ (by decide +kernel)) ggL_acts_X8_widen
set_option maxRecDepth 20000 in
theorem ggL_acts_X8_set : GoodIn wsL_acts wsX8_set := goodIn_r _ [353, 354, 355, 56, 55, 198, 66, 67, 44, 68, 46, 79, 80, 81, 82, 83, 84, 85, 86, 87, 88, 89, 90, 91, 92, 93, 94, 95, 96, 97, 98, 99, 100, 101, 102, 103, 104, 105, 106, 107, 108, 109, 110, 111, 112, 113, 114, 115, 116, 117, 118, 119, 120, 121, 122, 123, 124, 125, 126, 349, 42, 43, 45, 155, 156, 157, 10, 158, 159, 160, 161, 162, 163, 164, 165, 166, 167, 168, 169, 170, 171, 172, 173, 174, 175, 176, 177, 178, 179, 180, 181, 182, 183, 184, 185, 186, 187, 188, 189, 190, 191, 149, 154, 192, 193, 194, 195, 196, 197, 199, 200, 201, 202, 203, 204, 205, 206, 207, 208, 209, 210, 211, 212, 213, 214, 215, 216, 217, 218, 219, 220, 221, 222, 223, 224, 225, 226, 227, 228, 229, 230, 231, 232, 233, 234, 235, 236, 237, 238, 239, 240, 241, 242, 243, 244, 245, 246, 247, 248, 249, 250, 251, 151, 152, 153, 252, 253, 254, 255, 256, 257, 258, 259, 260, 261, 262, 263, 264, 265, 266, 267, 268, 269, 270, 271, 272, 273, 274, 275, 276, 277, 278, 279, 280, 281, 282, 283, 284, 285, 286, 287, 288, 356, 357, 358, 359, 360, 361, 362, 366, 367, 368, 369, 370, 365, 371, 372, 373, 374, 375, 376, 377, 378, 379, 380, 381, 382, 383, 384, 385, 386, 387, 388, 389, 390, 391, 392, 393] (by decide +kernel) (by decide +kernel)
set_option maxRecDepth 20000 in
theorem gL_acts_X8_set : GoodIn wsL_acts (wsV RL 74 RX8 yX8_set wsX8_set) := goodIn_app (goodIn_of _ (by decide +kernel)) ggL_acts_X8_set
theorem dL_acts_0 : decode cL_acts 0 = .ok (.iload 4, 2) := by decide +kernel
theorem dL_acts_2 : decode cL_acts 2 = .ok (.iconst 5, 1) := by decide +kernel
theorem dL_acts_3 : decode cL_acts 3 = .ok (.ishr, 1) := by decide +kernel
theorem dL_acts_4 : decode cL_acts 4 = .ok (.ldc 43, 2) := by decide +kernel
theorem dL_acts_6 : decode cL_acts 6 = .ok (.invokestatic 39, 3) := by decide +kernel
theorem dL_acts_9 : decode cL_acts 9 = .ok (.istore 5, 2) := by decide +kernel
theorem dL_acts_11 : decode cL_acts 11 = .ok (.aload_n 0, 1) := by decide +kernel
theorem dL_acts_12 : decode cL_acts 12 = .ok (.invokevirtual 44, 3) := by decide +kernel
theorem dL_acts_15 : decode cL_acts 15 = .ok (.ifCond .lt 7, 3) := by decide +kernel
theorem dL_acts_18 : decode cL_acts 18 = .ok (.iconst 1, 1) := by decide +kernel
theorem dL_acts_19 : decode cL_acts 19 = .ok (.goto 4, 3) := by decide +kernel
theorem dL_acts_22 : decode cL_acts 22 = .ok (.iconst 0, 1) := by decide +kernel
theorem dL_acts_23 : decode cL_acts 23 = .ok (.istore 6, 2) := by decide +kernel
theorem dL_acts_25 : decode cL_acts 25 = .ok (.iload 4, 2) := by decide +kernel
theorem dL_acts_27 : decode cL_acts 27 = .ok (.bipush 18, 2) := by decide +kernel
theorem dL_acts_29 : decode cL_acts 29 = .ok (.invokestatic 39, 3) := by decide +kernel
theorem dL_acts_32 : decode cL_acts 32 = .ok (.tableswitch 872 0 12 #[68, 68, 68, 228, 228, 228, 228, 404, 404, 577, 688, 794, 794], 68) := by decide +kernel
theorem dL_acts_100 : decode cL_acts 100 = .ok (.aload_n 1, 1) := by decide +kernel
theorem dL_acts_101 : decode cL_acts 101 = .ok (.iconst 5, 1) := by decide +kernel
theorem dL_acts_102 : decode cL_acts 102 = .ok (.iload 5, 2) := by decide +kernel
theorem dL_acts_104 : decode cL_acts 104 = .ok (.bipush 9, 2) := by decide +kernel
theorem dL_acts_106 : decode cL_acts 106 = .ok (.irem, 1) := by decide +kernel
theorem dL_acts_107 : decode cL_acts 107 = .ok (.iastore, 1) := by decide +kernel
theorem dL_acts_108 : decode cL_acts 108 = .ok (.iconst 0, 1) := by decide +kernel
theorem dL_acts_109 : decode cL_acts 109 = .ok (.istore 7, 2) := by decide +kernel
theorem dL_acts_111 : decode cL_acts 111 = .ok (.iload 7, 2) := by decide +kernel
theorem dL_acts_113 : decode cL_acts 113 = .ok (.aload_n 1, 1) := by decide +kernel
theorem dL_acts_114 : decode cL_acts 114 = .ok (.iconst 5, 1) := by decide +kernel
theorem dL_acts_115 : decode cL_acts 115 = .ok (.iaload, 1) := by decide +kernel
theorem dL_acts_116 : decode cL_acts 116 = .ok (.if_icmp .ge 123, 3) := by decide +kernel
theorem dL_acts_119 : decode cL_acts 119 = .ok (.iload 5, 2) := by decide +kernel
theorem dL_acts_121 : decode cL_acts 121 = .ok (.bipush 9, 2) := by decide +kernel
theorem dL_acts_123 : decode cL_acts 123 = .ok (.idiv, 1) := by decide +kernel
theorem dL_acts_124 : decode cL_acts 124 = .ok (.iconst 5, 1) := by decide +kernel
theorem dL_acts_125 : decode cL_acts 125 = .ok (.iload 7, 2) := by decide +kernel
theorem dL_acts_127 : decode cL_acts 127 = .ok (.imul, 1) := by decide +kernel
theorem dL_acts_128 : decode cL_acts 128 = .ok (.iadd, 1) := by decide +kernel
theorem dL_acts_129 : decode cL_acts 129 = .ok (.bipush 12, 2) := by decide +kernel
theorem dL_acts_131 : decode cL_acts 131 = .ok (.irem, 1) := by decide +kernel
theorem dL_acts_132 : decode cL_acts 132 = .ok (.istore 8, 2) := by decide +kernel
theorem dL_acts_134 : decode cL_acts 134 = .ok (.aload_n 1, 1) := by decide +kernel
theorem dL_acts_135 : decode cL_acts 135 = .ok (.aload_n 3, 1) := by decide +kernel
theorem dL_acts_136 : decode cL_acts 136 = .ok (.iload 8, 2) := by decide +kernel
theorem dL_acts_138 : decode cL_acts 138 = .ok (.invokestatic 17, 3) := by decide +kernel
theorem dL_acts_141 : decode cL_acts 141 = .ok (.lstore 9, 2) := by decide +kernel
theorem dL_acts_143 : decode cL_acts 143 = .ok (.aload_n 3, 1) := by decide +kernel
theorem dL_acts_144 : decode cL_acts 144 = .ok (.iload 7, 2) := by decide +kernel
theorem dL_acts_146 : decode cL_acts 146 = .ok (.lload 9, 2) := by decide +kernel
theorem dL_acts_148 : decode cL_acts 148 = .ok (.lconst 0, 1) := by decide +kernel
theorem dL_acts_149 : decode cL_acts 149 = .ok (.lcmp, 1) := by decide +kernel
theorem dL_acts_150 : decode cL_acts 150 = .ok (.ifCond .le 18, 3) := by decide +kernel
theorem dL_acts_153 : decode cL_acts 153 = .ok (.iload 5, 2) := by decide +kernel
theorem dL_acts_155 : decode cL_acts 155 = .ok (.iload 7, 2) := by decide +kernel
theorem dL_acts_157 : decode cL_acts 157 = .ok (.ishr, 1) := by decide +kernel
theorem dL_acts_158 : decode cL_acts 158 = .ok (.iconst 3, 1) := by decide +kernel
theorem dL_acts_159 : decode cL_acts 159 = .ok (.iand, 1) := by decide +kernel
theorem dL_acts_160 : decode cL_acts 160 = .ok (.ifCond .le 8, 3) := by decide +kernel
theorem dL_acts_163 : decode cL_acts 163 = .ok (.lload 9, 2) := by decide +kernel
theorem dL_acts_165 : decode cL_acts 165 = .ok (.goto 30, 3) := by decide +kernel
theorem dL_acts_168 : decode cL_acts 168 = .ok (.iload 5, 2) := by decide +kernel
theorem dL_acts_170 : decode cL_acts 170 = .ok (.bipush 7, 2) := by decide +kernel
theorem dL_acts_172 : decode cL_acts 172 = .ok (.idiv, 1) := by decide +kernel
theorem dL_acts_173 : decode cL_acts 173 = .ok (.sipush 1237, 3) := by decide +kernel
theorem dL_acts_176 : decode cL_acts 176 = .ok (.iload 7, 2) := by decide +kernel
theorem dL_acts_178 : decode cL_acts 178 = .ok (.imul, 1) := by decide +kernel
theorem dL_acts_179 : decode cL_acts 179 = .ok (.iadd, 1) := by decide +kernel
theorem dL_acts_180 : decode cL_acts 180 = .ok (.iconst 1, 1) := by decide +kernel
theorem dL_acts_181 : decode cL_acts 181 = .ok (.iload 5, 2) := by decide +kernel
theorem dL_acts_183 : decode cL_acts 183 = .ok (.bipush 11, 2) := by decide +kernel
theorem dL_acts_185 : decode cL_acts 185 = .ok (.idiv, 1) := by decide +kernel
theorem dL_acts_186 : decode cL_acts 186 = .ok (.iload 7, 2) := by decide +kernel
theorem dL_acts_188 : decode cL_acts 188 = .ok (.iadd, 1) := by decide +kernel
theorem dL_acts_189 : decode cL_acts 189 = .ok (.iconst 4, 1) := by decide +kernel
theorem dL_acts_190 : decode cL_acts 190 = .ok (.irem, 1) := by decide +kernel
theorem dL_acts_191 : decode cL_acts 191 = .ok (.iadd, 1) := by decide +kernel
theorem dL_acts_192 : decode cL_acts 192 = .ok (.invokestatic 48, 3) := by decide +kernel
theorem dL_acts_195 : decode cL_acts 195 = .ok (.lastore, 1) := by decide +kernel
theorem dL_acts_196 : decode cL_acts 196 = .ok (.iload 6, 2) := by decide +kernel
theorem dL_acts_198 : decode cL_acts 198 = .ok (.ifCond .eq 32, 3) := by decide +kernel
theorem dL_acts_201 : decode cL_acts 201 = .ok (.iload 7, 2) := by decide +kernel
theorem dL_acts_203 : decode cL_acts 203 = .ok (.ifCond .eq 12, 3) := by decide +kernel
theorem dL_acts_206 : decode cL_acts 206 = .ok (.aload_n 0, 1) := by decide +kernel
theorem dL_acts_207 : decode cL_acts 207 = .ok (.bipush 32, 2) := by decide +kernel
theorem dL_acts_209 : decode cL_acts 209 = .ok (.invokevirtual 33, 3) := by decide +kernel
theorem dL_acts_212 : decode cL_acts 212 = .ok (.ifCond .le 18, 3) := by decide +kernel
theorem dL_acts_215 : decode cL_acts 215 = .ok (.aload_n 0, 1) := by decide +kernel
theorem dL_acts_216 : decode cL_acts 216 = .ok (.aload_n 3, 1) := by decide +kernel
theorem dL_acts_217 : decode cL_acts 217 = .ok (.iload 7, 2) := by decide +kernel
theorem dL_acts_219 : decode cL_acts 219 = .ok (.laload, 1) := by decide +kernel
theorem dL_acts_220 : decode cL_acts 220 = .ok (.invokestatic 52, 3) := by decide +kernel
theorem dL_acts_223 : decode cL_acts 223 = .ok (.ifCond .eq 7, 3) := by decide +kernel
theorem dL_acts_226 : decode cL_acts 226 = .ok (.iconst 1, 1) := by decide +kernel
theorem dL_acts_227 : decode cL_acts 227 = .ok (.goto 4, 3) := by decide +kernel
theorem dL_acts_230 : decode cL_acts 230 = .ok (.iconst 0, 1) := by decide +kernel
theorem dL_acts_231 : decode cL_acts 231 = .ok (.istore 6, 2) := by decide +kernel
theorem dL_acts_233 : decode cL_acts 233 = .ok (.iinc 7 1, 3) := by decide +kernel
theorem dL_acts_236 : decode cL_acts 236 = .ok (.goto (-125), 3) := by decide +kernel
theorem dL_acts_239 : decode cL_acts 239 = .ok (.iload 6, 2) := by decide +kernel
theorem dL_acts_241 : decode cL_acts 241 = .ok (.ifCond .eq 17, 3) := by decide +kernel
theorem dL_acts_244 : decode cL_acts 244 = .ok (.aload_n 0, 1) := by decide +kernel
theorem dL_acts_245 : decode cL_acts 245 = .ok (.invokevirtual 56, 3) := by decide +kernel
theorem dL_acts_248 : decode cL_acts 248 = .ok (.aload_n 1, 1) := by decide +kernel
theorem dL_acts_249 : decode cL_acts 249 = .ok (.iconst 5, 1) := by decide +kernel
theorem dL_acts_250 : decode cL_acts 250 = .ok (.iaload, 1) := by decide +kernel
theorem dL_acts_251 : decode cL_acts 251 = .ok (.if_icmp .ne 7, 3) := by decide +kernel
theorem dL_acts_254 : decode cL_acts 254 = .ok (.iconst 1, 1) := by decide +kernel
theorem dL_acts_255 : decode cL_acts 255 = .ok (.goto 4, 3) := by decide +kernel
theorem dL_acts_258 : decode cL_acts 258 = .ok (.iconst 0, 1) := by decide +kernel
theorem dL_acts_259 : decode cL_acts 259 = .ok (.ireturn, 1) := by decide +kernel
theorem dL_acts_260 : decode cL_acts 260 = .ok (.iload 5, 2) := by decide +kernel
theorem dL_acts_262 : decode cL_acts 262 = .ok (.iconst 1, 1) := by decide +kernel
theorem dL_acts_263 : decode cL_acts 263 = .ok (.iload 5, 2) := by decide +kernel
theorem dL_acts_265 : decode cL_acts 265 = .ok (.bipush 64, 2) := by decide +kernel
theorem dL_acts_267 : decode cL_acts 267 = .ok (.idiv, 1) := by decide +kernel
theorem dL_acts_268 : decode cL_acts 268 = .ok (.iconst 3, 1) := by decide +kernel
theorem dL_acts_269 : decode cL_acts 269 = .ok (.irem, 1) := by decide +kernel
theorem dL_acts_270 : decode cL_acts 270 = .ok (.iadd, 1) := by decide +kernel
theorem dL_acts_271 : decode cL_acts 271 = .ok (.invokestatic 48, 3) := by decide +kernel
theorem dL_acts_274 : decode cL_acts 274 = .ok (.lstore 7, 2) := by decide +kernel
theorem dL_acts_276 : decode cL_acts 276 = .ok (.iconst 0, 1) := by decide +kernel
theorem dL_acts_277 : decode cL_acts 277 = .ok (.istore 9, 2) := by decide +kernel
theorem dL_acts_279 : decode cL_acts 279 = .ok (.iconst 0, 1) := by decide +kernel
theorem dL_acts_280 : decode cL_acts 280 = .ok (.istore 10, 2) := by decide +kernel
theorem dL_acts_282 : decode cL_acts 282 = .ok (.iload 10, 2) := by decide +kernel
theorem dL_acts_284 : decode cL_acts 284 = .ok (.aload_n 1, 1) := by decide +kernel
theorem dL_acts_285 : decode cL_acts 285 = .ok (.bipush 6, 2) := by decide +kernel
theorem dL_acts_287 : decode cL_acts 287 = .ok (.iaload, 1) := by decide +kernel
theorem dL_acts_288 : decode cL_acts 288 = .ok (.if_icmp .ge 34, 3) := by decide +kernel
theorem dL_acts_291 : decode cL_acts 291 = .ok (.iload 9, 2) := by decide +kernel
theorem dL_acts_293 : decode cL_acts 293 = .ok (.ifCond .ne 16, 3) := by decide +kernel
theorem dL_acts_296 : decode cL_acts 296 = .ok (.aload_n 3, 1) := by decide +kernel
theorem dL_acts_297 : decode cL_acts 297 = .ok (.bipush 8, 2) := by decide +kernel
theorem dL_acts_299 : decode cL_acts 299 = .ok (.iload 10, 2) := by decide +kernel
theorem dL_acts_301 : decode cL_acts 301 = .ok (.iadd, 1) := by decide +kernel
theorem dL_acts_302 : decode cL_acts 302 = .ok (.laload, 1) := by decide +kernel
theorem dL_acts_303 : decode cL_acts 303 = .ok (.lload 7, 2) := by decide +kernel
theorem dL_acts_305 : decode cL_acts 305 = .ok (.lcmp, 1) := by decide +kernel
theorem dL_acts_306 : decode cL_acts 306 = .ok (.ifCond .ne 7, 3) := by decide +kernel
theorem dL_acts_309 : decode cL_acts 309 = .ok (.iconst 1, 1) := by decide +kernel
theorem dL_acts_310 : decode cL_acts 310 = .ok (.goto 4, 3) := by decide +kernel
theorem dL_acts_313 : decode cL_acts 313 = .ok (.iconst 0, 1) := by decide +kernel
theorem dL_acts_314 : decode cL_acts 314 = .ok (.istore 9, 2) := by decide +kernel
theorem dL_acts_316 : decode cL_acts 316 = .ok (.iinc 10 1, 3) := by decide +kernel
theorem dL_acts_319 : decode cL_acts 319 = .ok (.goto (-37), 3) := by decide +kernel
theorem dL_acts_322 : decode cL_acts 322 = .ok (.aload_n 1, 1) := by decide +kernel
theorem dL_acts_323 : decode cL_acts 323 = .ok (.bipush 6, 2) := by decide +kernel
theorem dL_acts_325 : decode cL_acts 325 = .ok (.iaload, 1) := by decide +kernel
theorem dL_acts_326 : decode cL_acts 326 = .ok (.iconst 4, 1) := by decide +kernel
theorem dL_acts_327 : decode cL_acts 327 = .ok (.if_icmp .ne 23, 3) := by decide +kernel
theorem dL_acts_330 : decode cL_acts 330 = .ok (.iload 6, 2) := by decide +kernel
theorem dL_acts_332 : decode cL_acts 332 = .ok (.ifCond .eq 16, 3) := by decide +kernel
theorem dL_acts_335 : decode cL_acts 335 = .ok (.aload_n 0, 1) := by decide +kernel
theorem dL_acts_336 : decode cL_acts 336 = .ok (.invokevirtual 59, 3) := by decide +kernel
theorem dL_acts_339 : decode cL_acts 339 = .ok (.bipush (-12), 2) := by decide +kernel
theorem dL_acts_341 : decode cL_acts 341 = .ok (.if_icmp .ne 7, 3) := by decide +kernel
theorem dL_acts_344 : decode cL_acts 344 = .ok (.iconst 1, 1) := by decide +kernel
theorem dL_acts_345 : decode cL_acts 345 = .ok (.goto 4, 3) := by decide +kernel
theorem dL_acts_348 : decode cL_acts 348 = .ok (.iconst 0, 1) := by decide +kernel
theorem dL_acts_349 : decode cL_acts 349 = .ok (.ireturn, 1) := by decide +kernel
theorem dL_acts_350 : decode cL_acts 350 = .ok (.iload 9, 2) := by decide +kernel
theorem dL_acts_352 : decode cL_acts 352 = .ok (.ifCond .eq 32, 3) := by decide +kernel
theorem dL_acts_355 : decode cL_acts 355 = .ok (.iload 6, 2) := by decide +kernel
theorem dL_acts_357 : decode cL_acts 357 = .ok (.ifCond .eq 25, 3) := by decide +kernel
theorem dL_acts_360 : decode cL_acts 360 = .ok (.aload_n 0, 1) := by decide +kernel
theorem dL_acts_361 : decode cL_acts 361 = .ok (.lload 7, 2) := by decide +kernel
theorem dL_acts_363 : decode cL_acts 363 = .ok (.invokestatic 52, 3) := by decide +kernel
theorem dL_acts_366 : decode cL_acts 366 = .ok (.ifCond .eq 16, 3) := by decide +kernel
theorem dL_acts_369 : decode cL_acts 369 = .ok (.aload_n 0, 1) := by decide +kernel
theorem dL_acts_370 : decode cL_acts 370 = .ok (.invokevirtual 59, 3) := by decide +kernel
theorem dL_acts_373 : decode cL_acts 373 = .ok (.bipush (-12), 2) := by decide +kernel
theorem dL_acts_375 : decode cL_acts 375 = .ok (.if_icmp .ne 7, 3) := by decide +kernel
theorem dL_acts_378 : decode cL_acts 378 = .ok (.iconst 1, 1) := by decide +kernel
theorem dL_acts_379 : decode cL_acts 379 = .ok (.goto 4, 3) := by decide +kernel
theorem dL_acts_382 : decode cL_acts 382 = .ok (.iconst 0, 1) := by decide +kernel
theorem dL_acts_383 : decode cL_acts 383 = .ok (.ireturn, 1) := by decide +kernel
theorem dL_acts_384 : decode cL_acts 384 = .ok (.aload_n 3, 1) := by decide +kernel
theorem dL_acts_385 : decode cL_acts 385 = .ok (.bipush 8, 2) := by decide +kernel
theorem dL_acts_387 : decode cL_acts 387 = .ok (.aload_n 1, 1) := by decide +kernel
theorem dL_acts_388 : decode cL_acts 388 = .ok (.bipush 6, 2) := by decide +kernel
theorem dL_acts_390 : decode cL_acts 390 = .ok (.iaload, 1) := by decide +kernel
theorem dL_acts_391 : decode cL_acts 391 = .ok (.iadd, 1) := by decide +kernel
theorem dL_acts_392 : decode cL_acts 392 = .ok (.lload 7, 2) := by decide +kernel
theorem dL_acts_394 : decode cL_acts 394 = .ok (.lastore, 1) := by decide +kernel
theorem dL_acts_395 : decode cL_acts 395 = .ok (.aload_n 1, 1) := by decide +kernel
theorem dL_acts_396 : decode cL_acts 396 = .ok (.bipush 6, 2) := by decide +kernel
theorem dL_acts_398 : decode cL_acts 398 = .ok (.dup2, 1) := by decide +kernel
theorem dL_acts_399 : decode cL_acts 399 = .ok (.iaload, 1) := by decide +kernel
theorem dL_acts_400 : decode cL_acts 400 = .ok (.iconst 1, 1) := by decide +kernel
theorem dL_acts_401 : decode cL_acts 401 = .ok (.iadd, 1) := by decide +kernel
theorem dL_acts_402 : decode cL_acts 402 = .ok (.iastore, 1) := by decide +kernel
theorem dL_acts_403 : decode cL_acts 403 = .ok (.iload 6, 2) := by decide +kernel
theorem dL_acts_405 : decode cL_acts 405 = .ok (.ifCond .eq 29, 3) := by decide +kernel
theorem dL_acts_408 : decode cL_acts 408 = .ok (.aload_n 0, 1) := by decide +kernel
theorem dL_acts_409 : decode cL_acts 409 = .ok (.lload 7, 2) := by decide +kernel
theorem dL_acts_411 : decode cL_acts 411 = .ok (.invokestatic 52, 3) := by decide +kernel
theorem dL_acts_414 : decode cL_acts 414 = .ok (.ifCond .eq 20, 3) := by decide +kernel
theorem dL_acts_417 : decode cL_acts 417 = .ok (.aload_n 0, 1) := by decide +kernel
theorem dL_acts_418 : decode cL_acts 418 = .ok (.invokevirtual 59, 3) := by decide +kernel
theorem dL_acts_421 : decode cL_acts 421 = .ok (.aload_n 1, 1) := by decide +kernel
theorem dL_acts_422 : decode cL_acts 422 = .ok (.bipush 6, 2) := by decide +kernel
theorem dL_acts_424 : decode cL_acts 424 = .ok (.iaload, 1) := by decide +kernel
theorem dL_acts_425 : decode cL_acts 425 = .ok (.iconst 1, 1) := by decide +kernel
theorem dL_acts_426 : decode cL_acts 426 = .ok (.isub, 1) := by decide +kernel
theorem dL_acts_427 : decode cL_acts 427 = .ok (.if_icmp .ne 7, 3) := by decide +kernel
theorem dL_acts_430 : decode cL_acts 430 = .ok (.iconst 1, 1) := by decide +kernel
theorem dL_acts_431 : decode cL_acts 431 = .ok (.goto 4, 3) := by decide +kernel
theorem dL_acts_434 : decode cL_acts 434 = .ok (.iconst 0, 1) := by decide +kernel
theorem dL_acts_435 : decode cL_acts 435 = .ok (.ireturn, 1) := by decide +kernel
theorem dL_acts_436 : decode cL_acts 436 = .ok (.iload 5, 2) := by decide +kernel
theorem dL_acts_438 : decode cL_acts 438 = .ok (.iconst 1, 1) := by decide +kernel
theorem dL_acts_439 : decode cL_acts 439 = .ok (.iload 5, 2) := by decide +kernel
theorem dL_acts_441 : decode cL_acts 441 = .ok (.bipush 64, 2) := by decide +kernel
theorem dL_acts_443 : decode cL_acts 443 = .ok (.idiv, 1) := by decide +kernel
theorem dL_acts_444 : decode cL_acts 444 = .ok (.iconst 2, 1) := by decide +kernel
theorem dL_acts_445 : decode cL_acts 445 = .ok (.irem, 1) := by decide +kernel
theorem dL_acts_446 : decode cL_acts 446 = .ok (.iadd, 1) := by decide +kernel
theorem dL_acts_447 : decode cL_acts 447 = .ok (.invokestatic 48, 3) := by decide +kernel
theorem dL_acts_450 : decode cL_acts 450 = .ok (.lstore 10, 2) := by decide +kernel
theorem dL_acts_452 : decode cL_acts 452 = .ok (.aload_n 1, 1) := by decide +kernel
theorem dL_acts_453 : decode cL_acts 453 = .ok (.bipush 7, 2) := by decide +kernel
theorem dL_acts_455 : decode cL_acts 455 = .ok (.iaload, 1) := by decide +kernel
theorem dL_acts_456 : decode cL_acts 456 = .ok (.ifCond .le 13, 3) := by decide +kernel
theorem dL_acts_459 : decode cL_acts 459 = .ok (.aload_n 3, 1) := by decide +kernel
theorem dL_acts_460 : decode cL_acts 460 = .ok (.bipush 12, 2) := by decide +kernel
theorem dL_acts_462 : decode cL_acts 462 = .ok (.laload, 1) := by decide +kernel
theorem dL_acts_463 : decode cL_acts 463 = .ok (.lload 10, 2) := by decide +kernel
theorem dL_acts_465 : decode cL_acts 465 = .ok (.lcmp, 1) := by decide +kernel
theorem dL_acts_466 : decode cL_acts 466 = .ok (.ifCond .eq 21, 3) := by decide +kernel
theorem dL_acts_469 : decode cL_acts 469 = .ok (.aload_n 1, 1) := by decide +kernel
theorem dL_acts_470 : decode cL_acts 470 = .ok (.bipush 7, 2) := by decide +kernel
theorem dL_acts_472 : decode cL_acts 472 = .ok (.iaload, 1) := by decide +kernel
theorem dL_acts_473 : decode cL_acts 473 = .ok (.iconst 1, 1) := by decide +kernel
theorem dL_acts_474 : decode cL_acts 474 = .ok (.if_icmp .le 17, 3) := by decide +kernel
theorem dL_acts_477 : decode cL_acts 477 = .ok (.aload_n 3, 1) := by decide +kernel
theorem dL_acts_478 : decode cL_acts 478 = .ok (.bipush 13, 2) := by decide +kernel
theorem dL_acts_480 : decode cL_acts 480 = .ok (.laload, 1) := by decide +kernel
theorem dL_acts_481 : decode cL_acts 481 = .ok (.lload 10, 2) := by decide +kernel
theorem dL_acts_483 : decode cL_acts 483 = .ok (.lcmp, 1) := by decide +kernel
theorem dL_acts_484 : decode cL_acts 484 = .ok (.ifCond .ne 7, 3) := by decide +kernel
theorem dL_acts_487 : decode cL_acts 487 = .ok (.iconst 1, 1) := by decide +kernel
theorem dL_acts_488 : decode cL_acts 488 = .ok (.goto 4, 3) := by decide +kernel
theorem dL_acts_491 : decode cL_acts 491 = .ok (.iconst 0, 1) := by decide +kernel
theorem dL_acts_492 : decode cL_acts 492 = .ok (.istore 12, 2) := by decide +kernel
theorem dL_acts_494 : decode cL_acts 494 = .ok (.iload 12, 2) := by decide +kernel
theorem dL_acts_496 : decode cL_acts 496 = .ok (.ifCond .ne 11, 3) := by decide +kernel
theorem dL_acts_499 : decode cL_acts 499 = .ok (.aload_n 1, 1) := by decide +kernel
theorem dL_acts_500 : decode cL_acts 500 = .ok (.bipush 7, 2) := by decide +kernel
theorem dL_acts_502 : decode cL_acts 502 = .ok (.iaload, 1) := by decide +kernel
theorem dL_acts_503 : decode cL_acts 503 = .ok (.iconst 2, 1) := by decide +kernel
theorem dL_acts_504 : decode cL_acts 504 = .ok (.if_icmp .ne 53, 3) := by decide +kernel
theorem dL_acts_507 : decode cL_acts 507 = .ok (.iload 6, 2) := by decide +kernel
theorem dL_acts_509 : decode cL_acts 509 = .ok (.ifCond .eq 46, 3) := by decide +kernel
theorem dL_acts_512 : decode cL_acts 512 = .ok (.aload_n 1, 1) := by decide +kernel
theorem dL_acts_513 : decode cL_acts 513 = .ok (.bipush 7, 2) := by decide +kernel
theorem dL_acts_515 : decode cL_acts 515 = .ok (.iaload, 1) := by decide +kernel
theorem dL_acts_516 : decode cL_acts 516 = .ok (.iconst 2, 1) := by decide +kernel
theorem dL_acts_517 : decode cL_acts 517 = .ok (.if_icmp .ne 16, 3) := by decide +kernel
theorem dL_acts_520 : decode cL_acts 520 = .ok (.aload_n 0, 1) := by decide +kernel
theorem dL_acts_521 : decode cL_acts 521 = .ok (.bipush 65, 2) := by decide +kernel
theorem dL_acts_523 : decode cL_acts 523 = .ok (.invokevirtual 33, 3) := by decide +kernel
theorem dL_acts_526 : decode cL_acts 526 = .ok (.iconst 1, 1) := by decide +kernel
theorem dL_acts_527 : decode cL_acts 527 = .ok (.if_icmp .ne 28, 3) := by decide +kernel
theorem dL_acts_530 : decode cL_acts 530 = .ok (.goto 12, 3) := by decide +kernel
theorem dL_acts_533 : decode cL_acts 533 = .ok (.aload_n 0, 1) := by decide +kernel
theorem dL_acts_534 : decode cL_acts 534 = .ok (.lload 10, 2) := by decide +kernel
theorem dL_acts_536 : decode cL_acts 536 = .ok (.invokestatic 52, 3) := by decide +kernel
theorem dL_acts_539 : decode cL_acts 539 = .ok (.ifCond .eq 16, 3) := by decide +kernel
theorem dL_acts_542 : decode cL_acts 542 = .ok (.aload_n 0, 1) := by decide +kernel
theorem dL_acts_543 : decode cL_acts 543 = .ok (.invokevirtual 62, 3) := by decide +kernel
theorem dL_acts_546 : decode cL_acts 546 = .ok (.bipush (-12), 2) := by decide +kernel
theorem dL_acts_548 : decode cL_acts 548 = .ok (.if_icmp .ne 7, 3) := by decide +kernel
theorem dL_acts_551 : decode cL_acts 551 = .ok (.iconst 1, 1) := by decide +kernel
theorem dL_acts_552 : decode cL_acts 552 = .ok (.goto 4, 3) := by decide +kernel
theorem dL_acts_555 : decode cL_acts 555 = .ok (.iconst 0, 1) := by decide +kernel
theorem dL_acts_556 : decode cL_acts 556 = .ok (.ireturn, 1) := by decide +kernel
theorem dL_acts_557 : decode cL_acts 557 = .ok (.aload_n 3, 1) := by decide +kernel
theorem dL_acts_558 : decode cL_acts 558 = .ok (.bipush 12, 2) := by decide +kernel
theorem dL_acts_560 : decode cL_acts 560 = .ok (.aload_n 1, 1) := by decide +kernel
theorem dL_acts_561 : decode cL_acts 561 = .ok (.bipush 7, 2) := by decide +kernel
theorem dL_acts_563 : decode cL_acts 563 = .ok (.iaload, 1) := by decide +kernel
theorem dL_acts_564 : decode cL_acts 564 = .ok (.iadd, 1) := by decide +kernel
