theorem dX8_count_175 : decode cX8_count 175 = .ok (.ireturn, 1) := by decide +kernel
theorem dX8_count_176 : decode cX8_count 176 = .ok (.aload_n 0, 1) := by decide +kernel
theorem dX8_count_177 : decode cX8_count 177 = .ok (.getfield 19, 3) := by decide +kernel
theorem dX8_count_180 : decode cX8_count 180 = .ok (.getfield 133, 3) := by decide +kernel
theorem dX8_count_183 : decode cX8_count 183 = .ok (.iconst 2, 1) := by decide +kernel
theorem dX8_count_184 : decode cX8_count 184 = .ok (.invokevirtual 117, 3) := by decide +kernel
theorem dX8_count_187 : decode cX8_count 187 = .ok (.ireturn, 1) := by decide +kernel
theorem dX8_count_188 : decode cX8_count 188 = .ok (.aload_n 0, 1) := by decide +kernel
theorem dX8_count_189 : decode cX8_count 189 = .ok (.getfield 19, 3) := by decide +kernel
theorem dX8_count_192 : decode cX8_count 192 = .ok (.getfield 133, 3) := by decide +kernel
theorem dX8_count_195 : decode cX8_count 195 = .ok (.iconst 3, 1) := by decide +kernel
theorem dX8_count_196 : decode cX8_count 196 = .ok (.invokevirtual 117, 3) := by decide +kernel
theorem dX8_count_199 : decode cX8_count 199 = .ok (.ireturn, 1) := by decide +kernel
theorem dX8_count_200 : decode cX8_count 200 = .ok (.aload_n 0, 1) := by decide +kernel
theorem dX8_count_201 : decode cX8_count 201 = .ok (.getfield 19, 3) := by decide +kernel
theorem dX8_count_204 : decode cX8_count 204 = .ok (.getfield 133, 3) := by decide +kernel
theorem dX8_count_207 : decode cX8_count 207 = .ok (.iconst 4, 1) := by decide +kernel
theorem dX8_count_208 : decode cX8_count 208 = .ok (.invokevirtual 117, 3) := by decide +kernel
theorem dX8_count_211 : decode cX8_count 211 = .ok (.ireturn, 1) := by decide +kernel
theorem dX8_count_212 : decode cX8_count 212 = .ok (.aload_n 0, 1) := by decide +kernel
theorem dX8_count_213 : decode cX8_count 213 = .ok (.getfield 54, 3) := by decide +kernel
theorem dX8_count_216 : decode cX8_count 216 = .ok (.aload_n 0, 1) := by decide +kernel
theorem dX8_count_217 : decode cX8_count 217 = .ok (.getfield 42, 3) := by decide +kernel
theorem dX8_count_220 : decode cX8_count 220 = .ok (.invokevirtual 144, 3) := by decide +kernel
theorem dX8_count_223 : decode cX8_count 223 = .ok (.ireturn, 1) := by decide +kernel
theorem dX8_count_224 : decode cX8_count 224 = .ok (.aload_n 0, 1) := by decide +kernel
theorem dX8_count_225 : decode cX8_count 225 = .ok (.getfield 54, 3) := by decide +kernel
theorem dX8_count_228 : decode cX8_count 228 = .ok (.aload_n 0, 1) := by decide +kernel
theorem dX8_count_229 : decode cX8_count 229 = .ok (.getfield 42, 3) := by decide +kernel
theorem dX8_count_232 : decode cX8_count 232 = .ok (.invokevirtual 148, 3) := by decide +kernel
theorem dX8_count_235 : decode cX8_count 235 = .ok (.ireturn, 1) := by decide +kernel
theorem dX8_count_236 : decode cX8_count 236 = .ok (.aload_n 0, 1) := by decide +kernel
theorem dX8_count_237 : decode cX8_count 237 = .ok (.getfield 54, 3) := by decide +kernel
theorem dX8_count_240 : decode cX8_count 240 = .ok (.aload_n 0, 1) := by decide +kernel
theorem dX8_count_241 : decode cX8_count 241 = .ok (.getfield 42, 3) := by decide +kernel
theorem dX8_count_244 : decode cX8_count 244 = .ok (.invokevirtual 151, 3) := by decide +kernel
theorem dX8_count_247 : decode cX8_count 247 = .ok (.ireturn, 1) := by decide +kernel
theorem dX8_count_248 : decode cX8_count 248 = .ok (.aload_n 0, 1) := by decide +kernel
theorem dX8_count_249 : decode cX8_count 249 = .ok (.getfield 54, 3) := by decide +kernel
theorem dX8_count_252 : decode cX8_count 252 = .ok (.invokevirtual 154, 3) := by decide +kernel
theorem dX8_count_255 : decode cX8_count 255 = .ok (.ireturn, 1) := by decide +kernel
theorem dX8_count_256 : decode cX8_count 256 = .ok (.aload_n 0, 1) := by decide +kernel
theorem dX8_count_257 : decode cX8_count 257 = .ok (.getfield 26, 3) := by decide +kernel
theorem dX8_count_260 : decode cX8_count 260 = .ok (.invokevirtual 157, 3) := by decide +kernel
theorem dX8_count_263 : decode cX8_count 263 = .ok (.ireturn, 1) := by decide +kernel
theorem dX8_count_264 : decode cX8_count 264 = .ok (.aload_n 0, 1) := by decide +kernel
theorem dX8_count_265 : decode cX8_count 265 = .ok (.getfield 12, 3) := by decide +kernel
theorem dX8_count_268 : decode cX8_count 268 = .ok (.invokevirtual 58, 3) := by decide +kernel
theorem dX8_count_271 : decode cX8_count 271 = .ok (.ireturn, 1) := by decide +kernel
theorem dX8_count_272 : decode cX8_count 272 = .ok (.bipush (-11), 2) := by decide +kernel
theorem dX8_count_274 : decode cX8_count 274 = .ok (.ireturn, 1) := by decide +kernel
set_option maxRecDepth 20000 in
theorem ggX8_word_X7_has : GoodIn wsX8_word wsX7_has := goodIn_r _ [7, 8, 101, 102, 103, 104, 105] (by decide +kernel) (by decide +kernel)
set_option maxRecDepth 20000 in
theorem gX8_word_X7_has : GoodIn wsX8_word (wsV RX8 158 RX7 yX7_has wsX7_has) := goodIn_app (goodIn_of _ (by decide +kernel)) ggX8_word_X7_has
set_option maxRecDepth 20000 in
theorem ggX8_word_X7_lengthOf : GoodIn wsX8_word wsX7_lengthOf := goodIn_r _ [12, 13, 14, 15, 16, 17, 18, 19, 101, 102, 103, 104, 105, 106] (by decide +kernel) (by decide +kernel)
set_option maxRecDepth 20000 in
theorem gX8_word_X7_lengthOf : GoodIn wsX8_word (wsV RX8 161 RX7 yX7_lengthOf wsX7_lengthOf) := goodIn_app (goodIn_of _ (by decide +kernel)) ggX8_word_X7_lengthOf
set_option maxRecDepth 20000 in
theorem ggX8_word_X4_ownWidthOf : GoodIn wsX8_word wsX4_ownWidthOf := goodIn_r _ [24, 25, 26, 15, 16, 17, 18, 19, 107, 108, 109, 110, 111, 112, 113, 114, 115, 106] (by decide +kernel) (by decide +kernel)
set_option maxRecDepth 20000 in
theorem gX8_word_X4_ownWidthOf : GoodIn wsX8_word (wsV RX8 164 RX4 yX4_ownWidthOf wsX4_ownWidthOf) := goodIn_app (goodIn_of _ (by decide +kernel)) ggX8_word_X4_ownWidthOf
set_option maxRecDepth 20000 in
theorem ggX8_word_X4_shownWidthOf : GoodIn wsX8_word wsX4_shownWidthOf := goodIn_r _ [30, 31, 26, 15, 16, 17, 18, 19, 107, 108, 109, 110, 111, 112, 113, 114, 115, 106] (by decide +kernel) (by decide +kernel)
set_option maxRecDepth 20000 in
theorem gX8_word_X4_shownWidthOf : GoodIn wsX8_word (wsV RX8 167 RX4 yX4_shownWidthOf wsX4_shownWidthOf) := goodIn_app (goodIn_of _ (by decide +kernel)) ggX8_word_X4_shownWidthOf
set_option maxRecDepth 20000 in
theorem ggX8_word_X4_isHidden : GoodIn wsX8_word wsX4_isHidden := goodIn_r _ [35, 36, 26, 15, 16, 17, 18, 19, 107, 108, 109, 110, 111, 112, 113, 114, 115, 106] (by decide +kernel) (by decide +kernel)
set_option maxRecDepth 20000 in
theorem gX8_word_X4_isHidden : GoodIn wsX8_word (wsV RX8 170 RX4 yX4_isHidden wsX4_isHidden) := goodIn_app (goodIn_of _ (by decide +kernel)) ggX8_word_X4_isHidden
set_option maxRecDepth 20000 in
theorem ggX8_word_X4_lineOf : GoodIn wsX8_word wsX4_lineOf := goodIn_r _ [40, 41, 26, 15, 16, 17, 18, 19, 107, 108, 109, 110, 111, 112, 113, 114, 115, 106] (by decide +kernel) (by decide +kernel)
set_option maxRecDepth 20000 in
theorem gX8_word_X4_lineOf : GoodIn wsX8_word (wsV RX8 173 RX4 yX4_lineOf wsX4_lineOf) := goodIn_app (goodIn_of _ (by decide +kernel)) ggX8_word_X4_lineOf
set_option maxRecDepth 20000 in
theorem ggX8_word_X4_placeOf : GoodIn wsX8_word wsX4_placeOf := goodIn_r _ [45, 46, 26, 15, 16, 17, 18, 19, 107, 108, 109, 110, 111, 112, 113, 114, 115, 106] (by decide +kernel) (by decide +kernel)
set_option maxRecDepth 20000 in
theorem gX8_word_X4_placeOf : GoodIn wsX8_word (wsV RX8 176 RX4 yX4_placeOf wsX4_placeOf) := goodIn_app (goodIn_of _ (by decide +kernel)) ggX8_word_X4_placeOf
set_option maxRecDepth 20000 in
theorem ggX8_word_X8_hiddenWord : GoodIn wsX8_word wsX8_hiddenWord := goodIn_r _ [51, 2, 52, 53, 32, 33, 34, 23, 35, 36, 26, 15, 16, 17, 18, 19, 27, 28, 29, 30, 31, 54, 55, 56, 57, 58, 59, 60, 61, 62, 63, 64, 65, 66, 67, 68, 69, 70, 71, 72, 73, 74, 75, 76, 77, 78, 79, 80, 81, 82, 83, 84, 85, 86, 87, 88, 89, 90, 91, 92, 93, 94, 95, 107, 108, 109, 110, 111, 112, 113, 114, 115, 106, 116, 117, 118, 119, 120, 121, 122] (by decide +kernel) (by decide +kernel)
set_option maxRecDepth 20000 in
theorem gX8_word_X8_hiddenWord : GoodIn wsX8_word (wsV RX8 179 RX8 yX8_hiddenWord wsX8_hiddenWord) := goodIn_app (goodIn_of _ (by decide +kernel)) ggX8_word_X8_hiddenWord
theorem dX8_word_0 : decode cX8_word 0 = .ok (.aload_n 0, 1) := by decide +kernel
theorem dX8_word_1 : decode cX8_word 1 = .ok (.getfield 19, 3) := by decide +kernel
theorem dX8_word_4 : decode cX8_word 4 = .ok (.getfield 80, 3) := by decide +kernel
theorem dX8_word_7 : decode cX8_word 7 = .ok (.iload_n 1, 1) := by decide +kernel
theorem dX8_word_8 : decode cX8_word 8 = .ok (.invokevirtual 158, 3) := by decide +kernel
theorem dX8_word_11 : decode cX8_word 11 = .ok (.ifCond .eq 13, 3) := by decide +kernel
theorem dX8_word_14 : decode cX8_word 14 = .ok (.iload_n 2, 1) := by decide +kernel
theorem dX8_word_15 : decode cX8_word 15 = .ok (.ifCond .lt 9, 3) := by decide +kernel
theorem dX8_word_18 : decode cX8_word 18 = .ok (.iload_n 2, 1) := by decide +kernel
theorem dX8_word_19 : decode cX8_word 19 = .ok (.bipush 9, 2) := by decide +kernel
theorem dX8_word_21 : decode cX8_word 21 = .ok (.if_icmp .le 6, 3) := by decide +kernel
theorem dX8_word_24 : decode cX8_word 24 = .ok (.bipush (-11), 2) := by decide +kernel
theorem dX8_word_26 : decode cX8_word 26 = .ok (.ireturn, 1) := by decide +kernel
theorem dX8_word_27 : decode cX8_word 27 = .ok (.iload_n 2, 1) := by decide +kernel
theorem dX8_word_28 : decode cX8_word 28 = .ok (.tableswitch 113 0 7 #[48, 60, 69, 78, 113, 113, 95, 104], 48) := by decide +kernel
theorem dX8_word_76 : decode cX8_word 76 = .ok (.aload_n 0, 1) := by decide +kernel
theorem dX8_word_77 : decode cX8_word 77 = .ok (.getfield 19, 3) := by decide +kernel
theorem dX8_word_80 : decode cX8_word 80 = .ok (.getfield 80, 3) := by decide +kernel
theorem dX8_word_83 : decode cX8_word 83 = .ok (.iload_n 1, 1) := by decide +kernel
theorem dX8_word_84 : decode cX8_word 84 = .ok (.invokevirtual 161, 3) := by decide +kernel
theorem dX8_word_87 : decode cX8_word 87 = .ok (.ireturn, 1) := by decide +kernel
theorem dX8_word_88 : decode cX8_word 88 = .ok (.aload_n 0, 1) := by decide +kernel
theorem dX8_word_89 : decode cX8_word 89 = .ok (.getfield 54, 3) := by decide +kernel
theorem dX8_word_92 : decode cX8_word 92 = .ok (.iload_n 1, 1) := by decide +kernel
theorem dX8_word_93 : decode cX8_word 93 = .ok (.invokevirtual 164, 3) := by decide +kernel
theorem dX8_word_96 : decode cX8_word 96 = .ok (.ireturn, 1) := by decide +kernel
theorem dX8_word_97 : decode cX8_word 97 = .ok (.aload_n 0, 1) := by decide +kernel
theorem dX8_word_98 : decode cX8_word 98 = .ok (.getfield 54, 3) := by decide +kernel
theorem dX8_word_101 : decode cX8_word 101 = .ok (.iload_n 1, 1) := by decide +kernel
theorem dX8_word_102 : decode cX8_word 102 = .ok (.invokevirtual 167, 3) := by decide +kernel
theorem dX8_word_105 : decode cX8_word 105 = .ok (.ireturn, 1) := by decide +kernel
theorem dX8_word_106 : decode cX8_word 106 = .ok (.aload_n 0, 1) := by decide +kernel
theorem dX8_word_107 : decode cX8_word 107 = .ok (.getfield 54, 3) := by decide +kernel
theorem dX8_word_110 : decode cX8_word 110 = .ok (.iload_n 1, 1) := by decide +kernel
theorem dX8_word_111 : decode cX8_word 111 = .ok (.invokevirtual 170, 3) := by decide +kernel
theorem dX8_word_114 : decode cX8_word 114 = .ok (.ifCond .eq 7, 3) := by decide +kernel
theorem dX8_word_117 : decode cX8_word 117 = .ok (.iconst 1, 1) := by decide +kernel
theorem dX8_word_118 : decode cX8_word 118 = .ok (.goto 4, 3) := by decide +kernel
theorem dX8_word_121 : decode cX8_word 121 = .ok (.iconst 0, 1) := by decide +kernel
theorem dX8_word_122 : decode cX8_word 122 = .ok (.ireturn, 1) := by decide +kernel
theorem dX8_word_123 : decode cX8_word 123 = .ok (.aload_n 0, 1) := by decide +kernel
theorem dX8_word_124 : decode cX8_word 124 = .ok (.getfield 54, 3) := by decide +kernel
theorem dX8_word_127 : decode cX8_word 127 = .ok (.iload_n 1, 1) := by decide +kernel
theorem dX8_word_128 : decode cX8_word 128 = .ok (.invokevirtual 173, 3) := by decide +kernel
theorem dX8_word_131 : decode cX8_word 131 = .ok (.ireturn, 1) := by decide +kernel
theorem dX8_word_132 : decode cX8_word 132 = .ok (.aload_n 0, 1) := by decide +kernel
theorem dX8_word_133 : decode cX8_word 133 = .ok (.getfield 54, 3) := by decide +kernel
theorem dX8_word_136 : decode cX8_word 136 = .ok (.iload_n 1, 1) := by decide +kernel
theorem dX8_word_137 : decode cX8_word 137 = .ok (.invokevirtual 176, 3) := by decide +kernel
theorem dX8_word_140 : decode cX8_word 140 = .ok (.ireturn, 1) := by decide +kernel
theorem dX8_word_141 : decode cX8_word 141 = .ok (.aload_n 0, 1) := by decide +kernel
theorem dX8_word_142 : decode cX8_word 142 = .ok (.iload_n 1, 1) := by decide +kernel
theorem dX8_word_143 : decode cX8_word 143 = .ok (.iload_n 2, 1) := by decide +kernel
theorem dX8_word_144 : decode cX8_word 144 = .ok (.invokevirtual 179, 3) := by decide +kernel
theorem dX8_word_147 : decode cX8_word 147 = .ok (.ireturn, 1) := by decide +kernel
set_option maxRecDepth 20000 in
theorem ggX8_letter_X7_has : GoodIn wsX8_letter wsX7_has := goodIn_r _ [7, 8, 45, 46, 47, 48, 49] (by decide +kernel) (by decide +kernel)
set_option maxRecDepth 20000 in
theorem gX8_letter_X7_has : GoodIn wsX8_letter (wsV RX8 158 RX7 yX7_has wsX7_has) := goodIn_app (goodIn_of _ (by decide +kernel)) ggX8_letter_X7_has
set_option maxRecDepth 20000 in
theorem ggX8_letter_X4_isHidden : GoodIn wsX8_letter wsX4_isHidden := goodIn_r _ [13, 14, 15, 16, 17, 18, 19, 20, 50, 51, 52, 53, 54, 55, 56, 57, 58, 59] (by decide +kernel) (by decide +kernel)
set_option maxRecDepth 20000 in
theorem gX8_letter_X4_isHidden : GoodIn wsX8_letter (wsV RX8 170 RX4 yX4_isHidden wsX4_isHidden) := goodIn_app (goodIn_of _ (by decide +kernel)) ggX8_letter_X4_isHidden
set_option maxRecDepth 20000 in
theorem ggX8_letter_X7_lengthOf : GoodIn wsX8_letter wsX7_lengthOf := goodIn_r _ [24, 25, 26, 16, 17, 18, 19, 20, 45, 46, 47, 48, 49, 59] (by decide +kernel) (by decide +kernel)
set_option maxRecDepth 20000 in
theorem gX8_letter_X7_lengthOf : GoodIn wsX8_letter (wsV RX8 161 RX7 yX7_lengthOf wsX7_lengthOf) := goodIn_app (goodIn_of _ (by decide +kernel)) ggX8_letter_X7_lengthOf
set_option maxRecDepth 20000 in
theorem ggX8_letter_X7_letterOf : GoodIn wsX8_letter wsX7_letterOf := goodIn_r _ [30, 31, 32, 26, 16, 17, 18, 19, 20, 45, 46, 47, 48, 49, 59] (by decide +kernel) (by decide +kernel)
set_option maxRecDepth 20000 in
theorem gX8_letter_X7_letterOf : GoodIn wsX8_letter (wsV RX8 182 RX7 yX7_letterOf wsX7_letterOf) := goodIn_app (goodIn_of _ (by decide +kernel)) ggX8_letter_X7_letterOf
theorem dX8_letter_0 : decode cX8_letter 0 = .ok (.aload_n 0, 1) := by decide +kernel
theorem dX8_letter_1 : decode cX8_letter 1 = .ok (.getfield 19, 3) := by decide +kernel
theorem dX8_letter_4 : decode cX8_letter 4 = .ok (.getfield 80, 3) := by decide +kernel
theorem dX8_letter_7 : decode cX8_letter 7 = .ok (.iload_n 1, 1) := by decide +kernel
theorem dX8_letter_8 : decode cX8_letter 8 = .ok (.invokevirtual 158, 3) := by decide +kernel
theorem dX8_letter_11 : decode cX8_letter 11 = .ok (.ifCond .eq 7, 3) := by decide +kernel
theorem dX8_letter_14 : decode cX8_letter 14 = .ok (.iload_n 2, 1) := by decide +kernel
theorem dX8_letter_15 : decode cX8_letter 15 = .ok (.ifCond .ge 6, 3) := by decide +kernel
theorem dX8_letter_18 : decode cX8_letter 18 = .ok (.bipush (-11), 2) := by decide +kernel
theorem dX8_letter_20 : decode cX8_letter 20 = .ok (.ireturn, 1) := by decide +kernel
theorem dX8_letter_21 : decode cX8_letter 21 = .ok (.aload_n 0, 1) := by decide +kernel
theorem dX8_letter_22 : decode cX8_letter 22 = .ok (.getfield 54, 3) := by decide +kernel
theorem dX8_letter_25 : decode cX8_letter 25 = .ok (.iload_n 1, 1) := by decide +kernel
theorem dX8_letter_26 : decode cX8_letter 26 = .ok (.invokevirtual 170, 3) := by decide +kernel
theorem dX8_letter_29 : decode cX8_letter 29 = .ok (.ifCond .eq 6, 3) := by decide +kernel
theorem dX8_letter_32 : decode cX8_letter 32 = .ok (.bipush (-12), 2) := by decide +kernel
theorem dX8_letter_34 : decode cX8_letter 34 = .ok (.ireturn, 1) := by decide +kernel
theorem dX8_letter_35 : decode cX8_letter 35 = .ok (.iload_n 2, 1) := by decide +kernel
theorem dX8_letter_36 : decode cX8_letter 36 = .ok (.aload_n 0, 1) := by decide +kernel
theorem dX8_letter_37 : decode cX8_letter 37 = .ok (.getfield 19, 3) := by decide +kernel
theorem dX8_letter_40 : decode cX8_letter 40 = .ok (.getfield 80, 3) := by decide +kernel
theorem dX8_letter_43 : decode cX8_letter 43 = .ok (.iload_n 1, 1) := by decide +kernel
theorem dX8_letter_44 : decode cX8_letter 44 = .ok (.invokevirtual 161, 3) := by decide +kernel
theorem dX8_letter_47 : decode cX8_letter 47 = .ok (.if_icmp .lt 6, 3) := by decide +kernel
theorem dX8_letter_50 : decode cX8_letter 50 = .ok (.bipush (-14), 2) := by decide +kernel
theorem dX8_letter_52 : decode cX8_letter 52 = .ok (.ireturn, 1) := by decide +kernel
theorem dX8_letter_53 : decode cX8_letter 53 = .ok (.aload_n 0, 1) := by decide +kernel
theorem dX8_letter_54 : decode cX8_letter 54 = .ok (.getfield 19, 3) := by decide +kernel
theorem dX8_letter_57 : decode cX8_letter 57 = .ok (.getfield 80, 3) := by decide +kernel
theorem dX8_letter_60 : decode cX8_letter 60 = .ok (.iload_n 1, 1) := by decide +kernel
theorem dX8_letter_61 : decode cX8_letter 61 = .ok (.iload_n 2, 1) := by decide +kernel
theorem dX8_letter_62 : decode cX8_letter 62 = .ok (.invokevirtual 182, 3) := by decide +kernel
theorem dX8_letter_65 : decode cX8_letter 65 = .ok (.ireturn, 1) := by decide +kernel
set_option maxRecDepth 20000 in
theorem ggX8_line_X4_hasLine : GoodIn wsX8_line wsX4_hasLine := goodIn_r _ [11, 12, 66, 67, 68, 69, 70, 71, 72, 73, 74] (by decide +kernel) (by decide +kernel)
set_option maxRecDepth 20000 in
theorem gX8_line_X4_hasLine : GoodIn wsX8_line (wsV RX8 185 RX4 yX4_hasLine wsX4_hasLine) := goodIn_app (goodIn_of _ (by decide +kernel)) ggX8_line_X4_hasLine
set_option maxRecDepth 20000 in
theorem ggX8_line_X4_firstWordOf : GoodIn wsX8_line wsX4_firstWordOf := goodIn_r _ [16, 17, 18, 19, 20, 21, 22, 23, 66, 67, 68, 69, 70, 71, 72, 73, 74, 75] (by decide +kernel) (by decide +kernel)
set_option maxRecDepth 20000 in
theorem gX8_line_X4_firstWordOf : GoodIn wsX8_line (wsV RX8 188 RX4 yX4_firstWordOf wsX4_firstWordOf) := goodIn_app (goodIn_of _ (by decide +kernel)) ggX8_line_X4_firstWordOf
set_option maxRecDepth 20000 in
theorem ggX8_line_X4_firstWordBehind : GoodIn wsX8_line wsX4_firstWordBehind := goodIn_r _ [27, 12, 17, 28, 18, 19, 20, 21, 22, 23, 29, 30, 31, 32, 33, 34, 66, 67, 68, 69, 70, 71, 72, 73, 74, 61, 62, 63, 64, 65, 75, 76, 77, 78, 79, 80] (by decide +kernel) (by decide +kernel)
set_option maxRecDepth 20000 in
theorem gX8_line_X4_firstWordBehind : GoodIn wsX8_line (wsV RX8 191 RX4 yX4_firstWordBehind wsX4_firstWordBehind) := goodIn_app (goodIn_of _ (by decide +kernel)) ggX8_line_X4_firstWordBehind
set_option maxRecDepth 20000 in
theorem ggX8_line_X4_widthBetween : GoodIn wsX8_line wsX4_widthBetween := goodIn_r _ [38, 28, 39, 40, 41, 10, 42, 43, 18, 19, 20, 21, 22, 23, 66, 67, 68, 69, 70, 71, 72, 73, 74, 61, 62, 63, 64, 65, 75] (by decide +kernel) (by decide +kernel)
set_option maxRecDepth 20000 in
theorem gX8_line_X4_widthBetween : GoodIn wsX8_line (wsV RX8 194 RX4 yX4_widthBetween wsX4_widthBetween) := goodIn_app (goodIn_of _ (by decide +kernel)) ggX8_line_X4_widthBetween
set_option maxRecDepth 20000 in
theorem ggX8_line_X3_at : GoodIn wsX8_line wsX3_at := goodIn_r _ [22, 23, 75] (by decide +kernel) (by decide +kernel)
set_option maxRecDepth 20000 in
theorem gX8_line_X3_at : GoodIn wsX8_line (wsV RX8 117 RX3 yX3_at wsX3_at) := goodIn_app (goodIn_of _ (by decide +kernel)) ggX8_line_X3_at
set_option maxRecDepth 20000 in
theorem ggX8_line_X4_barsBetween : GoodIn wsX8_line wsX4_barsBetween := goodIn_r _ [48, 49, 50, 51, 10, 52, 53, 18, 19, 20, 21, 22, 23, 66, 67, 68, 69, 70, 71, 72, 73, 74, 75] (by decide +kernel) (by decide +kernel)
set_option maxRecDepth 20000 in
theorem gX8_line_X4_barsBetween : GoodIn wsX8_line (wsV RX8 136 RX4 yX4_barsBetween wsX4_barsBetween) := goodIn_app (goodIn_of _ (by decide +kernel)) ggX8_line_X4_barsBetween
theorem dX8_line_0 : decode cX8_line 0 = .ok (.aload_n 0, 1) := by decide +kernel
theorem dX8_line_1 : decode cX8_line 1 = .ok (.getfield 54, 3) := by decide +kernel
theorem dX8_line_4 : decode cX8_line 4 = .ok (.iload_n 1, 1) := by decide +kernel
theorem dX8_line_5 : decode cX8_line 5 = .ok (.invokevirtual 185, 3) := by decide +kernel
theorem dX8_line_8 : decode cX8_line 8 = .ok (.ifCond .ne 6, 3) := by decide +kernel
theorem dX8_line_11 : decode cX8_line 11 = .ok (.bipush (-11), 2) := by decide +kernel
theorem dX8_line_13 : decode cX8_line 13 = .ok (.ireturn, 1) := by decide +kernel
theorem dX8_line_14 : decode cX8_line 14 = .ok (.aload_n 0, 1) := by decide +kernel
theorem dX8_line_15 : decode cX8_line 15 = .ok (.getfield 54, 3) := by decide +kernel
theorem dX8_line_18 : decode cX8_line 18 = .ok (.iload_n 1, 1) := by decide +kernel
theorem dX8_line_19 : decode cX8_line 19 = .ok (.invokevirtual 188, 3) := by decide +kernel
theorem dX8_line_22 : decode cX8_line 22 = .ok (.istore_n 3, 1) := by decide +kernel
theorem dX8_line_23 : decode cX8_line 23 = .ok (.aload_n 0, 1) := by decide +kernel
theorem dX8_line_24 : decode cX8_line 24 = .ok (.getfield 54, 3) := by decide +kernel
theorem dX8_line_27 : decode cX8_line 27 = .ok (.iload_n 1, 1) := by decide +kernel
theorem dX8_line_28 : decode cX8_line 28 = .ok (.invokevirtual 191, 3) := by decide +kernel
theorem dX8_line_31 : decode cX8_line 31 = .ok (.istore 4, 2) := by decide +kernel
theorem dX8_line_33 : decode cX8_line 33 = .ok (.iload_n 2, 1) := by decide +kernel
theorem dX8_line_34 : decode cX8_line 34 = .ok (.tableswitch 90 0 4 #[34, 36, 41, 52, 79], 34) := by decide +kernel
theorem dX8_line_68 : decode cX8_line 68 = .ok (.iload_n 3, 1) := by decide +kernel
theorem dX8_line_69 : decode cX8_line 69 = .ok (.ireturn, 1) := by decide +kernel
theorem dX8_line_70 : decode cX8_line 70 = .ok (.iload 4, 2) := by decide +kernel
theorem dX8_line_72 : decode cX8_line 72 = .ok (.iload_n 3, 1) := by decide +kernel
theorem dX8_line_73 : decode cX8_line 73 = .ok (.isub, 1) := by decide +kernel
theorem dX8_line_74 : decode cX8_line 74 = .ok (.ireturn, 1) := by decide +kernel
theorem dX8_line_75 : decode cX8_line 75 = .ok (.aload_n 0, 1) := by decide +kernel
theorem dX8_line_76 : decode cX8_line 76 = .ok (.getfield 54, 3) := by decide +kernel
theorem dX8_line_79 : decode cX8_line 79 = .ok (.iload_n 3, 1) := by decide +kernel
theorem dX8_line_80 : decode cX8_line 80 = .ok (.iload 4, 2) := by decide +kernel
theorem dX8_line_82 : decode cX8_line 82 = .ok (.invokevirtual 194, 3) := by decide +kernel
theorem dX8_line_85 : decode cX8_line 85 = .ok (.ireturn, 1) := by decide +kernel
theorem dX8_line_86 : decode cX8_line 86 = .ok (.iconst 0, 1) := by decide +kernel
theorem dX8_line_87 : decode cX8_line 87 = .ok (.aload_n 0, 1) := by decide +kernel
theorem dX8_line_88 : decode cX8_line 88 = .ok (.getfield 19, 3) := by decide +kernel
theorem dX8_line_91 : decode cX8_line 91 = .ok (.getfield 133, 3) := by decide +kernel
theorem dX8_line_94 : decode cX8_line 94 = .ok (.iconst 4, 1) := by decide +kernel
theorem dX8_line_95 : decode cX8_line 95 = .ok (.invokevirtual 117, 3) := by decide +kernel
theorem dX8_line_98 : decode cX8_line 98 = .ok (.aload_n 0, 1) := by decide +kernel
theorem dX8_line_99 : decode cX8_line 99 = .ok (.getfield 54, 3) := by decide +kernel
theorem dX8_line_102 : decode cX8_line 102 = .ok (.iload_n 3, 1) := by decide +kernel
theorem dX8_line_103 : decode cX8_line 103 = .ok (.iload 4, 2) := by decide +kernel
theorem dX8_line_105 : decode cX8_line 105 = .ok (.invokevirtual 194, 3) := by decide +kernel
theorem dX8_line_108 : decode cX8_line 108 = .ok (.isub, 1) := by decide +kernel
theorem dX8_line_109 : decode cX8_line 109 = .ok (.invokestatic 197, 3) := by decide +kernel
theorem dX8_line_112 : decode cX8_line 112 = .ok (.ireturn, 1) := by decide +kernel
theorem dX8_line_113 : decode cX8_line 113 = .ok (.aload_n 0, 1) := by decide +kernel
theorem dX8_line_114 : decode cX8_line 114 = .ok (.getfield 54, 3) := by decide +kernel
theorem dX8_line_117 : decode cX8_line 117 = .ok (.iload_n 3, 1) := by decide +kernel
theorem dX8_line_118 : decode cX8_line 118 = .ok (.iload 4, 2) := by decide +kernel
theorem dX8_line_120 : decode cX8_line 120 = .ok (.invokevirtual 136, 3) := by decide +kernel
theorem dX8_line_123 : decode cX8_line 123 = .ok (.ireturn, 1) := by decide +kernel
theorem dX8_line_124 : decode cX8_line 124 = .ok (.bipush (-11), 2) := by decide +kernel
theorem dX8_line_126 : decode cX8_line 126 = .ok (.ireturn, 1) := by decide +kernel
set_option maxRecDepth 20000 in
theorem ggX8_widthAgain_X4_hasLine : GoodIn wsX8_widthAgain wsX4_hasLine := goodIn_r _ [6, 7, 43, 44, 45, 46, 47, 48, 49, 50, 51] (by decide +kernel) (by decide +kernel)
set_option maxRecDepth 20000 in
theorem gX8_widthAgain_X4_hasLine : GoodIn wsX8_widthAgain (wsV RX8 185 RX4 yX4_hasLine wsX4_hasLine) := goodIn_app (goodIn_of _ (by decide +kernel)) ggX8_widthAgain_X4_hasLine
set_option maxRecDepth 20000 in
theorem ggX8_widthAgain_X4_firstWordBehind : GoodIn wsX8_widthAgain wsX4_firstWordBehind := goodIn_r _ [11, 7, 12, 13, 14, 15, 16, 17, 18, 19, 20, 21, 22, 23, 24, 25, 43, 44, 45, 46, 47, 48, 49, 50, 51, 52, 53, 54, 55, 56, 57, 58, 59, 60, 61, 62] (by decide +kernel) (by decide +kernel)
set_option maxRecDepth 20000 in
theorem gX8_widthAgain_X4_firstWordBehind : GoodIn wsX8_widthAgain (wsV RX8 191 RX4 yX4_firstWordBehind wsX4_firstWordBehind) := goodIn_app (goodIn_of _ (by decide +kernel)) ggX8_widthAgain_X4_firstWordBehind
set_option maxRecDepth 20000 in
theorem ggX8_widthAgain_X4_placeOf : GoodIn wsX8_widthAgain wsX4_placeOf := goodIn_r _ [29, 30, 14, 15, 16, 17, 18, 19, 43, 44, 45, 46, 47, 48, 49, 50, 51, 57] (by decide +kernel) (by decide +kernel)
set_option maxRecDepth 20000 in
theorem gX8_widthAgain_X4_placeOf : GoodIn wsX8_widthAgain (wsV RX8 176 RX4 yX4_placeOf wsX4_placeOf) := goodIn_app (goodIn_of _ (by decide +kernel)) ggX8_widthAgain_X4_placeOf
set_option maxRecDepth 20000 in
theorem ggX8_widthAgain_X4_shownWidthOf : GoodIn wsX8_widthAgain wsX4_shownWidthOf := goodIn_r _ [34, 35, 14, 15, 16, 17, 18, 19, 43, 44, 45, 46, 47, 48, 49, 50, 51, 57] (by decide +kernel) (by decide +kernel)
set_option maxRecDepth 20000 in
theorem gX8_widthAgain_X4_shownWidthOf : GoodIn wsX8_widthAgain (wsV RX8 167 RX4 yX4_shownWidthOf wsX4_shownWidthOf) := goodIn_app (goodIn_of _ (by decide +kernel)) ggX8_widthAgain_X4_shownWidthOf
theorem dX8_widthAgain_0 : decode cX8_widthAgain 0 = .ok (.aload_n 0, 1) := by decide +kernel
theorem dX8_widthAgain_1 : decode cX8_widthAgain 1 = .ok (.getfield 54, 3) := by decide +kernel
theorem dX8_widthAgain_4 : decode cX8_widthAgain 4 = .ok (.iload_n 1, 1) := by decide +kernel
theorem dX8_widthAgain_5 : decode cX8_widthAgain 5 = .ok (.invokevirtual 185, 3) := by decide +kernel
theorem dX8_widthAgain_8 : decode cX8_widthAgain 8 = .ok (.ifCond .ne 6, 3) := by decide +kernel
theorem dX8_widthAgain_11 : decode cX8_widthAgain 11 = .ok (.bipush (-11), 2) := by decide +kernel
theorem dX8_widthAgain_13 : decode cX8_widthAgain 13 = .ok (.ireturn, 1) := by decide +kernel
theorem dX8_widthAgain_14 : decode cX8_widthAgain 14 = .ok (.aload_n 0, 1) := by decide +kernel
theorem dX8_widthAgain_15 : decode cX8_widthAgain 15 = .ok (.getfield 54, 3) := by decide +kernel
theorem dX8_widthAgain_18 : decode cX8_widthAgain 18 = .ok (.iload_n 1, 1) := by decide +kernel
theorem dX8_widthAgain_19 : decode cX8_widthAgain 19 = .ok (.invokevirtual 191, 3) := by decide +kernel
theorem dX8_widthAgain_22 : decode cX8_widthAgain 22 = .ok (.iconst 1, 1) := by decide +kernel
theorem dX8_widthAgain_23 : decode cX8_widthAgain 23 = .ok (.isub, 1) := by decide +kernel
theorem dX8_widthAgain_24 : decode cX8_widthAgain 24 = .ok (.istore_n 2, 1) := by decide +kernel
theorem dX8_widthAgain_25 : decode cX8_widthAgain 25 = .ok (.aload_n 0, 1) := by decide +kernel
theorem dX8_widthAgain_26 : decode cX8_widthAgain 26 = .ok (.getfield 54, 3) := by decide +kernel
theorem dX8_widthAgain_29 : decode cX8_widthAgain 29 = .ok (.iload_n 2, 1) := by decide +kernel
theorem dX8_widthAgain_30 : decode cX8_widthAgain 30 = .ok (.invokevirtual 176, 3) := by decide +kernel
theorem dX8_widthAgain_33 : decode cX8_widthAgain 33 = .ok (.aload_n 0, 1) := by decide +kernel
theorem dX8_widthAgain_34 : decode cX8_widthAgain 34 = .ok (.getfield 54, 3) := by decide +kernel
theorem dX8_widthAgain_37 : decode cX8_widthAgain 37 = .ok (.iload_n 2, 1) := by decide +kernel
theorem dX8_widthAgain_38 : decode cX8_widthAgain 38 = .ok (.invokevirtual 167, 3) := by decide +kernel
theorem dX8_widthAgain_41 : decode cX8_widthAgain 41 = .ok (.iadd, 1) := by decide +kernel
theorem dX8_widthAgain_42 : decode cX8_widthAgain 42 = .ok (.ireturn, 1) := by decide +kernel
set_option maxRecDepth 20000 in
theorem ggX8_workOut_X1_measure : GoodIn wsX8_workOut wsX1_measure := goodIn_r _ [9, 10, 11, 12, 13, 14, 15, 16, 17, 18, 19, 20, 21, 22, 23, 8, 24, 25, 26, 27, 28, 29, 30, 31, 32, 33, 34, 35, 36, 37, 38, 39, 40, 41, 42, 43, 44, 45, 46, 47, 48, 49, 50, 51, 52, 53, 54, 55, 56, 57, 58, 161, 162, 163, 164, 165, 166, 167, 168, 169, 170, 171, 172, 173, 174, 175, 176] (by decide +kernel) (by decide +kernel)
set_option maxRecDepth 20000 in
theorem gX8_workOut_X1_measure : GoodIn wsX8_workOut (wsV RX8 240 RX1 yX1_measure wsX1_measure) := goodIn_app (goodIn_of _ (by decide +kernel)) ggX8_workOut_X1_measure
set_option maxRecDepth 20000 in
theorem ggX8_workOut_X3_at : GoodIn wsX8_workOut wsX3_at := goodIn_r _ [48, 49, 176] (by decide +kernel) (by decide +kernel)
set_option maxRecDepth 20000 in
theorem gX8_workOut_X3_at : GoodIn wsX8_workOut (wsV RX8 117 RX3 yX3_at wsX3_at) := goodIn_app (goodIn_of _ (by decide +kernel)) ggX8_workOut_X3_at
set_option maxRecDepth 20000 in
theorem ggX8_workOut_X0_draw : GoodIn wsX8_workOut wsX0_draw := goodIn_r _ [64, 65, 66, 67, 68, 69, 8, 70, 11, 71, 72, 73, 63, 74, 75, 76, 77, 78, 12, 58, 45, 46, 47, 48, 49, 79, 80, 81, 82, 83, 84, 85, 13, 86, 87, 88, 89, 90, 91, 92, 93, 14, 94, 51, 52, 53, 177, 178, 166, 167, 168, 169, 170, 176] (by decide +kernel) (by decide +kernel)
set_option maxRecDepth 20000 in
theorem gX8_workOut_X0_draw : GoodIn wsX8_workOut (wsV RX8 229 RX0 yX0_draw wsX0_draw) := goodIn_app (goodIn_of _ (by decide +kernel)) ggX8_workOut_X0_draw
set_option maxRecDepth 20000 in
theorem ggX8_workOut_X4_hideWords : GoodIn wsX8_workOut wsX4_hideWords := goodIn_r _ [99, 100, 101, 102, 103, 104, 16, 17, 18, 19, 20, 105, 68, 69, 8, 70, 11, 106, 22, 23, 24, 10, 107, 26, 27, 28, 108, 109, 110, 32, 111, 112, 34, 36, 113, 114, 115, 116, 42, 44, 45, 46, 47, 48, 49, 117, 118, 119, 120, 43, 41, 121, 51, 52, 53, 122, 38, 39, 40, 179, 180, 181, 182, 183, 184, 185, 186, 187, 161, 162, 163, 164, 165, 171, 172, 173, 174, 175, 166, 167, 168, 169, 170, 176] (by decide +kernel) (by decide +kernel)
set_option maxRecDepth 20000 in
theorem gX8_workOut_X4_hideWords : GoodIn wsX8_workOut (wsV RX8 243 RX4 yX4_hideWords wsX4_hideWords) := goodIn_app (goodIn_of _ (by decide +kernel)) ggX8_workOut_X4_hideWords
set_option maxRecDepth 20000 in
theorem ggX8_workOut_X4_flow : GoodIn wsX8_workOut wsX4_flow := goodIn_r _ [126, 100, 127, 128, 129, 130, 131, 132, 45, 46, 47, 48, 49, 104, 16, 17, 18, 19, 20, 133, 134, 135, 98, 136, 137, 138, 139, 140, 102, 141, 142, 143, 144, 145, 146, 147, 63, 148, 66, 149, 150, 151, 152, 153, 103, 121, 51, 52, 53, 179, 180, 181, 182, 183, 184, 185, 186, 187, 161, 162, 163, 164, 165, 176, 171, 172, 173, 174, 175, 177, 178] (by decide +kernel) (by decide +kernel)
set_option maxRecDepth 20000 in
theorem gX8_workOut_X4_flow : GoodIn wsX8_workOut (wsV RX8 246 RX4 yX4_flow wsX4_flow) := goodIn_app (goodIn_of _ (by decide +kernel)) ggX8_workOut_X4_flow
theorem dX8_workOut_0 : decode cX8_workOut 0 = .ok (.aload_n 0, 1) := by decide +kernel
theorem dX8_workOut_1 : decode cX8_workOut 1 = .ok (.getfield 33, 3) := by decide +kernel
theorem dX8_workOut_4 : decode cX8_workOut 4 = .ok (.aload_n 0, 1) := by decide +kernel
theorem dX8_workOut_5 : decode cX8_workOut 5 = .ok (.getfield 19, 3) := by decide +kernel
theorem dX8_workOut_8 : decode cX8_workOut 8 = .ok (.invokevirtual 240, 3) := by decide +kernel
theorem dX8_workOut_11 : decode cX8_workOut 11 = .ok (.aload_n 0, 1) := by decide +kernel
theorem dX8_workOut_12 : decode cX8_workOut 12 = .ok (.getfield 42, 3) := by decide +kernel
theorem dX8_workOut_15 : decode cX8_workOut 15 = .ok (.aload_n 0, 1) := by decide +kernel
theorem dX8_workOut_16 : decode cX8_workOut 16 = .ok (.getfield 19, 3) := by decide +kernel
theorem dX8_workOut_19 : decode cX8_workOut 19 = .ok (.getfield 133, 3) := by decide +kernel
theorem dX8_workOut_22 : decode cX8_workOut 22 = .ok (.iconst 0, 1) := by decide +kernel
theorem dX8_workOut_23 : decode cX8_workOut 23 = .ok (.invokevirtual 117, 3) := by decide +kernel
theorem dX8_workOut_26 : decode cX8_workOut 26 = .ok (.aload_n 0, 1) := by decide +kernel
theorem dX8_workOut_27 : decode cX8_workOut 27 = .ok (.getfield 19, 3) := by decide +kernel
theorem dX8_workOut_30 : decode cX8_workOut 30 = .ok (.getfield 133, 3) := by decide +kernel
theorem dX8_workOut_33 : decode cX8_workOut 33 = .ok (.iconst 1, 1) := by decide +kernel
theorem dX8_workOut_34 : decode cX8_workOut 34 = .ok (.invokevirtual 117, 3) := by decide +kernel
theorem dX8_workOut_37 : decode cX8_workOut 37 = .ok (.aload_n 0, 1) := by decide +kernel
theorem dX8_workOut_38 : decode cX8_workOut 38 = .ok (.getfield 19, 3) := by decide +kernel
theorem dX8_workOut_41 : decode cX8_workOut 41 = .ok (.getfield 133, 3) := by decide +kernel
theorem dX8_workOut_44 : decode cX8_workOut 44 = .ok (.iconst 2, 1) := by decide +kernel
