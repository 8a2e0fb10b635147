theorem dL_form_13 : decode cL_form 13 = .ok (.if_icmp .ge 11, 3) := by decide +kernel
theorem dL_form_16 : decode cL_form 16 = .ok (.iload_n 3, 1) := by decide +kernel
theorem dL_form_17 : decode cL_form 17 = .ok (.aload_n 0, 1) := by decide +kernel
theorem dL_form_18 : decode cL_form 18 = .ok (.bipush 7, 2) := by decide +kernel
theorem dL_form_20 : decode cL_form 20 = .ok (.iaload, 1) := by decide +kernel
theorem dL_form_21 : decode cL_form 21 = .ok (.if_icmp .lt 5, 3) := by decide +kernel
theorem dL_form_24 : decode cL_form 24 = .ok (.lconst 0, 1) := by decide +kernel
theorem dL_form_25 : decode cL_form 25 = .ok (.lreturn, 1) := by decide +kernel
theorem dL_form_26 : decode cL_form 26 = .ok (.aload_n 1, 1) := by decide +kernel
theorem dL_form_27 : decode cL_form 27 = .ok (.bipush 8, 2) := by decide +kernel
theorem dL_form_29 : decode cL_form 29 = .ok (.iload_n 2, 1) := by decide +kernel
theorem dL_form_30 : decode cL_form 30 = .ok (.iconst 3, 1) := by decide +kernel
theorem dL_form_31 : decode cL_form 31 = .ok (.idiv, 1) := by decide +kernel
theorem dL_form_32 : decode cL_form 32 = .ok (.iadd, 1) := by decide +kernel
theorem dL_form_33 : decode cL_form 33 = .ok (.laload, 1) := by decide +kernel
theorem dL_form_34 : decode cL_form 34 = .ok (.lstore 4, 2) := by decide +kernel
theorem dL_form_36 : decode cL_form 36 = .ok (.iload_n 3, 1) := by decide +kernel
theorem dL_form_37 : decode cL_form 37 = .ok (.ifCond .ge 8, 3) := by decide +kernel
theorem dL_form_40 : decode cL_form 40 = .ok (.lload 4, 2) := by decide +kernel
theorem dL_form_42 : decode cL_form 42 = .ok (.goto 24, 3) := by decide +kernel
theorem dL_form_45 : decode cL_form 45 = .ok (.lload 4, 2) := by decide +kernel
theorem dL_form_47 : decode cL_form 47 = .ok (.iconst 5, 1) := by decide +kernel
theorem dL_form_48 : decode cL_form 48 = .ok (.aload_n 1, 1) := by decide +kernel
theorem dL_form_49 : decode cL_form 49 = .ok (.bipush 12, 2) := by decide +kernel
theorem dL_form_51 : decode cL_form 51 = .ok (.iload_n 3, 1) := by decide +kernel
theorem dL_form_52 : decode cL_form 52 = .ok (.iadd, 1) := by decide +kernel
theorem dL_form_53 : decode cL_form 53 = .ok (.laload, 1) := by decide +kernel
theorem dL_form_54 : decode cL_form 54 = .ok (.invokestatic 9, 3) := by decide +kernel
theorem dL_form_57 : decode cL_form 57 = .ok (.imul, 1) := by decide +kernel
theorem dL_form_58 : decode cL_form 58 = .ok (.lshl, 1) := by decide +kernel
theorem dL_form_59 : decode cL_form 59 = .ok (.aload_n 1, 1) := by decide +kernel
theorem dL_form_60 : decode cL_form 60 = .ok (.bipush 12, 2) := by decide +kernel
theorem dL_form_62 : decode cL_form 62 = .ok (.iload_n 3, 1) := by decide +kernel
theorem dL_form_63 : decode cL_form 63 = .ok (.iadd, 1) := by decide +kernel
theorem dL_form_64 : decode cL_form 64 = .ok (.laload, 1) := by decide +kernel
theorem dL_form_65 : decode cL_form 65 = .ok (.lor, 1) := by decide +kernel
theorem dL_form_66 : decode cL_form 66 = .ok (.lreturn, 1) := by decide +kernel
set_option maxRecDepth 20000 in
theorem ggL_bar_L_form : GoodIn wsL_bar wsL_form := goodIn_r _ [5, 6, 7, 4, 8] (by decide +kernel) (by decide +kernel)
set_option maxRecDepth 20000 in
theorem gL_bar_L_form : GoodIn wsL_bar (va_wsS RL 17 yL_form wsL_form) := goodIn_app (goodIn_of _ (by decide +kernel)) ggL_bar_L_form
set_option maxRecDepth 20000 in
theorem ggL_bar_L_width : GoodIn wsL_bar wsL_width := goodIn_r _ [11, 12, 6, 7, 4, 8] (by decide +kernel) (by decide +kernel)
set_option maxRecDepth 20000 in
theorem gL_bar_L_width : GoodIn wsL_bar (va_wsS RL 21 yL_width wsL_width) := goodIn_app (goodIn_of _ (by decide +kernel)) ggL_bar_L_width
theorem dL_bar_0 : decode cL_bar 0 = .ok (.aload_n 1, 1) := by decide +kernel
theorem dL_bar_1 : decode cL_bar 1 = .ok (.aload_n 0, 1) := by decide +kernel
theorem dL_bar_2 : decode cL_bar 2 = .ok (.aload_n 2, 1) := by decide +kernel
theorem dL_bar_3 : decode cL_bar 3 = .ok (.iload 5, 2) := by decide +kernel
theorem dL_bar_5 : decode cL_bar 5 = .ok (.invokestatic 17, 3) := by decide +kernel
theorem dL_bar_8 : decode cL_bar 8 = .ok (.invokestatic 21, 3) := by decide +kernel
theorem dL_bar_11 : decode cL_bar 11 = .ok (.istore 6, 2) := by decide +kernel
theorem dL_bar_13 : decode cL_bar 13 = .ok (.iload_n 3, 1) := by decide +kernel
theorem dL_bar_14 : decode cL_bar 14 = .ok (.iconst 2, 1) := by decide +kernel
theorem dL_bar_15 : decode cL_bar 15 = .ok (.if_icmp .ge 37, 3) := by decide +kernel
theorem dL_bar_18 : decode cL_bar 18 = .ok (.iload_n 3, 1) := by decide +kernel
theorem dL_bar_19 : decode cL_bar 19 = .ok (.ifCond .ne 8, 3) := by decide +kernel
theorem dL_bar_22 : decode cL_bar 22 = .ok (.iload 6, 2) := by decide +kernel
theorem dL_bar_24 : decode cL_bar 24 = .ok (.goto 27, 3) := by decide +kernel
theorem dL_bar_27 : decode cL_bar 27 = .ok (.iload 6, 2) := by decide +kernel
theorem dL_bar_29 : decode cL_bar 29 = .ok (.iload 4, 2) := by decide +kernel
theorem dL_bar_31 : decode cL_bar 31 = .ok (.irem, 1) := by decide +kernel
theorem dL_bar_32 : decode cL_bar 32 = .ok (.ifCond .ne 8, 3) := by decide +kernel
theorem dL_bar_35 : decode cL_bar 35 = .ok (.iload 6, 2) := by decide +kernel
theorem dL_bar_37 : decode cL_bar 37 = .ok (.goto 14, 3) := by decide +kernel
theorem dL_bar_40 : decode cL_bar 40 = .ok (.iload 6, 2) := by decide +kernel
theorem dL_bar_42 : decode cL_bar 42 = .ok (.iload 6, 2) := by decide +kernel
theorem dL_bar_44 : decode cL_bar 44 = .ok (.iload 4, 2) := by decide +kernel
theorem dL_bar_46 : decode cL_bar 46 = .ok (.irem, 1) := by decide +kernel
theorem dL_bar_47 : decode cL_bar 47 = .ok (.isub, 1) := by decide +kernel
theorem dL_bar_48 : decode cL_bar 48 = .ok (.iload 4, 2) := by decide +kernel
theorem dL_bar_50 : decode cL_bar 50 = .ok (.iadd, 1) := by decide +kernel
theorem dL_bar_51 : decode cL_bar 51 = .ok (.ireturn, 1) := by decide +kernel
theorem dL_bar_52 : decode cL_bar 52 = .ok (.bipush 12, 2) := by decide +kernel
theorem dL_bar_54 : decode cL_bar 54 = .ok (.newarray .int, 2) := by decide +kernel
theorem dL_bar_56 : decode cL_bar 56 = .ok (.astore 7, 2) := by decide +kernel
theorem dL_bar_58 : decode cL_bar 58 = .ok (.iconst 0, 1) := by decide +kernel
theorem dL_bar_59 : decode cL_bar 59 = .ok (.istore 8, 2) := by decide +kernel
theorem dL_bar_61 : decode cL_bar 61 = .ok (.iconst 0, 1) := by decide +kernel
theorem dL_bar_62 : decode cL_bar 62 = .ok (.istore 9, 2) := by decide +kernel
theorem dL_bar_64 : decode cL_bar 64 = .ok (.iconst 1, 1) := by decide +kernel
theorem dL_bar_65 : decode cL_bar 65 = .ok (.istore 10, 2) := by decide +kernel
theorem dL_bar_67 : decode cL_bar 67 = .ok (.iload 10, 2) := by decide +kernel
theorem dL_bar_69 : decode cL_bar 69 = .ok (.bipush 120, 2) := by decide +kernel
theorem dL_bar_71 : decode cL_bar 71 = .ok (.if_icmp .ge 79, 3) := by decide +kernel
theorem dL_bar_74 : decode cL_bar 74 = .ok (.iconst 0, 1) := by decide +kernel
theorem dL_bar_75 : decode cL_bar 75 = .ok (.istore 11, 2) := by decide +kernel
theorem dL_bar_77 : decode cL_bar 77 = .ok (.iload 11, 2) := by decide +kernel
theorem dL_bar_79 : decode cL_bar 79 = .ok (.bipush 12, 2) := by decide +kernel
theorem dL_bar_81 : decode cL_bar 81 = .ok (.if_icmp .ge 63, 3) := by decide +kernel
theorem dL_bar_84 : decode cL_bar 84 = .ok (.aload_n 0, 1) := by decide +kernel
theorem dL_bar_85 : decode cL_bar 85 = .ok (.aload_n 2, 1) := by decide +kernel
theorem dL_bar_86 : decode cL_bar 86 = .ok (.iload 11, 2) := by decide +kernel
theorem dL_bar_88 : decode cL_bar 88 = .ok (.invokestatic 17, 3) := by decide +kernel
theorem dL_bar_91 : decode cL_bar 91 = .ok (.lconst 0, 1) := by decide +kernel
theorem dL_bar_92 : decode cL_bar 92 = .ok (.lcmp, 1) := by decide +kernel
theorem dL_bar_93 : decode cL_bar 93 = .ok (.ifCond .le 45, 3) := by decide +kernel
theorem dL_bar_96 : decode cL_bar 96 = .ok (.aload_n 1, 1) := by decide +kernel
theorem dL_bar_97 : decode cL_bar 97 = .ok (.aload_n 0, 1) := by decide +kernel
theorem dL_bar_98 : decode cL_bar 98 = .ok (.aload_n 2, 1) := by decide +kernel
theorem dL_bar_99 : decode cL_bar 99 = .ok (.iload 11, 2) := by decide +kernel
theorem dL_bar_101 : decode cL_bar 101 = .ok (.invokestatic 17, 3) := by decide +kernel
theorem dL_bar_104 : decode cL_bar 104 = .ok (.invokestatic 21, 3) := by decide +kernel
theorem dL_bar_107 : decode cL_bar 107 = .ok (.iload 10, 2) := by decide +kernel
theorem dL_bar_109 : decode cL_bar 109 = .ok (.if_icmp .ne 29, 3) := by decide +kernel
theorem dL_bar_112 : decode cL_bar 112 = .ok (.iload 11, 2) := by decide +kernel
theorem dL_bar_114 : decode cL_bar 114 = .ok (.iload 5, 2) := by decide +kernel
theorem dL_bar_116 : decode cL_bar 116 = .ok (.if_icmp .ne 8, 3) := by decide +kernel
theorem dL_bar_119 : decode cL_bar 119 = .ok (.iload 8, 2) := by decide +kernel
theorem dL_bar_121 : decode cL_bar 121 = .ok (.goto 5, 3) := by decide +kernel
theorem dL_bar_124 : decode cL_bar 124 = .ok (.iload 9, 2) := by decide +kernel
theorem dL_bar_126 : decode cL_bar 126 = .ok (.istore 9, 2) := by decide +kernel
theorem dL_bar_128 : decode cL_bar 128 = .ok (.aload 7, 2) := by decide +kernel
theorem dL_bar_130 : decode cL_bar 130 = .ok (.iload 8, 2) := by decide +kernel
theorem dL_bar_132 : decode cL_bar 132 = .ok (.iload 10, 2) := by decide +kernel
theorem dL_bar_134 : decode cL_bar 134 = .ok (.iastore, 1) := by decide +kernel
theorem dL_bar_135 : decode cL_bar 135 = .ok (.iinc 8 1, 3) := by decide +kernel
theorem dL_bar_138 : decode cL_bar 138 = .ok (.iinc 11 1, 3) := by decide +kernel
theorem dL_bar_141 : decode cL_bar 141 = .ok (.goto (-64), 3) := by decide +kernel
theorem dL_bar_144 : decode cL_bar 144 = .ok (.iinc 10 1, 3) := by decide +kernel
theorem dL_bar_147 : decode cL_bar 147 = .ok (.goto (-80), 3) := by decide +kernel
theorem dL_bar_150 : decode cL_bar 150 = .ok (.iload_n 3, 1) := by decide +kernel
theorem dL_bar_151 : decode cL_bar 151 = .ok (.iconst 3, 1) := by decide +kernel
theorem dL_bar_152 : decode cL_bar 152 = .ok (.if_icmp .ne 8, 3) := by decide +kernel
theorem dL_bar_155 : decode cL_bar 155 = .ok (.iload 8, 2) := by decide +kernel
theorem dL_bar_157 : decode cL_bar 157 = .ok (.goto 15, 3) := by decide +kernel
theorem dL_bar_160 : decode cL_bar 160 = .ok (.iload 9, 2) := by decide +kernel
theorem dL_bar_162 : decode cL_bar 162 = .ok (.aload_n 0, 1) := by decide +kernel
theorem dL_bar_163 : decode cL_bar 163 = .ok (.iconst 2, 1) := by decide +kernel
theorem dL_bar_164 : decode cL_bar 164 = .ok (.iaload, 1) := by decide +kernel
theorem dL_bar_165 : decode cL_bar 165 = .ok (.idiv, 1) := by decide +kernel
theorem dL_bar_166 : decode cL_bar 166 = .ok (.iconst 1, 1) := by decide +kernel
theorem dL_bar_167 : decode cL_bar 167 = .ok (.iadd, 1) := by decide +kernel
theorem dL_bar_168 : decode cL_bar 168 = .ok (.aload_n 0, 1) := by decide +kernel
theorem dL_bar_169 : decode cL_bar 169 = .ok (.iconst 2, 1) := by decide +kernel
theorem dL_bar_170 : decode cL_bar 170 = .ok (.iaload, 1) := by decide +kernel
theorem dL_bar_171 : decode cL_bar 171 = .ok (.imul, 1) := by decide +kernel
theorem dL_bar_172 : decode cL_bar 172 = .ok (.istore 10, 2) := by decide +kernel
theorem dL_bar_174 : decode cL_bar 174 = .ok (.aload 7, 2) := by decide +kernel
theorem dL_bar_176 : decode cL_bar 176 = .ok (.iload 10, 2) := by decide +kernel
theorem dL_bar_178 : decode cL_bar 178 = .ok (.aload_n 0, 1) := by decide +kernel
theorem dL_bar_179 : decode cL_bar 179 = .ok (.iconst 2, 1) := by decide +kernel
theorem dL_bar_180 : decode cL_bar 180 = .ok (.iaload, 1) := by decide +kernel
theorem dL_bar_181 : decode cL_bar 181 = .ok (.iadd, 1) := by decide +kernel
theorem dL_bar_182 : decode cL_bar 182 = .ok (.iload 8, 2) := by decide +kernel
theorem dL_bar_184 : decode cL_bar 184 = .ok (.if_icmp .le 8, 3) := by decide +kernel
theorem dL_bar_187 : decode cL_bar 187 = .ok (.iload 8, 2) := by decide +kernel
theorem dL_bar_189 : decode cL_bar 189 = .ok (.goto 5, 3) := by decide +kernel
theorem dL_bar_192 : decode cL_bar 192 = .ok (.iload 10, 2) := by decide +kernel
theorem dL_bar_194 : decode cL_bar 194 = .ok (.iconst 1, 1) := by decide +kernel
theorem dL_bar_195 : decode cL_bar 195 = .ok (.isub, 1) := by decide +kernel
theorem dL_bar_196 : decode cL_bar 196 = .ok (.iaload, 1) := by decide +kernel
theorem dL_bar_197 : decode cL_bar 197 = .ok (.ireturn, 1) := by decide +kernel
set_option maxRecDepth 20000 in
theorem ggL_formOf_L_form : GoodIn wsL_formOf wsL_form := goodIn_r _ [4, 5, 6, 3, 7] (by decide +kernel) (by decide +kernel)
set_option maxRecDepth 20000 in
theorem gL_formOf_L_form : GoodIn wsL_formOf (va_wsS RL 17 yL_form wsL_form) := goodIn_app (goodIn_of _ (by decide +kernel)) ggL_formOf_L_form
theorem dL_formOf_0 : decode cL_formOf 0 = .ok (.iconst (-1), 1) := by decide +kernel
theorem dL_formOf_1 : decode cL_formOf 1 = .ok (.istore_n 3, 1) := by decide +kernel
theorem dL_formOf_2 : decode cL_formOf 2 = .ok (.bipush 11, 2) := by decide +kernel
theorem dL_formOf_4 : decode cL_formOf 4 = .ok (.istore 4, 2) := by decide +kernel
theorem dL_formOf_6 : decode cL_formOf 6 = .ok (.iload 4, 2) := by decide +kernel
theorem dL_formOf_8 : decode cL_formOf 8 = .ok (.ifCond .lt 30, 3) := by decide +kernel
theorem dL_formOf_11 : decode cL_formOf 11 = .ok (.aload_n 0, 1) := by decide +kernel
theorem dL_formOf_12 : decode cL_formOf 12 = .ok (.aload_n 1, 1) := by decide +kernel
theorem dL_formOf_13 : decode cL_formOf 13 = .ok (.iload 4, 2) := by decide +kernel
theorem dL_formOf_15 : decode cL_formOf 15 = .ok (.invokestatic 17, 3) := by decide +kernel
theorem dL_formOf_18 : decode cL_formOf 18 = .ok (.aload_n 1, 1) := by decide +kernel
theorem dL_formOf_19 : decode cL_formOf 19 = .ok (.iload_n 2, 1) := by decide +kernel
theorem dL_formOf_20 : decode cL_formOf 20 = .ok (.laload, 1) := by decide +kernel
theorem dL_formOf_21 : decode cL_formOf 21 = .ok (.lcmp, 1) := by decide +kernel
theorem dL_formOf_22 : decode cL_formOf 22 = .ok (.ifCond .ne 8, 3) := by decide +kernel
theorem dL_formOf_25 : decode cL_formOf 25 = .ok (.iload 4, 2) := by decide +kernel
theorem dL_formOf_27 : decode cL_formOf 27 = .ok (.goto 4, 3) := by decide +kernel
theorem dL_formOf_30 : decode cL_formOf 30 = .ok (.iload_n 3, 1) := by decide +kernel
theorem dL_formOf_31 : decode cL_formOf 31 = .ok (.istore_n 3, 1) := by decide +kernel
theorem dL_formOf_32 : decode cL_formOf 32 = .ok (.iinc 4 (-1), 3) := by decide +kernel
theorem dL_formOf_35 : decode cL_formOf 35 = .ok (.goto (-29), 3) := by decide +kernel
theorem dL_formOf_38 : decode cL_formOf 38 = .ok (.iload_n 3, 1) := by decide +kernel
theorem dL_formOf_39 : decode cL_formOf 39 = .ok (.ireturn, 1) := by decide +kernel
set_option maxRecDepth 20000 in
theorem ggL_shown_L_formOf : GoodIn wsL_shown wsL_formOf := goodIn_r _ [4, 5, 6, 3, 7, 8, 9, 10] (by decide +kernel) (by decide +kernel)
set_option maxRecDepth 20000 in
theorem gL_shown_L_formOf : GoodIn wsL_shown (va_wsS RL 25 yL_formOf wsL_formOf) := goodIn_app (goodIn_of _ (by decide +kernel)) ggL_shown_L_formOf
set_option maxRecDepth 20000 in
theorem ggL_shown_L_width : GoodIn wsL_shown wsL_width := goodIn_r _ [13, 14, 8, 9, 3, 10] (by decide +kernel) (by decide +kernel)
set_option maxRecDepth 20000 in
theorem gL_shown_L_width : GoodIn wsL_shown (va_wsS RL 21 yL_width wsL_width) := goodIn_app (goodIn_of _ (by decide +kernel)) ggL_shown_L_width
set_option maxRecDepth 20000 in
theorem ggL_shown_L_bar : GoodIn wsL_shown wsL_bar := goodIn_r _ [17, 18, 5, 6, 3, 7, 8, 9, 10, 11, 12, 13, 14] (by decide +kernel) (by decide +kernel)
set_option maxRecDepth 20000 in
theorem gL_shown_L_bar : GoodIn wsL_shown (va_wsS RL 29 yL_bar wsL_bar) := goodIn_app (goodIn_of _ (by decide +kernel)) ggL_shown_L_bar
theorem dL_shown_0 : decode cL_shown 0 = .ok (.aload_n 0, 1) := by decide +kernel
theorem dL_shown_1 : decode cL_shown 1 = .ok (.aload_n 2, 1) := by decide +kernel
theorem dL_shown_2 : decode cL_shown 2 = .ok (.iload 5, 2) := by decide +kernel
theorem dL_shown_4 : decode cL_shown 4 = .ok (.invokestatic 25, 3) := by decide +kernel
theorem dL_shown_7 : decode cL_shown 7 = .ok (.istore 6, 2) := by decide +kernel
theorem dL_shown_9 : decode cL_shown 9 = .ok (.iload 6, 2) := by decide +kernel
theorem dL_shown_11 : decode cL_shown 11 = .ok (.ifCond .ge 14, 3) := by decide +kernel
theorem dL_shown_14 : decode cL_shown 14 = .ok (.aload_n 1, 1) := by decide +kernel
theorem dL_shown_15 : decode cL_shown 15 = .ok (.aload_n 2, 1) := by decide +kernel
theorem dL_shown_16 : decode cL_shown 16 = .ok (.iload 5, 2) := by decide +kernel
theorem dL_shown_18 : decode cL_shown 18 = .ok (.laload, 1) := by decide +kernel
theorem dL_shown_19 : decode cL_shown 19 = .ok (.invokestatic 21, 3) := by decide +kernel
theorem dL_shown_22 : decode cL_shown 22 = .ok (.goto 14, 3) := by decide +kernel
theorem dL_shown_25 : decode cL_shown 25 = .ok (.aload_n 0, 1) := by decide +kernel
theorem dL_shown_26 : decode cL_shown 26 = .ok (.aload_n 1, 1) := by decide +kernel
theorem dL_shown_27 : decode cL_shown 27 = .ok (.aload_n 2, 1) := by decide +kernel
theorem dL_shown_28 : decode cL_shown 28 = .ok (.iload_n 3, 1) := by decide +kernel
theorem dL_shown_29 : decode cL_shown 29 = .ok (.iload 4, 2) := by decide +kernel
theorem dL_shown_31 : decode cL_shown 31 = .ok (.iload 6, 2) := by decide +kernel
theorem dL_shown_33 : decode cL_shown 33 = .ok (.invokestatic 29, 3) := by decide +kernel
theorem dL_shown_36 : decode cL_shown 36 = .ok (.ireturn, 1) := by decide +kernel
set_option maxRecDepth 20000 in
theorem ggL_under_L_form : GoodIn wsL_under wsL_form := goodIn_r _ [4, 5, 6, 3, 7] (by decide +kernel) (by decide +kernel)
set_option maxRecDepth 20000 in
theorem gL_under_L_form : GoodIn wsL_under (va_wsS RL 17 yL_form wsL_form) := goodIn_app (goodIn_of _ (by decide +kernel)) ggL_under_L_form
set_option maxRecDepth 20000 in
theorem ggL_under_L_bar : GoodIn wsL_under wsL_bar := goodIn_r _ [10, 11, 1, 2, 3, 4, 5, 6, 7, 12, 13, 14, 15] (by decide +kernel) (by decide +kernel)
set_option maxRecDepth 20000 in
theorem gL_under_L_bar : GoodIn wsL_under (va_wsS RL 29 yL_bar wsL_bar) := goodIn_app (goodIn_of _ (by decide +kernel)) ggL_under_L_bar
theorem dL_under_0 : decode cL_under 0 = .ok (.iconst 0, 1) := by decide +kernel
theorem dL_under_1 : decode cL_under 1 = .ok (.istore 6, 2) := by decide +kernel
theorem dL_under_3 : decode cL_under 3 = .ok (.iconst 0, 1) := by decide +kernel
theorem dL_under_4 : decode cL_under 4 = .ok (.istore 7, 2) := by decide +kernel
theorem dL_under_6 : decode cL_under 6 = .ok (.iload 7, 2) := by decide +kernel
theorem dL_under_8 : decode cL_under 8 = .ok (.bipush 12, 2) := by decide +kernel
theorem dL_under_10 : decode cL_under 10 = .ok (.if_icmp .ge 52, 3) := by decide +kernel
theorem dL_under_13 : decode cL_under 13 = .ok (.iload 6, 2) := by decide +kernel
theorem dL_under_15 : decode cL_under 15 = .ok (.aload_n 0, 1) := by decide +kernel
theorem dL_under_16 : decode cL_under 16 = .ok (.aload_n 2, 1) := by decide +kernel
theorem dL_under_17 : decode cL_under 17 = .ok (.iload 7, 2) := by decide +kernel
theorem dL_under_19 : decode cL_under 19 = .ok (.invokestatic 17, 3) := by decide +kernel
theorem dL_under_22 : decode cL_under 22 = .ok (.lconst 0, 1) := by decide +kernel
theorem dL_under_23 : decode cL_under 23 = .ok (.lcmp, 1) := by decide +kernel
theorem dL_under_24 : decode cL_under 24 = .ok (.ifCond .le 28, 3) := by decide +kernel
theorem dL_under_27 : decode cL_under 27 = .ok (.aload_n 0, 1) := by decide +kernel
theorem dL_under_28 : decode cL_under 28 = .ok (.aload_n 1, 1) := by decide +kernel
theorem dL_under_29 : decode cL_under 29 = .ok (.aload_n 2, 1) := by decide +kernel
theorem dL_under_30 : decode cL_under 30 = .ok (.iload_n 3, 1) := by decide +kernel
theorem dL_under_31 : decode cL_under 31 = .ok (.iload 4, 2) := by decide +kernel
theorem dL_under_33 : decode cL_under 33 = .ok (.iload 7, 2) := by decide +kernel
theorem dL_under_35 : decode cL_under 35 = .ok (.invokestatic 29, 3) := by decide +kernel
theorem dL_under_38 : decode cL_under 38 = .ok (.iload 5, 2) := by decide +kernel
theorem dL_under_40 : decode cL_under 40 = .ok (.if_icmp .ne 12, 3) := by decide +kernel
theorem dL_under_43 : decode cL_under 43 = .ok (.iconst 1, 1) := by decide +kernel
theorem dL_under_44 : decode cL_under 44 = .ok (.iload 7, 2) := by decide +kernel
theorem dL_under_46 : decode cL_under 46 = .ok (.iconst 3, 1) := by decide +kernel
theorem dL_under_47 : decode cL_under 47 = .ok (.idiv, 1) := by decide +kernel
theorem dL_under_48 : decode cL_under 48 = .ok (.ishl, 1) := by decide +kernel
theorem dL_under_49 : decode cL_under 49 = .ok (.goto 4, 3) := by decide +kernel
theorem dL_under_52 : decode cL_under 52 = .ok (.iconst 0, 1) := by decide +kernel
theorem dL_under_53 : decode cL_under 53 = .ok (.ior, 1) := by decide +kernel
theorem dL_under_54 : decode cL_under 54 = .ok (.istore 6, 2) := by decide +kernel
theorem dL_under_56 : decode cL_under 56 = .ok (.iinc 7 1, 3) := by decide +kernel
theorem dL_under_59 : decode cL_under 59 = .ok (.goto (-53), 3) := by decide +kernel
theorem dL_under_62 : decode cL_under 62 = .ok (.iload 6, 2) := by decide +kernel
theorem dL_under_64 : decode cL_under 64 = .ok (.ireturn, 1) := by decide +kernel
theorem dL_ones_0 : decode cL_ones 0 = .ok (.iconst 0, 1) := by decide +kernel
theorem dL_ones_1 : decode cL_ones 1 = .ok (.istore_n 1, 1) := by decide +kernel
theorem dL_ones_2 : decode cL_ones 2 = .ok (.iload_n 0, 1) := by decide +kernel
theorem dL_ones_3 : decode cL_ones 3 = .ok (.istore_n 2, 1) := by decide +kernel
theorem dL_ones_4 : decode cL_ones 4 = .ok (.iload_n 2, 1) := by decide +kernel
theorem dL_ones_5 : decode cL_ones 5 = .ok (.ifCond .le 15, 3) := by decide +kernel
theorem dL_ones_8 : decode cL_ones 8 = .ok (.iinc 1 1, 3) := by decide +kernel
theorem dL_ones_11 : decode cL_ones 11 = .ok (.iload_n 2, 1) := by decide +kernel
theorem dL_ones_12 : decode cL_ones 12 = .ok (.iload_n 2, 1) := by decide +kernel
theorem dL_ones_13 : decode cL_ones 13 = .ok (.iconst 1, 1) := by decide +kernel
theorem dL_ones_14 : decode cL_ones 14 = .ok (.isub, 1) := by decide +kernel
theorem dL_ones_15 : decode cL_ones 15 = .ok (.iand, 1) := by decide +kernel
theorem dL_ones_16 : decode cL_ones 16 = .ok (.istore_n 2, 1) := by decide +kernel
theorem dL_ones_17 : decode cL_ones 17 = .ok (.goto (-13), 3) := by decide +kernel
theorem dL_ones_20 : decode cL_ones 20 = .ok (.iload_n 1, 1) := by decide +kernel
theorem dL_ones_21 : decode cL_ones 21 = .ok (.ireturn, 1) := by decide +kernel
set_option maxRecDepth 20000 in
theorem ggL_says_L_length : GoodIn wsL_says wsL_length := goodIn_r _ [5] (by decide +kernel) (by decide +kernel)
set_option maxRecDepth 20000 in
theorem gL_says_L_length : GoodIn wsL_says (va_wsS RL 9 yL_length wsL_length) := goodIn_app (goodIn_of _ (by decide +kernel)) ggL_says_L_length
set_option maxRecDepth 20000 in
theorem ggL_says_X8_type : GoodIn wsL_says wsX8_type := goodIn_r _ [10, 11, 12, 13, 14, 15, 16, 17, 18, 19, 20, 21, 22, 23, 24, 25, 26, 27, 28, 29, 30, 31, 32, 33, 34, 35, 36, 37, 38] (by decide +kernel) (by decide +kernel)
set_option maxRecDepth 20000 in
theorem gL_says_X8_type : GoodIn wsL_says (wsV RL 33 RX8 yX8_type wsX8_type) := goodIn_app (goodIn_of _ (by decide +kernel)) ggL_says_X8_type
theorem dL_says_0 : decode cL_says 0 = .ok (.iconst 1, 1) := by decide +kernel
theorem dL_says_1 : decode cL_says 1 = .ok (.istore_n 3, 1) := by decide +kernel
theorem dL_says_2 : decode cL_says 2 = .ok (.lload_n 1, 1) := by decide +kernel
theorem dL_says_3 : decode cL_says 3 = .ok (.invokestatic 9, 3) := by decide +kernel
theorem dL_says_6 : decode cL_says 6 = .ok (.iconst 1, 1) := by decide +kernel
theorem dL_says_7 : decode cL_says 7 = .ok (.isub, 1) := by decide +kernel
theorem dL_says_8 : decode cL_says 8 = .ok (.istore 4, 2) := by decide +kernel
theorem dL_says_10 : decode cL_says 10 = .ok (.iload 4, 2) := by decide +kernel
theorem dL_says_12 : decode cL_says 12 = .ok (.ifCond .lt 40, 3) := by decide +kernel
theorem dL_says_15 : decode cL_says 15 = .ok (.iload_n 3, 1) := by decide +kernel
theorem dL_says_16 : decode cL_says 16 = .ok (.ifCond .eq 28, 3) := by decide +kernel
theorem dL_says_19 : decode cL_says 19 = .ok (.aload_n 0, 1) := by decide +kernel
theorem dL_says_20 : decode cL_says 20 = .ok (.bipush 96, 2) := by decide +kernel
theorem dL_says_22 : decode cL_says 22 = .ok (.lload_n 1, 1) := by decide +kernel
theorem dL_says_23 : decode cL_says 23 = .ok (.iconst 5, 1) := by decide +kernel
theorem dL_says_24 : decode cL_says 24 = .ok (.iload 4, 2) := by decide +kernel
theorem dL_says_26 : decode cL_says 26 = .ok (.imul, 1) := by decide +kernel
theorem dL_says_27 : decode cL_says 27 = .ok (.lshr, 1) := by decide +kernel
theorem dL_says_28 : decode cL_says 28 = .ok (.ldc2_w 15, 3) := by decide +kernel
theorem dL_says_31 : decode cL_says 31 = .ok (.land, 1) := by decide +kernel
theorem dL_says_32 : decode cL_says 32 = .ok (.l2i, 1) := by decide +kernel
theorem dL_says_33 : decode cL_says 33 = .ok (.iadd, 1) := by decide +kernel
theorem dL_says_34 : decode cL_says 34 = .ok (.invokevirtual 33, 3) := by decide +kernel
theorem dL_says_37 : decode cL_says 37 = .ok (.ifCond .le 7, 3) := by decide +kernel
theorem dL_says_40 : decode cL_says 40 = .ok (.iconst 1, 1) := by decide +kernel
theorem dL_says_41 : decode cL_says 41 = .ok (.goto 4, 3) := by decide +kernel
theorem dL_says_44 : decode cL_says 44 = .ok (.iconst 0, 1) := by decide +kernel
theorem dL_says_45 : decode cL_says 45 = .ok (.istore_n 3, 1) := by decide +kernel
theorem dL_says_46 : decode cL_says 46 = .ok (.iinc 4 (-1), 3) := by decide +kernel
theorem dL_says_49 : decode cL_says 49 = .ok (.goto (-39), 3) := by decide +kernel
theorem dL_says_52 : decode cL_says 52 = .ok (.iload_n 3, 1) := by decide +kernel
theorem dL_says_53 : decode cL_says 53 = .ok (.ireturn, 1) := by decide +kernel
set_option maxRecDepth 20000 in
theorem ggL_letters_L_low : GoodIn wsL_letters wsL_low := goodIn_r _ [4, 5] (by decide +kernel) (by decide +kernel)
set_option maxRecDepth 20000 in
theorem gL_letters_L_low : GoodIn wsL_letters (va_wsS RL 39 yL_low wsL_low) := goodIn_app (goodIn_of _ (by decide +kernel)) ggL_letters_L_low
theorem dL_letters_0 : decode cL_letters 0 = .ok (.lconst 0, 1) := by decide +kernel
theorem dL_letters_1 : decode cL_letters 1 = .ok (.lstore_n 2, 1) := by decide +kernel
theorem dL_letters_2 : decode cL_letters 2 = .ok (.iconst 0, 1) := by decide +kernel
theorem dL_letters_3 : decode cL_letters 3 = .ok (.istore 4, 2) := by decide +kernel
theorem dL_letters_5 : decode cL_letters 5 = .ok (.iload 4, 2) := by decide +kernel
theorem dL_letters_7 : decode cL_letters 7 = .ok (.iload_n 1, 1) := by decide +kernel
theorem dL_letters_8 : decode cL_letters 8 = .ok (.if_icmp .ge 82, 3) := by decide +kernel
theorem dL_letters_11 : decode cL_letters 11 = .ok (.iload_n 0, 1) := by decide +kernel
theorem dL_letters_12 : decode cL_letters 12 = .ok (.iconst 3, 1) := by decide +kernel
theorem dL_letters_13 : decode cL_letters 13 = .ok (.iload 4, 2) := by decide +kernel
theorem dL_letters_15 : decode cL_letters 15 = .ok (.imul, 1) := by decide +kernel
theorem dL_letters_16 : decode cL_letters 16 = .ok (.ishr, 1) := by decide +kernel
theorem dL_letters_17 : decode cL_letters 17 = .ok (.bipush 6, 2) := by decide +kernel
theorem dL_letters_19 : decode cL_letters 19 = .ok (.invokestatic 39, 3) := by decide +kernel
theorem dL_letters_22 : decode cL_letters 22 = .ok (.istore 5, 2) := by decide +kernel
theorem dL_letters_24 : decode cL_letters 24 = .ok (.lload_n 2, 1) := by decide +kernel
theorem dL_letters_25 : decode cL_letters 25 = .ok (.iconst 5, 1) := by decide +kernel
theorem dL_letters_26 : decode cL_letters 26 = .ok (.lshl, 1) := by decide +kernel
theorem dL_letters_27 : decode cL_letters 27 = .ok (.iload 5, 2) := by decide +kernel
theorem dL_letters_29 : decode cL_letters 29 = .ok (.ifCond .ne 7, 3) := by decide +kernel
theorem dL_letters_32 : decode cL_letters 32 = .ok (.iconst 1, 1) := by decide +kernel
theorem dL_letters_33 : decode cL_letters 33 = .ok (.goto 48, 3) := by decide +kernel
theorem dL_letters_36 : decode cL_letters 36 = .ok (.iload 5, 2) := by decide +kernel
theorem dL_letters_38 : decode cL_letters 38 = .ok (.iconst 1, 1) := by decide +kernel
theorem dL_letters_39 : decode cL_letters 39 = .ok (.if_icmp .ne 8, 3) := by decide +kernel
theorem dL_letters_42 : decode cL_letters 42 = .ok (.bipush 9, 2) := by decide +kernel
theorem dL_letters_44 : decode cL_letters 44 = .ok (.goto 37, 3) := by decide +kernel
theorem dL_letters_47 : decode cL_letters 47 = .ok (.iload 5, 2) := by decide +kernel
theorem dL_letters_49 : decode cL_letters 49 = .ok (.iconst 2, 1) := by decide +kernel
theorem dL_letters_50 : decode cL_letters 50 = .ok (.if_icmp .ne 8, 3) := by decide +kernel
theorem dL_letters_53 : decode cL_letters 53 = .ok (.bipush 13, 2) := by decide +kernel
theorem dL_letters_55 : decode cL_letters 55 = .ok (.goto 26, 3) := by decide +kernel
theorem dL_letters_58 : decode cL_letters 58 = .ok (.iload 5, 2) := by decide +kernel
theorem dL_letters_60 : decode cL_letters 60 = .ok (.iconst 3, 1) := by decide +kernel
theorem dL_letters_61 : decode cL_letters 61 = .ok (.if_icmp .ne 8, 3) := by decide +kernel
theorem dL_letters_64 : decode cL_letters 64 = .ok (.bipush 6, 2) := by decide +kernel
theorem dL_letters_66 : decode cL_letters 66 = .ok (.goto 15, 3) := by decide +kernel
theorem dL_letters_69 : decode cL_letters 69 = .ok (.iload 5, 2) := by decide +kernel
theorem dL_letters_71 : decode cL_letters 71 = .ok (.iconst 4, 1) := by decide +kernel
theorem dL_letters_72 : decode cL_letters 72 = .ok (.if_icmp .ne 8, 3) := by decide +kernel
theorem dL_letters_75 : decode cL_letters 75 = .ok (.bipush 20, 2) := by decide +kernel
theorem dL_letters_77 : decode cL_letters 77 = .ok (.goto 4, 3) := by decide +kernel
theorem dL_letters_80 : decode cL_letters 80 = .ok (.iconst 2, 1) := by decide +kernel
theorem dL_letters_81 : decode cL_letters 81 = .ok (.i2l, 1) := by decide +kernel
theorem dL_letters_82 : decode cL_letters 82 = .ok (.lor, 1) := by decide +kernel
theorem dL_letters_83 : decode cL_letters 83 = .ok (.lstore_n 2, 1) := by decide +kernel
theorem dL_letters_84 : decode cL_letters 84 = .ok (.iinc 4 1, 3) := by decide +kernel
theorem dL_letters_87 : decode cL_letters 87 = .ok (.goto (-82), 3) := by decide +kernel
theorem dL_letters_90 : decode cL_letters 90 = .ok (.lload_n 2, 1) := by decide +kernel
theorem dL_letters_91 : decode cL_letters 91 = .ok (.lreturn, 1) := by decide +kernel
set_option maxRecDepth 20000 in
theorem ggL_acts_L_low : GoodIn wsL_acts wsL_low := goodIn_r _ [5, 6] (by decide +kernel) (by decide +kernel)
set_option maxRecDepth 20000 in
theorem gL_acts_L_low : GoodIn wsL_acts (va_wsS RL 39 yL_low wsL_low) := goodIn_app (goodIn_of _ (by decide +kernel)) ggL_acts_L_low
set_option maxRecDepth 20000 in
theorem ggL_acts_X8_clearText : GoodIn wsL_acts wsX8_clearText := goodIn_r _ [11, 12, 13, 14, 15, 16, 17, 18, 19, 20, 21, 22, 356, 357, 358, 359, 360, 361, 362, 363, 364] (by decide +kernel) (by decide +kernel)
set_option maxRecDepth 20000 in
theorem gL_acts_X8_clearText : GoodIn wsL_acts (wsV RL 44 RX8 yX8_clearText wsX8_clearText) := goodIn_app (goodIn_of _ (by decide +kernel)) ggL_acts_X8_clearText
set_option maxRecDepth 20000 in
theorem ggL_acts_L_form : GoodIn wsL_acts wsL_form := goodIn_r _ [25, 26, 27, 4, 28] (by decide +kernel) (by decide +kernel)
set_option maxRecDepth 20000 in
theorem gL_acts_L_form : GoodIn wsL_acts (va_wsS RL 17 yL_form wsL_form) := goodIn_app (goodIn_of _ (by decide +kernel)) ggL_acts_L_form
set_option maxRecDepth 20000 in
theorem ggL_acts_L_letters : GoodIn wsL_acts wsL_letters := goodIn_r _ [31, 2, 3, 4, 5, 6] (by decide +kernel) (by decide +kernel)
set_option maxRecDepth 20000 in
theorem gL_acts_L_letters : GoodIn wsL_acts (va_wsS RL 48 yL_letters wsL_letters) := goodIn_app (goodIn_of _ (by decide +kernel)) ggL_acts_L_letters
set_option maxRecDepth 20000 in
theorem ggL_acts_X8_type : GoodIn wsL_acts wsX8_type := goodIn_r _ [35, 12, 13, 14, 15, 16, 17, 18, 36, 37, 38, 39, 40, 41, 42, 43, 44, 45, 46, 356, 357, 358, 359, 360, 361, 362, 363, 364, 365] (by decide +kernel) (by decide +kernel)
set_option maxRecDepth 20000 in
theorem gL_acts_X8_type : GoodIn wsL_acts (wsV RL 33 RX8 yX8_type wsX8_type) := goodIn_app (goodIn_of _ (by decide +kernel)) ggL_acts_X8_type
set_option maxRecDepth 20000 in
theorem ggL_acts_L_says : GoodIn wsL_acts wsL_says := goodIn_r _ [49, 50, 26, 27, 4, 28, 32, 33, 34, 10, 35, 12, 13, 14, 15, 16, 17, 18, 36, 37, 38, 39, 40, 41, 42, 43, 44, 45, 46, 356, 357, 358, 359, 360, 361, 362, 363, 364, 365] (by decide +kernel) (by decide +kernel)
set_option maxRecDepth 20000 in
theorem gL_acts_L_says : GoodIn wsL_acts (va_wsS RL 52 yL_says wsL_says) := goodIn_app (goodIn_of _ (by decide +kernel)) ggL_acts_L_says
