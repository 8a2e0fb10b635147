set_option maxRecDepth 20000 in
theorem gL_isSo_L_length : GoodIn wsL_isSo (va_wsS RL 9 yL_length wsL_length) := goodIn_app (goodIn_of _ (by decide +kernel)) ggL_isSo_L_length
set_option maxRecDepth 20000 in
theorem ggL_isSo_L_ones : GoodIn wsL_isSo wsL_ones := goodIn_r _ [228] (by decide +kernel) (by decide +kernel)
set_option maxRecDepth 20000 in
theorem gL_isSo_L_ones : GoodIn wsL_isSo (va_wsS RL 95 yL_ones wsL_ones) := goodIn_app (goodIn_of _ (by decide +kernel)) ggL_isSo_L_ones
set_option maxRecDepth 20000 in
theorem ggL_isSo_X8_letter : GoodIn wsL_isSo wsX8_letter := goodIn_r _ [232, 8, 9, 197, 198, 199, 17, 200, 19, 208, 26, 27, 23, 28, 29, 30, 31, 32, 33, 34, 35, 201, 202, 203, 204, 205, 206, 233, 234, 235, 236, 237, 238, 239, 240, 241, 242, 243, 244, 245, 246, 247, 248, 249, 250, 251, 252, 253, 254, 255, 256, 257, 258, 259, 260, 261, 262, 263, 264, 265] (by decide +kernel) (by decide +kernel)
set_option maxRecDepth 20000 in
theorem gL_isSo_X8_letter : GoodIn wsL_isSo (wsV RL 98 RX8 yX8_letter wsX8_letter) := goodIn_app (goodIn_of _ (by decide +kernel)) ggL_isSo_X8_letter
theorem dL_isSo_0 : decode cL_isSo 0 = .ok (.bipush 6, 2) := by decide +kernel
theorem dL_isSo_2 : decode cL_isSo 2 = .ok (.newarray .int, 2) := by decide +kernel
theorem dL_isSo_4 : decode cL_isSo 4 = .ok (.astore 4, 2) := by decide +kernel
theorem dL_isSo_6 : decode cL_isSo 6 = .ok (.bipush 8, 2) := by decide +kernel
theorem dL_isSo_8 : decode cL_isSo 8 = .ok (.newarray .int, 2) := by decide +kernel
theorem dL_isSo_10 : decode cL_isSo 10 = .ok (.astore 5, 2) := by decide +kernel
theorem dL_isSo_12 : decode cL_isSo 12 = .ok (.iconst (-1), 1) := by decide +kernel
theorem dL_isSo_13 : decode cL_isSo 13 = .ok (.istore 6, 2) := by decide +kernel
theorem dL_isSo_15 : decode cL_isSo 15 = .ok (.iconst 0, 1) := by decide +kernel
theorem dL_isSo_16 : decode cL_isSo 16 = .ok (.istore 7, 2) := by decide +kernel
theorem dL_isSo_18 : decode cL_isSo 18 = .ok (.iconst 0, 1) := by decide +kernel
theorem dL_isSo_19 : decode cL_isSo 19 = .ok (.istore 8, 2) := by decide +kernel
theorem dL_isSo_21 : decode cL_isSo 21 = .ok (.aload_n 0, 1) := by decide +kernel
theorem dL_isSo_22 : decode cL_isSo 22 = .ok (.iconst 0, 1) := by decide +kernel
theorem dL_isSo_23 : decode cL_isSo 23 = .ok (.invokevirtual 77, 3) := by decide +kernel
theorem dL_isSo_26 : decode cL_isSo 26 = .ok (.aload_n 1, 1) := by decide +kernel
theorem dL_isSo_27 : decode cL_isSo 27 = .ok (.iconst 5, 1) := by decide +kernel
theorem dL_isSo_28 : decode cL_isSo 28 = .ok (.iaload, 1) := by decide +kernel
theorem dL_isSo_29 : decode cL_isSo 29 = .ok (.if_icmp .ne 50, 3) := by decide +kernel
theorem dL_isSo_32 : decode cL_isSo 32 = .ok (.aload_n 0, 1) := by decide +kernel
theorem dL_isSo_33 : decode cL_isSo 33 = .ok (.iconst 3, 1) := by decide +kernel
theorem dL_isSo_34 : decode cL_isSo 34 = .ok (.invokevirtual 77, 3) := by decide +kernel
theorem dL_isSo_37 : decode cL_isSo 37 = .ok (.aload_n 1, 1) := by decide +kernel
theorem dL_isSo_38 : decode cL_isSo 38 = .ok (.bipush 6, 2) := by decide +kernel
theorem dL_isSo_40 : decode cL_isSo 40 = .ok (.iaload, 1) := by decide +kernel
theorem dL_isSo_41 : decode cL_isSo 41 = .ok (.if_icmp .ne 38, 3) := by decide +kernel
theorem dL_isSo_44 : decode cL_isSo 44 = .ok (.aload_n 0, 1) := by decide +kernel
theorem dL_isSo_45 : decode cL_isSo 45 = .ok (.iconst 4, 1) := by decide +kernel
theorem dL_isSo_46 : decode cL_isSo 46 = .ok (.invokevirtual 77, 3) := by decide +kernel
theorem dL_isSo_49 : decode cL_isSo 49 = .ok (.aload_n 1, 1) := by decide +kernel
theorem dL_isSo_50 : decode cL_isSo 50 = .ok (.bipush 7, 2) := by decide +kernel
theorem dL_isSo_52 : decode cL_isSo 52 = .ok (.iaload, 1) := by decide +kernel
theorem dL_isSo_53 : decode cL_isSo 53 = .ok (.if_icmp .ne 26, 3) := by decide +kernel
theorem dL_isSo_56 : decode cL_isSo 56 = .ok (.aload_n 0, 1) := by decide +kernel
theorem dL_isSo_57 : decode cL_isSo 57 = .ok (.iconst 5, 1) := by decide +kernel
theorem dL_isSo_58 : decode cL_isSo 58 = .ok (.invokevirtual 77, 3) := by decide +kernel
theorem dL_isSo_61 : decode cL_isSo 61 = .ok (.aload_n 1, 1) := by decide +kernel
theorem dL_isSo_62 : decode cL_isSo 62 = .ok (.bipush 6, 2) := by decide +kernel
theorem dL_isSo_64 : decode cL_isSo 64 = .ok (.iaload, 1) := by decide +kernel
theorem dL_isSo_65 : decode cL_isSo 65 = .ok (.aload_n 1, 1) := by decide +kernel
theorem dL_isSo_66 : decode cL_isSo 66 = .ok (.bipush 7, 2) := by decide +kernel
theorem dL_isSo_68 : decode cL_isSo 68 = .ok (.iaload, 1) := by decide +kernel
theorem dL_isSo_69 : decode cL_isSo 69 = .ok (.iconst 1, 1) := by decide +kernel
theorem dL_isSo_70 : decode cL_isSo 70 = .ok (.iadd, 1) := by decide +kernel
theorem dL_isSo_71 : decode cL_isSo 71 = .ok (.imul, 1) := by decide +kernel
theorem dL_isSo_72 : decode cL_isSo 72 = .ok (.if_icmp .ne 7, 3) := by decide +kernel
theorem dL_isSo_75 : decode cL_isSo 75 = .ok (.iconst 1, 1) := by decide +kernel
theorem dL_isSo_76 : decode cL_isSo 76 = .ok (.goto 4, 3) := by decide +kernel
theorem dL_isSo_79 : decode cL_isSo 79 = .ok (.iconst 0, 1) := by decide +kernel
theorem dL_isSo_80 : decode cL_isSo 80 = .ok (.istore 9, 2) := by decide +kernel
theorem dL_isSo_82 : decode cL_isSo 82 = .ok (.iconst 0, 1) := by decide +kernel
theorem dL_isSo_83 : decode cL_isSo 83 = .ok (.istore 10, 2) := by decide +kernel
theorem dL_isSo_85 : decode cL_isSo 85 = .ok (.iload 10, 2) := by decide +kernel
theorem dL_isSo_87 : decode cL_isSo 87 = .ok (.iconst 5, 1) := by decide +kernel
theorem dL_isSo_88 : decode cL_isSo 88 = .ok (.if_icmp .ge 37, 3) := by decide +kernel
theorem dL_isSo_91 : decode cL_isSo 91 = .ok (.iload 9, 2) := by decide +kernel
theorem dL_isSo_93 : decode cL_isSo 93 = .ok (.ifCond .eq 23, 3) := by decide +kernel
theorem dL_isSo_96 : decode cL_isSo 96 = .ok (.aload_n 0, 1) := by decide +kernel
theorem dL_isSo_97 : decode cL_isSo 97 = .ok (.bipush 6, 2) := by decide +kernel
theorem dL_isSo_99 : decode cL_isSo 99 = .ok (.iload 10, 2) := by decide +kernel
theorem dL_isSo_101 : decode cL_isSo 101 = .ok (.iadd, 1) := by decide +kernel
theorem dL_isSo_102 : decode cL_isSo 102 = .ok (.invokevirtual 77, 3) := by decide +kernel
theorem dL_isSo_105 : decode cL_isSo 105 = .ok (.aload_n 1, 1) := by decide +kernel
theorem dL_isSo_106 : decode cL_isSo 106 = .ok (.iload 10, 2) := by decide +kernel
theorem dL_isSo_108 : decode cL_isSo 108 = .ok (.iaload, 1) := by decide +kernel
theorem dL_isSo_109 : decode cL_isSo 109 = .ok (.if_icmp .ne 7, 3) := by decide +kernel
theorem dL_isSo_112 : decode cL_isSo 112 = .ok (.iconst 1, 1) := by decide +kernel
theorem dL_isSo_113 : decode cL_isSo 113 = .ok (.goto 4, 3) := by decide +kernel
theorem dL_isSo_116 : decode cL_isSo 116 = .ok (.iconst 0, 1) := by decide +kernel
theorem dL_isSo_117 : decode cL_isSo 117 = .ok (.istore 9, 2) := by decide +kernel
theorem dL_isSo_119 : decode cL_isSo 119 = .ok (.iinc 10 1, 3) := by decide +kernel
theorem dL_isSo_122 : decode cL_isSo 122 = .ok (.goto (-37), 3) := by decide +kernel
theorem dL_isSo_125 : decode cL_isSo 125 = .ok (.iconst 0, 1) := by decide +kernel
theorem dL_isSo_126 : decode cL_isSo 126 = .ok (.istore 10, 2) := by decide +kernel
theorem dL_isSo_128 : decode cL_isSo 128 = .ok (.iload 10, 2) := by decide +kernel
theorem dL_isSo_130 : decode cL_isSo 130 = .ok (.aload_n 1, 1) := by decide +kernel
theorem dL_isSo_131 : decode cL_isSo 131 = .ok (.iconst 5, 1) := by decide +kernel
theorem dL_isSo_132 : decode cL_isSo 132 = .ok (.iaload, 1) := by decide +kernel
theorem dL_isSo_133 : decode cL_isSo 133 = .ok (.if_icmp .ge 742, 3) := by decide +kernel
theorem dL_isSo_136 : decode cL_isSo 136 = .ok (.iload 9, 2) := by decide +kernel
theorem dL_isSo_138 : decode cL_isSo 138 = .ok (.ifCond .eq 737, 3) := by decide +kernel
theorem dL_isSo_141 : decode cL_isSo 141 = .ok (.aload_n 1, 1) := by decide +kernel
theorem dL_isSo_142 : decode cL_isSo 142 = .ok (.aload_n 3, 1) := by decide +kernel
theorem dL_isSo_143 : decode cL_isSo 143 = .ok (.iload 10, 2) := by decide +kernel
theorem dL_isSo_145 : decode cL_isSo 145 = .ok (.invokestatic 25, 3) := by decide +kernel
theorem dL_isSo_148 : decode cL_isSo 148 = .ok (.istore 11, 2) := by decide +kernel
theorem dL_isSo_150 : decode cL_isSo 150 = .ok (.aload_n 2, 1) := by decide +kernel
theorem dL_isSo_151 : decode cL_isSo 151 = .ok (.aload_n 3, 1) := by decide +kernel
theorem dL_isSo_152 : decode cL_isSo 152 = .ok (.iload 10, 2) := by decide +kernel
theorem dL_isSo_154 : decode cL_isSo 154 = .ok (.laload, 1) := by decide +kernel
theorem dL_isSo_155 : decode cL_isSo 155 = .ok (.invokestatic 21, 3) := by decide +kernel
theorem dL_isSo_158 : decode cL_isSo 158 = .ok (.istore 12, 2) := by decide +kernel
theorem dL_isSo_160 : decode cL_isSo 160 = .ok (.aload_n 1, 1) := by decide +kernel
theorem dL_isSo_161 : decode cL_isSo 161 = .ok (.aload_n 2, 1) := by decide +kernel
theorem dL_isSo_162 : decode cL_isSo 162 = .ok (.aload_n 3, 1) := by decide +kernel
theorem dL_isSo_163 : decode cL_isSo 163 = .ok (.aload_n 1, 1) := by decide +kernel
theorem dL_isSo_164 : decode cL_isSo 164 = .ok (.iconst 0, 1) := by decide +kernel
theorem dL_isSo_165 : decode cL_isSo 165 = .ok (.iaload, 1) := by decide +kernel
theorem dL_isSo_166 : decode cL_isSo 166 = .ok (.aload_n 1, 1) := by decide +kernel
theorem dL_isSo_167 : decode cL_isSo 167 = .ok (.iconst 1, 1) := by decide +kernel
theorem dL_isSo_168 : decode cL_isSo 168 = .ok (.iaload, 1) := by decide +kernel
theorem dL_isSo_169 : decode cL_isSo 169 = .ok (.iload 10, 2) := by decide +kernel
theorem dL_isSo_171 : decode cL_isSo 171 = .ok (.invokestatic 80, 3) := by decide +kernel
theorem dL_isSo_174 : decode cL_isSo 174 = .ok (.istore 13, 2) := by decide +kernel
theorem dL_isSo_176 : decode cL_isSo 176 = .ok (.iload 11, 2) := by decide +kernel
theorem dL_isSo_178 : decode cL_isSo 178 = .ok (.ifCond .ge 7, 3) := by decide +kernel
theorem dL_isSo_181 : decode cL_isSo 181 = .ok (.iconst 0, 1) := by decide +kernel
theorem dL_isSo_182 : decode cL_isSo 182 = .ok (.goto 17, 3) := by decide +kernel
theorem dL_isSo_185 : decode cL_isSo 185 = .ok (.aload_n 1, 1) := by decide +kernel
theorem dL_isSo_186 : decode cL_isSo 186 = .ok (.aload_n 2, 1) := by decide +kernel
theorem dL_isSo_187 : decode cL_isSo 187 = .ok (.aload_n 3, 1) := by decide +kernel
theorem dL_isSo_188 : decode cL_isSo 188 = .ok (.aload_n 1, 1) := by decide +kernel
theorem dL_isSo_189 : decode cL_isSo 189 = .ok (.iconst 0, 1) := by decide +kernel
theorem dL_isSo_190 : decode cL_isSo 190 = .ok (.iaload, 1) := by decide +kernel
theorem dL_isSo_191 : decode cL_isSo 191 = .ok (.aload_n 1, 1) := by decide +kernel
theorem dL_isSo_192 : decode cL_isSo 192 = .ok (.iconst 1, 1) := by decide +kernel
theorem dL_isSo_193 : decode cL_isSo 193 = .ok (.iaload, 1) := by decide +kernel
theorem dL_isSo_194 : decode cL_isSo 194 = .ok (.iload 13, 2) := by decide +kernel
theorem dL_isSo_196 : decode cL_isSo 196 = .ok (.invokestatic 83, 3) := by decide +kernel
theorem dL_isSo_199 : decode cL_isSo 199 = .ok (.istore 14, 2) := by decide +kernel
theorem dL_isSo_201 : decode cL_isSo 201 = .ok (.iload 6, 2) := by decide +kernel
theorem dL_isSo_203 : decode cL_isSo 203 = .ok (.ifCond .lt 18, 3) := by decide +kernel
theorem dL_isSo_206 : decode cL_isSo 206 = .ok (.iload 7, 2) := by decide +kernel
theorem dL_isSo_208 : decode cL_isSo 208 = .ok (.aload_n 1, 1) := by decide +kernel
theorem dL_isSo_209 : decode cL_isSo 209 = .ok (.iconst 3, 1) := by decide +kernel
theorem dL_isSo_210 : decode cL_isSo 210 = .ok (.iaload, 1) := by decide +kernel
theorem dL_isSo_211 : decode cL_isSo 211 = .ok (.iadd, 1) := by decide +kernel
theorem dL_isSo_212 : decode cL_isSo 212 = .ok (.iload 13, 2) := by decide +kernel
theorem dL_isSo_214 : decode cL_isSo 214 = .ok (.iadd, 1) := by decide +kernel
theorem dL_isSo_215 : decode cL_isSo 215 = .ok (.aload_n 1, 1) := by decide +kernel
theorem dL_isSo_216 : decode cL_isSo 216 = .ok (.iconst 4, 1) := by decide +kernel
theorem dL_isSo_217 : decode cL_isSo 217 = .ok (.iaload, 1) := by decide +kernel
theorem dL_isSo_218 : decode cL_isSo 218 = .ok (.if_icmp .le 137, 3) := by decide +kernel
theorem dL_isSo_221 : decode cL_isSo 221 = .ok (.iload 6, 2) := by decide +kernel
theorem dL_isSo_223 : decode cL_isSo 223 = .ok (.ifCond .lt 83, 3) := by decide +kernel
theorem dL_isSo_226 : decode cL_isSo 226 = .ok (.aload_n 0, 1) := by decide +kernel
theorem dL_isSo_227 : decode cL_isSo 227 = .ok (.iload 6, 2) := by decide +kernel
theorem dL_isSo_229 : decode cL_isSo 229 = .ok (.iconst 1, 1) := by decide +kernel
theorem dL_isSo_230 : decode cL_isSo 230 = .ok (.invokevirtual 86, 3) := by decide +kernel
theorem dL_isSo_233 : decode cL_isSo 233 = .ok (.iload 10, 2) := by decide +kernel
theorem dL_isSo_235 : decode cL_isSo 235 = .ok (.iload 8, 2) := by decide +kernel
theorem dL_isSo_237 : decode cL_isSo 237 = .ok (.isub, 1) := by decide +kernel
theorem dL_isSo_238 : decode cL_isSo 238 = .ok (.if_icmp .ne 72, 3) := by decide +kernel
theorem dL_isSo_241 : decode cL_isSo 241 = .ok (.aload_n 0, 1) := by decide +kernel
theorem dL_isSo_242 : decode cL_isSo 242 = .ok (.iload 6, 2) := by decide +kernel
theorem dL_isSo_244 : decode cL_isSo 244 = .ok (.iconst 2, 1) := by decide +kernel
theorem dL_isSo_245 : decode cL_isSo 245 = .ok (.invokevirtual 86, 3) := by decide +kernel
theorem dL_isSo_248 : decode cL_isSo 248 = .ok (.iload 7, 2) := by decide +kernel
theorem dL_isSo_250 : decode cL_isSo 250 = .ok (.if_icmp .ne 60, 3) := by decide +kernel
theorem dL_isSo_253 : decode cL_isSo 253 = .ok (.aload_n 0, 1) := by decide +kernel
theorem dL_isSo_254 : decode cL_isSo 254 = .ok (.iload 6, 2) := by decide +kernel
theorem dL_isSo_256 : decode cL_isSo 256 = .ok (.invokevirtual 89, 3) := by decide +kernel
theorem dL_isSo_259 : decode cL_isSo 259 = .ok (.iload 7, 2) := by decide +kernel
theorem dL_isSo_261 : decode cL_isSo 261 = .ok (.if_icmp .ne 49, 3) := by decide +kernel
theorem dL_isSo_264 : decode cL_isSo 264 = .ok (.aload_n 0, 1) := by decide +kernel
theorem dL_isSo_265 : decode cL_isSo 265 = .ok (.iload 6, 2) := by decide +kernel
theorem dL_isSo_267 : decode cL_isSo 267 = .ok (.iconst 4, 1) := by decide +kernel
theorem dL_isSo_268 : decode cL_isSo 268 = .ok (.invokevirtual 86, 3) := by decide +kernel
theorem dL_isSo_271 : decode cL_isSo 271 = .ok (.aload 4, 2) := by decide +kernel
theorem dL_isSo_273 : decode cL_isSo 273 = .ok (.iconst 4, 1) := by decide +kernel
theorem dL_isSo_274 : decode cL_isSo 274 = .ok (.iaload, 1) := by decide +kernel
theorem dL_isSo_275 : decode cL_isSo 275 = .ok (.if_icmp .ne 35, 3) := by decide +kernel
theorem dL_isSo_278 : decode cL_isSo 278 = .ok (.aload_n 0, 1) := by decide +kernel
theorem dL_isSo_279 : decode cL_isSo 279 = .ok (.iload 6, 2) := by decide +kernel
theorem dL_isSo_281 : decode cL_isSo 281 = .ok (.iconst 3, 1) := by decide +kernel
theorem dL_isSo_282 : decode cL_isSo 282 = .ok (.invokevirtual 86, 3) := by decide +kernel
theorem dL_isSo_285 : decode cL_isSo 285 = .ok (.iload 7, 2) := by decide +kernel
theorem dL_isSo_287 : decode cL_isSo 287 = .ok (.aload_n 1, 1) := by decide +kernel
theorem dL_isSo_288 : decode cL_isSo 288 = .ok (.iconst 4, 1) := by decide +kernel
theorem dL_isSo_289 : decode cL_isSo 289 = .ok (.iaload, 1) := by decide +kernel
theorem dL_isSo_290 : decode cL_isSo 290 = .ok (.if_icmp .le 7, 3) := by decide +kernel
theorem dL_isSo_293 : decode cL_isSo 293 = .ok (.iconst 0, 1) := by decide +kernel
theorem dL_isSo_294 : decode cL_isSo 294 = .ok (.goto 9, 3) := by decide +kernel
theorem dL_isSo_297 : decode cL_isSo 297 = .ok (.aload_n 1, 1) := by decide +kernel
theorem dL_isSo_298 : decode cL_isSo 298 = .ok (.iconst 4, 1) := by decide +kernel
theorem dL_isSo_299 : decode cL_isSo 299 = .ok (.iaload, 1) := by decide +kernel
theorem dL_isSo_300 : decode cL_isSo 300 = .ok (.iload 7, 2) := by decide +kernel
theorem dL_isSo_302 : decode cL_isSo 302 = .ok (.isub, 1) := by decide +kernel
theorem dL_isSo_303 : decode cL_isSo 303 = .ok (.if_icmp .ne 7, 3) := by decide +kernel
theorem dL_isSo_306 : decode cL_isSo 306 = .ok (.iconst 1, 1) := by decide +kernel
theorem dL_isSo_307 : decode cL_isSo 307 = .ok (.goto 4, 3) := by decide +kernel
theorem dL_isSo_310 : decode cL_isSo 310 = .ok (.iconst 0, 1) := by decide +kernel
theorem dL_isSo_311 : decode cL_isSo 311 = .ok (.istore 9, 2) := by decide +kernel
theorem dL_isSo_313 : decode cL_isSo 313 = .ok (.iinc 6 1, 3) := by decide +kernel
theorem dL_isSo_316 : decode cL_isSo 316 = .ok (.iload 10, 2) := by decide +kernel
theorem dL_isSo_318 : decode cL_isSo 318 = .ok (.istore 8, 2) := by decide +kernel
theorem dL_isSo_320 : decode cL_isSo 320 = .ok (.aload_n 1, 1) := by decide +kernel
theorem dL_isSo_321 : decode cL_isSo 321 = .ok (.iconst 3, 1) := by decide +kernel
theorem dL_isSo_322 : decode cL_isSo 322 = .ok (.iaload, 1) := by decide +kernel
theorem dL_isSo_323 : decode cL_isSo 323 = .ok (.ineg, 1) := by decide +kernel
theorem dL_isSo_324 : decode cL_isSo 324 = .ok (.istore 7, 2) := by decide +kernel
theorem dL_isSo_326 : decode cL_isSo 326 = .ok (.aload 4, 2) := by decide +kernel
theorem dL_isSo_328 : decode cL_isSo 328 = .ok (.iconst 4, 1) := by decide +kernel
theorem dL_isSo_329 : decode cL_isSo 329 = .ok (.iconst 0, 1) := by decide +kernel
theorem dL_isSo_330 : decode cL_isSo 330 = .ok (.iastore, 1) := by decide +kernel
theorem dL_isSo_331 : decode cL_isSo 331 = .ok (.iload 9, 2) := by decide +kernel
theorem dL_isSo_333 : decode cL_isSo 333 = .ok (.ifCond .eq 19, 3) := by decide +kernel
theorem dL_isSo_336 : decode cL_isSo 336 = .ok (.aload_n 0, 1) := by decide +kernel
theorem dL_isSo_337 : decode cL_isSo 337 = .ok (.iload 6, 2) := by decide +kernel
theorem dL_isSo_339 : decode cL_isSo 339 = .ok (.iconst 0, 1) := by decide +kernel
theorem dL_isSo_340 : decode cL_isSo 340 = .ok (.invokevirtual 86, 3) := by decide +kernel
theorem dL_isSo_343 : decode cL_isSo 343 = .ok (.iload 10, 2) := by decide +kernel
theorem dL_isSo_345 : decode cL_isSo 345 = .ok (.if_icmp .ne 7, 3) := by decide +kernel
theorem dL_isSo_348 : decode cL_isSo 348 = .ok (.iconst 1, 1) := by decide +kernel
theorem dL_isSo_349 : decode cL_isSo 349 = .ok (.goto 4, 3) := by decide +kernel
theorem dL_isSo_352 : decode cL_isSo 352 = .ok (.iconst 0, 1) := by decide +kernel
theorem dL_isSo_353 : decode cL_isSo 353 = .ok (.istore 9, 2) := by decide +kernel
theorem dL_isSo_355 : decode cL_isSo 355 = .ok (.iload 7, 2) := by decide +kernel
theorem dL_isSo_357 : decode cL_isSo 357 = .ok (.aload_n 1, 1) := by decide +kernel
theorem dL_isSo_358 : decode cL_isSo 358 = .ok (.iconst 3, 1) := by decide +kernel
theorem dL_isSo_359 : decode cL_isSo 359 = .ok (.iaload, 1) := by decide +kernel
theorem dL_isSo_360 : decode cL_isSo 360 = .ok (.iadd, 1) := by decide +kernel
theorem dL_isSo_361 : decode cL_isSo 361 = .ok (.istore 7, 2) := by decide +kernel
theorem dL_isSo_363 : decode cL_isSo 363 = .ok (.iload 9, 2) := by decide +kernel
theorem dL_isSo_365 : decode cL_isSo 365 = .ok (.ifCond .eq 193, 3) := by decide +kernel
theorem dL_isSo_368 : decode cL_isSo 368 = .ok (.aload_n 0, 1) := by decide +kernel
theorem dL_isSo_369 : decode cL_isSo 369 = .ok (.iload 10, 2) := by decide +kernel
theorem dL_isSo_371 : decode cL_isSo 371 = .ok (.iconst 0, 1) := by decide +kernel
theorem dL_isSo_372 : decode cL_isSo 372 = .ok (.invokevirtual 92, 3) := by decide +kernel
theorem dL_isSo_375 : decode cL_isSo 375 = .ok (.aload_n 3, 1) := by decide +kernel
theorem dL_isSo_376 : decode cL_isSo 376 = .ok (.iload 10, 2) := by decide +kernel
theorem dL_isSo_378 : decode cL_isSo 378 = .ok (.laload, 1) := by decide +kernel
theorem dL_isSo_379 : decode cL_isSo 379 = .ok (.invokestatic 9, 3) := by decide +kernel
theorem dL_isSo_382 : decode cL_isSo 382 = .ok (.if_icmp .ne 176, 3) := by decide +kernel
theorem dL_isSo_385 : decode cL_isSo 385 = .ok (.aload_n 0, 1) := by decide +kernel
theorem dL_isSo_386 : decode cL_isSo 386 = .ok (.iload 10, 2) := by decide +kernel
theorem dL_isSo_388 : decode cL_isSo 388 = .ok (.iconst 1, 1) := by decide +kernel
theorem dL_isSo_389 : decode cL_isSo 389 = .ok (.invokevirtual 92, 3) := by decide +kernel
theorem dL_isSo_392 : decode cL_isSo 392 = .ok (.iload 12, 2) := by decide +kernel
theorem dL_isSo_394 : decode cL_isSo 394 = .ok (.if_icmp .ne 164, 3) := by decide +kernel
theorem dL_isSo_397 : decode cL_isSo 397 = .ok (.aload_n 0, 1) := by decide +kernel
theorem dL_isSo_398 : decode cL_isSo 398 = .ok (.iload 10, 2) := by decide +kernel
theorem dL_isSo_400 : decode cL_isSo 400 = .ok (.iconst 2, 1) := by decide +kernel
theorem dL_isSo_401 : decode cL_isSo 401 = .ok (.invokevirtual 92, 3) := by decide +kernel
theorem dL_isSo_404 : decode cL_isSo 404 = .ok (.iload 13, 2) := by decide +kernel
theorem dL_isSo_406 : decode cL_isSo 406 = .ok (.if_icmp .ne 152, 3) := by decide +kernel
theorem dL_isSo_409 : decode cL_isSo 409 = .ok (.aload_n 0, 1) := by decide +kernel
theorem dL_isSo_410 : decode cL_isSo 410 = .ok (.iload 10, 2) := by decide +kernel
theorem dL_isSo_412 : decode cL_isSo 412 = .ok (.iconst 3, 1) := by decide +kernel
theorem dL_isSo_413 : decode cL_isSo 413 = .ok (.invokevirtual 92, 3) := by decide +kernel
theorem dL_isSo_416 : decode cL_isSo 416 = .ok (.iload 11, 2) := by decide +kernel
theorem dL_isSo_418 : decode cL_isSo 418 = .ok (.ifCond .ge 7, 3) := by decide +kernel
theorem dL_isSo_421 : decode cL_isSo 421 = .ok (.iconst 0, 1) := by decide +kernel
theorem dL_isSo_422 : decode cL_isSo 422 = .ok (.goto 4, 3) := by decide +kernel
theorem dL_isSo_425 : decode cL_isSo 425 = .ok (.iconst 1, 1) := by decide +kernel
theorem dL_isSo_426 : decode cL_isSo 426 = .ok (.if_icmp .ne 132, 3) := by decide +kernel
theorem dL_isSo_429 : decode cL_isSo 429 = .ok (.aload_n 0, 1) := by decide +kernel
theorem dL_isSo_430 : decode cL_isSo 430 = .ok (.iload 10, 2) := by decide +kernel
theorem dL_isSo_432 : decode cL_isSo 432 = .ok (.iconst 4, 1) := by decide +kernel
theorem dL_isSo_433 : decode cL_isSo 433 = .ok (.invokevirtual 92, 3) := by decide +kernel
theorem dL_isSo_436 : decode cL_isSo 436 = .ok (.iload 11, 2) := by decide +kernel
theorem dL_isSo_438 : decode cL_isSo 438 = .ok (.ifCond .ge 8, 3) := by decide +kernel
theorem dL_isSo_441 : decode cL_isSo 441 = .ok (.bipush (-14), 2) := by decide +kernel
theorem dL_isSo_443 : decode cL_isSo 443 = .ok (.goto 7, 3) := by decide +kernel
theorem dL_isSo_446 : decode cL_isSo 446 = .ok (.iload 11, 2) := by decide +kernel
theorem dL_isSo_448 : decode cL_isSo 448 = .ok (.iconst 3, 1) := by decide +kernel
theorem dL_isSo_449 : decode cL_isSo 449 = .ok (.idiv, 1) := by decide +kernel
theorem dL_isSo_450 : decode cL_isSo 450 = .ok (.if_icmp .ne 108, 3) := by decide +kernel
theorem dL_isSo_453 : decode cL_isSo 453 = .ok (.aload_n 0, 1) := by decide +kernel
theorem dL_isSo_454 : decode cL_isSo 454 = .ok (.iload 10, 2) := by decide +kernel
theorem dL_isSo_456 : decode cL_isSo 456 = .ok (.iconst 5, 1) := by decide +kernel
theorem dL_isSo_457 : decode cL_isSo 457 = .ok (.invokevirtual 92, 3) := by decide +kernel
theorem dL_isSo_460 : decode cL_isSo 460 = .ok (.iload 11, 2) := by decide +kernel
theorem dL_isSo_462 : decode cL_isSo 462 = .ok (.ifCond .ge 8, 3) := by decide +kernel
theorem dL_isSo_465 : decode cL_isSo 465 = .ok (.bipush (-14), 2) := by decide +kernel
theorem dL_isSo_467 : decode cL_isSo 467 = .ok (.goto 9, 3) := by decide +kernel
theorem dL_isSo_470 : decode cL_isSo 470 = .ok (.iload 11, 2) := by decide +kernel
theorem dL_isSo_472 : decode cL_isSo 472 = .ok (.iconst 3, 1) := by decide +kernel
theorem dL_isSo_473 : decode cL_isSo 473 = .ok (.irem, 1) := by decide +kernel
theorem dL_isSo_474 : decode cL_isSo 474 = .ok (.iconst 1, 1) := by decide +kernel
theorem dL_isSo_475 : decode cL_isSo 475 = .ok (.isub, 1) := by decide +kernel
theorem dL_isSo_476 : decode cL_isSo 476 = .ok (.if_icmp .ne 82, 3) := by decide +kernel
theorem dL_isSo_479 : decode cL_isSo 479 = .ok (.aload_n 0, 1) := by decide +kernel
theorem dL_isSo_480 : decode cL_isSo 480 = .ok (.iload 10, 2) := by decide +kernel
theorem dL_isSo_482 : decode cL_isSo 482 = .ok (.bipush 6, 2) := by decide +kernel
theorem dL_isSo_484 : decode cL_isSo 484 = .ok (.invokevirtual 92, 3) := by decide +kernel
theorem dL_isSo_487 : decode cL_isSo 487 = .ok (.iload 6, 2) := by decide +kernel
theorem dL_isSo_489 : decode cL_isSo 489 = .ok (.if_icmp .ne 69, 3) := by decide +kernel
theorem dL_isSo_492 : decode cL_isSo 492 = .ok (.aload_n 0, 1) := by decide +kernel
theorem dL_isSo_493 : decode cL_isSo 493 = .ok (.iload 10, 2) := by decide +kernel
theorem dL_isSo_495 : decode cL_isSo 495 = .ok (.bipush 7, 2) := by decide +kernel
theorem dL_isSo_497 : decode cL_isSo 497 = .ok (.invokevirtual 92, 3) := by decide +kernel
theorem dL_isSo_500 : decode cL_isSo 500 = .ok (.iload 7, 2) := by decide +kernel
theorem dL_isSo_502 : decode cL_isSo 502 = .ok (.if_icmp .ne 56, 3) := by decide +kernel
theorem dL_isSo_505 : decode cL_isSo 505 = .ok (.aload_n 0, 1) := by decide +kernel
theorem dL_isSo_506 : decode cL_isSo 506 = .ok (.iload 10, 2) := by decide +kernel
theorem dL_isSo_508 : decode cL_isSo 508 = .ok (.bipush 8, 2) := by decide +kernel
theorem dL_isSo_510 : decode cL_isSo 510 = .ok (.invokevirtual 92, 3) := by decide +kernel
theorem dL_isSo_513 : decode cL_isSo 513 = .ok (.iload 11, 2) := by decide +kernel
theorem dL_isSo_515 : decode cL_isSo 515 = .ok (.ifCond .ge 8, 3) := by decide +kernel
theorem dL_isSo_518 : decode cL_isSo 518 = .ok (.bipush (-14), 2) := by decide +kernel
theorem dL_isSo_520 : decode cL_isSo 520 = .ok (.goto 5, 3) := by decide +kernel
theorem dL_isSo_523 : decode cL_isSo 523 = .ok (.iload 14, 2) := by decide +kernel
theorem dL_isSo_525 : decode cL_isSo 525 = .ok (.if_icmp .ne 33, 3) := by decide +kernel
theorem dL_isSo_528 : decode cL_isSo 528 = .ok (.aload_n 0, 1) := by decide +kernel
theorem dL_isSo_529 : decode cL_isSo 529 = .ok (.iload 10, 2) := by decide +kernel
theorem dL_isSo_531 : decode cL_isSo 531 = .ok (.bipush 9, 2) := by decide +kernel
theorem dL_isSo_533 : decode cL_isSo 533 = .ok (.invokevirtual 92, 3) := by decide +kernel
theorem dL_isSo_536 : decode cL_isSo 536 = .ok (.iload 11, 2) := by decide +kernel
theorem dL_isSo_538 : decode cL_isSo 538 = .ok (.ifCond .ge 8, 3) := by decide +kernel
theorem dL_isSo_541 : decode cL_isSo 541 = .ok (.bipush (-14), 2) := by decide +kernel
theorem dL_isSo_543 : decode cL_isSo 543 = .ok (.goto 8, 3) := by decide +kernel
theorem dL_isSo_546 : decode cL_isSo 546 = .ok (.iload 14, 2) := by decide +kernel
theorem dL_isSo_548 : decode cL_isSo 548 = .ok (.invokestatic 95, 3) := by decide +kernel
theorem dL_isSo_551 : decode cL_isSo 551 = .ok (.if_icmp .ne 7, 3) := by decide +kernel
theorem dL_isSo_554 : decode cL_isSo 554 = .ok (.iconst 1, 1) := by decide +kernel
theorem dL_isSo_555 : decode cL_isSo 555 = .ok (.goto 4, 3) := by decide +kernel
theorem dL_isSo_558 : decode cL_isSo 558 = .ok (.iconst 0, 1) := by decide +kernel
theorem dL_isSo_559 : decode cL_isSo 559 = .ok (.istore 9, 2) := by decide +kernel
theorem dL_isSo_561 : decode cL_isSo 561 = .ok (.iload 7, 2) := by decide +kernel
theorem dL_isSo_563 : decode cL_isSo 563 = .ok (.iload 13, 2) := by decide +kernel
theorem dL_isSo_565 : decode cL_isSo 565 = .ok (.iadd, 1) := by decide +kernel
theorem dL_isSo_566 : decode cL_isSo 566 = .ok (.istore 7, 2) := by decide +kernel
theorem dL_isSo_568 : decode cL_isSo 568 = .ok (.aload 4, 2) := by decide +kernel
theorem dL_isSo_570 : decode cL_isSo 570 = .ok (.iconst 0, 1) := by decide +kernel
theorem dL_isSo_571 : decode cL_isSo 571 = .ok (.dup2, 1) := by decide +kernel
theorem dL_isSo_572 : decode cL_isSo 572 = .ok (.iaload, 1) := by decide +kernel
theorem dL_isSo_573 : decode cL_isSo 573 = .ok (.iload 11, 2) := by decide +kernel
theorem dL_isSo_575 : decode cL_isSo 575 = .ok (.ifCond .ge 7, 3) := by decide +kernel
theorem dL_isSo_578 : decode cL_isSo 578 = .ok (.iconst 0, 1) := by decide +kernel
theorem dL_isSo_579 : decode cL_isSo 579 = .ok (.goto 4, 3) := by decide +kernel
theorem dL_isSo_582 : decode cL_isSo 582 = .ok (.iconst 1, 1) := by decide +kernel
theorem dL_isSo_583 : decode cL_isSo 583 = .ok (.iadd, 1) := by decide +kernel
theorem dL_isSo_584 : decode cL_isSo 584 = .ok (.iastore, 1) := by decide +kernel
theorem dL_isSo_585 : decode cL_isSo 585 = .ok (.aload 4, 2) := by decide +kernel
theorem dL_isSo_587 : decode cL_isSo 587 = .ok (.iconst 1, 1) := by decide +kernel
theorem dL_isSo_588 : decode cL_isSo 588 = .ok (.dup2, 1) := by decide +kernel
theorem dL_isSo_589 : decode cL_isSo 589 = .ok (.iaload, 1) := by decide +kernel
theorem dL_isSo_590 : decode cL_isSo 590 = .ok (.iload 11, 2) := by decide +kernel
theorem dL_isSo_592 : decode cL_isSo 592 = .ok (.ifCond .lt 16, 3) := by decide +kernel
theorem dL_isSo_595 : decode cL_isSo 595 = .ok (.iload 14, 2) := by decide +kernel
theorem dL_isSo_597 : decode cL_isSo 597 = .ok (.invokestatic 95, 3) := by decide +kernel
theorem dL_isSo_600 : decode cL_isSo 600 = .ok (.iconst 1, 1) := by decide +kernel
theorem dL_isSo_601 : decode cL_isSo 601 = .ok (.if_icmp .ne 7, 3) := by decide +kernel
theorem dL_isSo_604 : decode cL_isSo 604 = .ok (.iconst 1, 1) := by decide +kernel
theorem dL_isSo_605 : decode cL_isSo 605 = .ok (.goto 4, 3) := by decide +kernel
theorem dL_isSo_608 : decode cL_isSo 608 = .ok (.iconst 0, 1) := by decide +kernel
theorem dL_isSo_609 : decode cL_isSo 609 = .ok (.iadd, 1) := by decide +kernel
theorem dL_isSo_610 : decode cL_isSo 610 = .ok (.iastore, 1) := by decide +kernel
theorem dL_isSo_611 : decode cL_isSo 611 = .ok (.aload 4, 2) := by decide +kernel
theorem dL_isSo_613 : decode cL_isSo 613 = .ok (.iconst 2, 1) := by decide +kernel
theorem dL_isSo_614 : decode cL_isSo 614 = .ok (.dup2, 1) := by decide +kernel
theorem dL_isSo_615 : decode cL_isSo 615 = .ok (.iaload, 1) := by decide +kernel
theorem dL_isSo_616 : decode cL_isSo 616 = .ok (.iload 13, 2) := by decide +kernel
theorem dL_isSo_618 : decode cL_isSo 618 = .ok (.iadd, 1) := by decide +kernel
theorem dL_isSo_619 : decode cL_isSo 619 = .ok (.iastore, 1) := by decide +kernel
theorem dL_isSo_620 : decode cL_isSo 620 = .ok (.aload 4, 2) := by decide +kernel
theorem dL_isSo_622 : decode cL_isSo 622 = .ok (.iconst 3, 1) := by decide +kernel
theorem dL_isSo_623 : decode cL_isSo 623 = .ok (.dup2, 1) := by decide +kernel
theorem dL_isSo_624 : decode cL_isSo 624 = .ok (.iaload, 1) := by decide +kernel
theorem dL_isSo_625 : decode cL_isSo 625 = .ok (.iload 11, 2) := by decide +kernel
theorem dL_isSo_627 : decode cL_isSo 627 = .ok (.ifCond .ge 7, 3) := by decide +kernel
theorem dL_isSo_630 : decode cL_isSo 630 = .ok (.iconst 0, 1) := by decide +kernel
theorem dL_isSo_631 : decode cL_isSo 631 = .ok (.goto 8, 3) := by decide +kernel
theorem dL_isSo_634 : decode cL_isSo 634 = .ok (.iload 13, 2) := by decide +kernel
theorem dL_isSo_636 : decode cL_isSo 636 = .ok (.iload 12, 2) := by decide +kernel
theorem dL_isSo_638 : decode cL_isSo 638 = .ok (.isub, 1) := by decide +kernel
theorem dL_isSo_639 : decode cL_isSo 639 = .ok (.iadd, 1) := by decide +kernel
theorem dL_isSo_640 : decode cL_isSo 640 = .ok (.iastore, 1) := by decide +kernel
theorem dL_isSo_641 : decode cL_isSo 641 = .ok (.aload 4, 2) := by decide +kernel
theorem dL_isSo_643 : decode cL_isSo 643 = .ok (.iconst 4, 1) := by decide +kernel
theorem dL_isSo_644 : decode cL_isSo 644 = .ok (.dup2, 1) := by decide +kernel
theorem dL_isSo_645 : decode cL_isSo 645 = .ok (.iaload, 1) := by decide +kernel
theorem dL_isSo_646 : decode cL_isSo 646 = .ok (.iload 11, 2) := by decide +kernel
theorem dL_isSo_648 : decode cL_isSo 648 = .ok (.ifCond .ge 7, 3) := by decide +kernel
theorem dL_isSo_651 : decode cL_isSo 651 = .ok (.iconst 0, 1) := by decide +kernel
theorem dL_isSo_652 : decode cL_isSo 652 = .ok (.goto 4, 3) := by decide +kernel
theorem dL_isSo_655 : decode cL_isSo 655 = .ok (.iconst 1, 1) := by decide +kernel
theorem dL_isSo_656 : decode cL_isSo 656 = .ok (.iadd, 1) := by decide +kernel
theorem dL_isSo_657 : decode cL_isSo 657 = .ok (.iastore, 1) := by decide +kernel
theorem dL_isSo_658 : decode cL_isSo 658 = .ok (.iload 11, 2) := by decide +kernel
theorem dL_isSo_660 : decode cL_isSo 660 = .ok (.ifCond .lt 7, 3) := by decide +kernel
theorem dL_isSo_663 : decode cL_isSo 663 = .ok (.iconst 1, 1) := by decide +kernel
theorem dL_isSo_664 : decode cL_isSo 664 = .ok (.goto 4, 3) := by decide +kernel
theorem dL_isSo_667 : decode cL_isSo 667 = .ok (.iconst 0, 1) := by decide +kernel
theorem dL_isSo_668 : decode cL_isSo 668 = .ok (.istore 15, 2) := by decide +kernel
theorem dL_isSo_670 : decode cL_isSo 670 = .ok (.aload 5, 2) := by decide +kernel
theorem dL_isSo_672 : decode cL_isSo 672 = .ok (.iload 10, 2) := by decide +kernel
theorem dL_isSo_674 : decode cL_isSo 674 = .ok (.iload 11, 2) := by decide +kernel
theorem dL_isSo_676 : decode cL_isSo 676 = .ok (.ifCond .ge 7, 3) := by decide +kernel
theorem dL_isSo_679 : decode cL_isSo 679 = .ok (.iconst (-1), 1) := by decide +kernel
theorem dL_isSo_680 : decode cL_isSo 680 = .ok (.goto 5, 3) := by decide +kernel
theorem dL_isSo_683 : decode cL_isSo 683 = .ok (.iload 13, 2) := by decide +kernel
theorem dL_isSo_685 : decode cL_isSo 685 = .ok (.iastore, 1) := by decide +kernel
theorem dL_isSo_686 : decode cL_isSo 686 = .ok (.iconst 0, 1) := by decide +kernel
theorem dL_isSo_687 : decode cL_isSo 687 = .ok (.istore 16, 2) := by decide +kernel
theorem dL_isSo_689 : decode cL_isSo 689 = .ok (.iload 16, 2) := by decide +kernel
theorem dL_isSo_691 : decode cL_isSo 691 = .ok (.iload 10, 2) := by decide +kernel
theorem dL_isSo_693 : decode cL_isSo 693 = .ok (.if_icmp .ge 31, 3) := by decide +kernel
theorem dL_isSo_696 : decode cL_isSo 696 = .ok (.iload 15, 2) := by decide +kernel
theorem dL_isSo_698 : decode cL_isSo 698 = .ok (.ifCond .eq 17, 3) := by decide +kernel
theorem dL_isSo_701 : decode cL_isSo 701 = .ok (.aload 5, 2) := by decide +kernel
