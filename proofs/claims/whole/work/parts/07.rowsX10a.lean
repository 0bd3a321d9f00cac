theorem dX10_init_0 : decode cX10_init 0 = .ok (.aload_n 0, 1) := by decide +kernel
theorem dX10_init_1 : decode cX10_init 1 = .ok (.invokespecial 1, 3) := by decide +kernel
theorem dX10_init_4 : decode cX10_init 4 = .ok (.aload_n 0, 1) := by decide +kernel
theorem dX10_init_5 : decode cX10_init 5 = .ok (.bipush 6, 2) := by decide +kernel
theorem dX10_init_7 : decode cX10_init 7 = .ok (.newarray .int, 2) := by decide +kernel
theorem dX10_init_9 : decode cX10_init 9 = .ok (.putfield 7, 3) := by decide +kernel
theorem dX10_init_12 : decode cX10_init 12 = .ok (.aload_n 0, 1) := by decide +kernel
theorem dX10_init_13 : decode cX10_init 13 = .ok (.bipush 26, 2) := by decide +kernel
theorem dX10_init_15 : decode cX10_init 15 = .ok (.newarray .int, 2) := by decide +kernel
theorem dX10_init_17 : decode cX10_init 17 = .ok (.putfield 13, 3) := by decide +kernel
theorem dX10_init_20 : decode cX10_init 20 = .ok (.aload_n 0, 1) := by decide +kernel
theorem dX10_init_21 : decode cX10_init 21 = .ok (.iconst 4, 1) := by decide +kernel
theorem dX10_init_22 : decode cX10_init 22 = .ok (.newarray .int, 2) := by decide +kernel
theorem dX10_init_24 : decode cX10_init 24 = .ok (.putfield 16, 3) := by decide +kernel
theorem dX10_init_27 : decode cX10_init 27 = .ok (.aload_n 0, 1) := by decide +kernel
theorem dX10_init_28 : decode cX10_init 28 = .ok (.bipush 40, 2) := by decide +kernel
theorem dX10_init_30 : decode cX10_init 30 = .ok (.newarray .int, 2) := by decide +kernel
theorem dX10_init_32 : decode cX10_init 32 = .ok (.putfield 19, 3) := by decide +kernel
theorem dX10_init_35 : decode cX10_init 35 = .ok (.aload_n 0, 1) := by decide +kernel
theorem dX10_init_36 : decode cX10_init 36 = .ok (.bipush 10, 2) := by decide +kernel
theorem dX10_init_38 : decode cX10_init 38 = .ok (.newarray .int, 2) := by decide +kernel
theorem dX10_init_40 : decode cX10_init 40 = .ok (.putfield 22, 3) := by decide +kernel
theorem dX10_init_43 : decode cX10_init 43 = .ok (.aload_n 0, 1) := by decide +kernel
theorem dX10_init_44 : decode cX10_init 44 = .ok (.bipush 16, 2) := by decide +kernel
theorem dX10_init_46 : decode cX10_init 46 = .ok (.newarray .int, 2) := by decide +kernel
theorem dX10_init_48 : decode cX10_init 48 = .ok (.putfield 25, 3) := by decide +kernel
theorem dX10_init_51 : decode cX10_init 51 = .ok (.aload_n 0, 1) := by decide +kernel
theorem dX10_init_52 : decode cX10_init 52 = .ok (.bipush 16, 2) := by decide +kernel
theorem dX10_init_54 : decode cX10_init 54 = .ok (.newarray .int, 2) := by decide +kernel
theorem dX10_init_56 : decode cX10_init 56 = .ok (.putfield 28, 3) := by decide +kernel
theorem dX10_init_59 : decode cX10_init 59 = .ok (.aload_n 0, 1) := by decide +kernel
theorem dX10_init_60 : decode cX10_init 60 = .ok (.sipush 128, 3) := by decide +kernel
theorem dX10_init_63 : decode cX10_init 63 = .ok (.newarray .int, 2) := by decide +kernel
theorem dX10_init_65 : decode cX10_init 65 = .ok (.putfield 31, 3) := by decide +kernel
theorem dX10_init_68 : decode cX10_init 68 = .ok (.aload_n 0, 1) := by decide +kernel
theorem dX10_init_69 : decode cX10_init 69 = .ok (.bipush 16, 2) := by decide +kernel
theorem dX10_init_71 : decode cX10_init 71 = .ok (.newarray .boolean, 2) := by decide +kernel
theorem dX10_init_73 : decode cX10_init 73 = .ok (.putfield 34, 3) := by decide +kernel
theorem dX10_init_76 : decode cX10_init 76 = .ok (.aload_n 0, 1) := by decide +kernel
theorem dX10_init_77 : decode cX10_init 77 = .ok (.bipush 16, 2) := by decide +kernel
theorem dX10_init_79 : decode cX10_init 79 = .ok (.newarray .int, 2) := by decide +kernel
theorem dX10_init_81 : decode cX10_init 81 = .ok (.putfield 38, 3) := by decide +kernel
theorem dX10_init_84 : decode cX10_init 84 = .ok (.aload_n 0, 1) := by decide +kernel
theorem dX10_init_85 : decode cX10_init 85 = .ok (.bipush 16, 2) := by decide +kernel
theorem dX10_init_87 : decode cX10_init 87 = .ok (.newarray .int, 2) := by decide +kernel
theorem dX10_init_89 : decode cX10_init 89 = .ok (.putfield 41, 3) := by decide +kernel
theorem dX10_init_92 : decode cX10_init 92 = .ok (.aload_n 0, 1) := by decide +kernel
theorem dX10_init_93 : decode cX10_init 93 = .ok (.bipush 16, 2) := by decide +kernel
theorem dX10_init_95 : decode cX10_init 95 = .ok (.newarray .int, 2) := by decide +kernel
theorem dX10_init_97 : decode cX10_init 97 = .ok (.putfield 44, 3) := by decide +kernel
theorem dX10_init_100 : decode cX10_init 100 = .ok (.aload_n 0, 1) := by decide +kernel
theorem dX10_init_101 : decode cX10_init 101 = .ok (.bipush 16, 2) := by decide +kernel
theorem dX10_init_103 : decode cX10_init 103 = .ok (.newarray .int, 2) := by decide +kernel
theorem dX10_init_105 : decode cX10_init 105 = .ok (.putfield 47, 3) := by decide +kernel
theorem dX10_init_108 : decode cX10_init 108 = .ok (.aload_n 0, 1) := by decide +kernel
theorem dX10_init_109 : decode cX10_init 109 = .ok (.sipush 600, 3) := by decide +kernel
theorem dX10_init_112 : decode cX10_init 112 = .ok (.newarray .int, 2) := by decide +kernel
theorem dX10_init_114 : decode cX10_init 114 = .ok (.putfield 50, 3) := by decide +kernel
theorem dX10_init_117 : decode cX10_init 117 = .ok (.aload_n 0, 1) := by decide +kernel
theorem dX10_init_118 : decode cX10_init 118 = .ok (.sipush 160, 3) := by decide +kernel
theorem dX10_init_121 : decode cX10_init 121 = .ok (.newarray .int, 2) := by decide +kernel
theorem dX10_init_123 : decode cX10_init 123 = .ok (.putfield 53, 3) := by decide +kernel
theorem dX10_init_126 : decode cX10_init 126 = .ok (.aload_n 0, 1) := by decide +kernel
theorem dX10_init_127 : decode cX10_init 127 = .ok (.iconst 4, 1) := by decide +kernel
theorem dX10_init_128 : decode cX10_init 128 = .ok (.newarray .int, 2) := by decide +kernel
theorem dX10_init_130 : decode cX10_init 130 = .ok (.putfield 56, 3) := by decide +kernel
theorem dX10_init_133 : decode cX10_init 133 = .ok (.aload_n 0, 1) := by decide +kernel
theorem dX10_init_134 : decode cX10_init 134 = .ok (.bipush 12, 2) := by decide +kernel
theorem dX10_init_136 : decode cX10_init 136 = .ok (.newarray .int, 2) := by decide +kernel
theorem dX10_init_138 : decode cX10_init 138 = .ok (.putfield 59, 3) := by decide +kernel
theorem dX10_init_141 : decode cX10_init 141 = .ok (.aload_n 0, 1) := by decide +kernel
theorem dX10_init_142 : decode cX10_init 142 = .ok (.bipush 12, 2) := by decide +kernel
theorem dX10_init_144 : decode cX10_init 144 = .ok (.newarray .int, 2) := by decide +kernel
theorem dX10_init_146 : decode cX10_init 146 = .ok (.putfield 62, 3) := by decide +kernel
theorem dX10_init_149 : decode cX10_init 149 = .ok (.aload_n 0, 1) := by decide +kernel
theorem dX10_init_150 : decode cX10_init 150 = .ok (.bipush 12, 2) := by decide +kernel
theorem dX10_init_152 : decode cX10_init 152 = .ok (.newarray .int, 2) := by decide +kernel
theorem dX10_init_154 : decode cX10_init 154 = .ok (.putfield 65, 3) := by decide +kernel
theorem dX10_init_157 : decode cX10_init 157 = .ok (.aload_n 0, 1) := by decide +kernel
theorem dX10_init_158 : decode cX10_init 158 = .ok (.bipush 6, 2) := by decide +kernel
theorem dX10_init_160 : decode cX10_init 160 = .ok (.newarray .int, 2) := by decide +kernel
theorem dX10_init_162 : decode cX10_init 162 = .ok (.putfield 68, 3) := by decide +kernel
theorem dX10_init_165 : decode cX10_init 165 = .ok (.aload_n 0, 1) := by decide +kernel
theorem dX10_init_166 : decode cX10_init 166 = .ok (.bipush 10, 2) := by decide +kernel
theorem dX10_init_168 : decode cX10_init 168 = .ok (.newarray .int, 2) := by decide +kernel
theorem dX10_init_170 : decode cX10_init 170 = .ok (.putfield 71, 3) := by decide +kernel
theorem dX10_init_173 : decode cX10_init 173 = .ok (.aload_n 0, 1) := by decide +kernel
theorem dX10_init_174 : decode cX10_init 174 = .ok (.bipush 8, 2) := by decide +kernel
theorem dX10_init_176 : decode cX10_init 176 = .ok (.newarray .int, 2) := by decide +kernel
theorem dX10_init_178 : decode cX10_init 178 = .ok (.putfield 74, 3) := by decide +kernel
theorem dX10_init_181 : decode cX10_init 181 = .ok (.aload_n 0, 1) := by decide +kernel
theorem dX10_init_182 : decode cX10_init 182 = .ok (.bipush 8, 2) := by decide +kernel
theorem dX10_init_184 : decode cX10_init 184 = .ok (.newarray .int, 2) := by decide +kernel
theorem dX10_init_186 : decode cX10_init 186 = .ok (.putfield 77, 3) := by decide +kernel
theorem dX10_init_189 : decode cX10_init 189 = .ok (.aload_n 0, 1) := by decide +kernel
theorem dX10_init_190 : decode cX10_init 190 = .ok (.bipush 8, 2) := by decide +kernel
theorem dX10_init_192 : decode cX10_init 192 = .ok (.newarray .int, 2) := by decide +kernel
theorem dX10_init_194 : decode cX10_init 194 = .ok (.putfield 80, 3) := by decide +kernel
theorem dX10_init_197 : decode cX10_init 197 = .ok (.aload_n 0, 1) := by decide +kernel
theorem dX10_init_198 : decode cX10_init 198 = .ok (.iconst 1, 1) := by decide +kernel
theorem dX10_init_199 : decode cX10_init 199 = .ok (.putfield 83, 3) := by decide +kernel
theorem dX10_init_202 : decode cX10_init 202 = .ok (.aload_n 0, 1) := by decide +kernel
theorem dX10_init_203 : decode cX10_init 203 = .ok (.sipush 1900, 3) := by decide +kernel
theorem dX10_init_206 : decode cX10_init 206 = .ok (.putfield 87, 3) := by decide +kernel
theorem dX10_init_209 : decode cX10_init 209 = .ok (.aload_n 0, 1) := by decide +kernel
theorem dX10_init_210 : decode cX10_init 210 = .ok (.bipush 30, 2) := by decide +kernel
theorem dX10_init_212 : decode cX10_init 212 = .ok (.newarray .int, 2) := by decide +kernel
theorem dX10_init_214 : decode cX10_init 214 = .ok (.putfield 90, 3) := by decide +kernel
theorem dX10_init_217 : decode cX10_init 217 = .ok (.aload_n 0, 1) := by decide +kernel
theorem dX10_init_218 : decode cX10_init 218 = .ok (.bipush 30, 2) := by decide +kernel
theorem dX10_init_220 : decode cX10_init 220 = .ok (.newarray .int, 2) := by decide +kernel
theorem dX10_init_222 : decode cX10_init 222 = .ok (.putfield 93, 3) := by decide +kernel
theorem dX10_init_225 : decode cX10_init 225 = .ok (.aload_n 0, 1) := by decide +kernel
theorem dX10_init_226 : decode cX10_init 226 = .ok (.bipush 30, 2) := by decide +kernel
theorem dX10_init_228 : decode cX10_init 228 = .ok (.newarray .int, 2) := by decide +kernel
theorem dX10_init_230 : decode cX10_init 230 = .ok (.putfield 96, 3) := by decide +kernel
theorem dX10_init_233 : decode cX10_init 233 = .ok (.aload_n 0, 1) := by decide +kernel
theorem dX10_init_234 : decode cX10_init 234 = .ok (.bipush 30, 2) := by decide +kernel
theorem dX10_init_236 : decode cX10_init 236 = .ok (.newarray .int, 2) := by decide +kernel
theorem dX10_init_238 : decode cX10_init 238 = .ok (.putfield 99, 3) := by decide +kernel
theorem dX10_init_241 : decode cX10_init 241 = .ok (.aload_n 0, 1) := by decide +kernel
theorem dX10_init_242 : decode cX10_init 242 = .ok (.bipush 12, 2) := by decide +kernel
theorem dX10_init_244 : decode cX10_init 244 = .ok (.newarray .int, 2) := by decide +kernel
theorem dX10_init_246 : decode cX10_init 246 = .ok (.putfield 102, 3) := by decide +kernel
theorem dX10_init_249 : decode cX10_init 249 = .ok (.aload_n 0, 1) := by decide +kernel
theorem dX10_init_250 : decode cX10_init 250 = .ok (.bipush 12, 2) := by decide +kernel
theorem dX10_init_252 : decode cX10_init 252 = .ok (.newarray .int, 2) := by decide +kernel
theorem dX10_init_254 : decode cX10_init 254 = .ok (.putfield 105, 3) := by decide +kernel
theorem dX10_init_257 : decode cX10_init 257 = .ok (.aload_n 0, 1) := by decide +kernel
theorem dX10_init_258 : decode cX10_init 258 = .ok (.bipush 12, 2) := by decide +kernel
theorem dX10_init_260 : decode cX10_init 260 = .ok (.newarray .int, 2) := by decide +kernel
theorem dX10_init_262 : decode cX10_init 262 = .ok (.putfield 108, 3) := by decide +kernel
theorem dX10_init_265 : decode cX10_init 265 = .ok (.aload_n 0, 1) := by decide +kernel
theorem dX10_init_266 : decode cX10_init 266 = .ok (.bipush 12, 2) := by decide +kernel
theorem dX10_init_268 : decode cX10_init 268 = .ok (.newarray .int, 2) := by decide +kernel
theorem dX10_init_270 : decode cX10_init 270 = .ok (.putfield 111, 3) := by decide +kernel
theorem dX10_init_273 : decode cX10_init 273 = .ok (.aload_n 0, 1) := by decide +kernel
theorem dX10_init_274 : decode cX10_init 274 = .ok (.bipush 12, 2) := by decide +kernel
theorem dX10_init_276 : decode cX10_init 276 = .ok (.newarray .boolean, 2) := by decide +kernel
theorem dX10_init_278 : decode cX10_init 278 = .ok (.putfield 114, 3) := by decide +kernel
theorem dX10_init_281 : decode cX10_init 281 = .ok (.iconst 0, 1) := by decide +kernel
theorem dX10_init_282 : decode cX10_init 282 = .ok (.istore_n 1, 1) := by decide +kernel
theorem dX10_init_283 : decode cX10_init 283 = .ok (.iload_n 1, 1) := by decide +kernel
theorem dX10_init_284 : decode cX10_init 284 = .ok (.iconst 4, 1) := by decide +kernel
theorem dX10_init_285 : decode cX10_init 285 = .ok (.if_icmp .ge 17, 3) := by decide +kernel
theorem dX10_init_288 : decode cX10_init 288 = .ok (.aload_n 0, 1) := by decide +kernel
theorem dX10_init_289 : decode cX10_init 289 = .ok (.getfield 16, 3) := by decide +kernel
theorem dX10_init_292 : decode cX10_init 292 = .ok (.iload_n 1, 1) := by decide +kernel
theorem dX10_init_293 : decode cX10_init 293 = .ok (.bipush (-9), 2) := by decide +kernel
theorem dX10_init_295 : decode cX10_init 295 = .ok (.iastore, 1) := by decide +kernel
theorem dX10_init_296 : decode cX10_init 296 = .ok (.iinc 1 1, 3) := by decide +kernel
theorem dX10_init_299 : decode cX10_init 299 = .ok (.goto (-16), 3) := by decide +kernel
theorem dX10_init_302 : decode cX10_init 302 = .ok (.iconst 0, 1) := by decide +kernel
theorem dX10_init_303 : decode cX10_init 303 = .ok (.istore_n 1, 1) := by decide +kernel
theorem dX10_init_304 : decode cX10_init 304 = .ok (.iload_n 1, 1) := by decide +kernel
theorem dX10_init_305 : decode cX10_init 305 = .ok (.sipush 600, 3) := by decide +kernel
theorem dX10_init_308 : decode cX10_init 308 = .ok (.if_icmp .ge 16, 3) := by decide +kernel
theorem dX10_init_311 : decode cX10_init 311 = .ok (.aload_n 0, 1) := by decide +kernel
theorem dX10_init_312 : decode cX10_init 312 = .ok (.getfield 50, 3) := by decide +kernel
theorem dX10_init_315 : decode cX10_init 315 = .ok (.iload_n 1, 1) := by decide +kernel
theorem dX10_init_316 : decode cX10_init 316 = .ok (.iconst 4, 1) := by decide +kernel
theorem dX10_init_317 : decode cX10_init 317 = .ok (.iastore, 1) := by decide +kernel
theorem dX10_init_318 : decode cX10_init 318 = .ok (.iinc 1 1, 3) := by decide +kernel
theorem dX10_init_321 : decode cX10_init 321 = .ok (.goto (-17), 3) := by decide +kernel
theorem dX10_init_324 : decode cX10_init 324 = .ok (.return_, 1) := by decide +kernel
theorem dX10_in_0 : decode cX10_in 0 = .ok (.iload_n 0, 1) := by decide +kernel
theorem dX10_in_1 : decode cX10_in 1 = .ok (.iload_n 1, 1) := by decide +kernel
theorem dX10_in_2 : decode cX10_in 2 = .ok (.if_icmp .lt 12, 3) := by decide +kernel
theorem dX10_in_5 : decode cX10_in 5 = .ok (.iload_n 0, 1) := by decide +kernel
theorem dX10_in_6 : decode cX10_in 6 = .ok (.iload_n 2, 1) := by decide +kernel
theorem dX10_in_7 : decode cX10_in 7 = .ok (.if_icmp .gt 7, 3) := by decide +kernel
theorem dX10_in_10 : decode cX10_in 10 = .ok (.iconst 1, 1) := by decide +kernel
theorem dX10_in_11 : decode cX10_in 11 = .ok (.goto 4, 3) := by decide +kernel
theorem dX10_in_14 : decode cX10_in 14 = .ok (.iconst 0, 1) := by decide +kernel
theorem dX10_in_15 : decode cX10_in 15 = .ok (.ireturn, 1) := by decide +kernel
theorem dX10_meets_0 : decode cX10_meets 0 = .ok (.aload_n 0, 1) := by decide +kernel
theorem dX10_meets_1 : decode cX10_meets 1 = .ok (.iload_n 1, 1) := by decide +kernel
theorem dX10_meets_2 : decode cX10_meets 2 = .ok (.putfield 117, 3) := by decide +kernel
theorem dX10_meets_5 : decode cX10_meets 5 = .ok (.aload_n 0, 1) := by decide +kernel
theorem dX10_meets_6 : decode cX10_meets 6 = .ok (.getfield 7, 3) := by decide +kernel
theorem dX10_meets_9 : decode cX10_meets 9 = .ok (.iload_n 1, 1) := by decide +kernel
theorem dX10_meets_10 : decode cX10_meets 10 = .ok (.dup2, 1) := by decide +kernel
theorem dX10_meets_11 : decode cX10_meets 11 = .ok (.iaload, 1) := by decide +kernel
theorem dX10_meets_12 : decode cX10_meets 12 = .ok (.iconst 1, 1) := by decide +kernel
theorem dX10_meets_13 : decode cX10_meets 13 = .ok (.iadd, 1) := by decide +kernel
theorem dX10_meets_14 : decode cX10_meets 14 = .ok (.iastore, 1) := by decide +kernel
theorem dX10_meets_15 : decode cX10_meets 15 = .ok (.bipush (-3), 2) := by decide +kernel
theorem dX10_meets_17 : decode cX10_meets 17 = .ok (.ireturn, 1) := by decide +kernel
set_option maxRecDepth 20000 in
theorem ggX10_isLetter_X10_in : GoodIn wsX10_isLetter wsX10_in := goodIn_r _ [4] (by decide +kernel) (by decide +kernel)
set_option maxRecDepth 20000 in
theorem gX10_isLetter_X10_in : GoodIn wsX10_isLetter (va_wsS RX10 120 yX10_in wsX10_in) := goodIn_app (goodIn_of _ (by decide +kernel)) ggX10_isLetter_X10_in
theorem dX10_isLetter_0 : decode cX10_isLetter 0 = .ok (.iload_n 0, 1) := by decide +kernel
theorem dX10_isLetter_1 : decode cX10_isLetter 1 = .ok (.bipush 97, 2) := by decide +kernel
theorem dX10_isLetter_3 : decode cX10_isLetter 3 = .ok (.bipush 122, 2) := by decide +kernel
theorem dX10_isLetter_5 : decode cX10_isLetter 5 = .ok (.invokestatic 120, 3) := by decide +kernel
theorem dX10_isLetter_8 : decode cX10_isLetter 8 = .ok (.ireturn, 1) := by decide +kernel
set_option maxRecDepth 20000 in
theorem ggX10_letter_X10_isLetter : GoodIn wsX10_letter wsX10_isLetter := goodIn_r _ [5, 6, 7, 4, 8] (by decide +kernel) (by decide +kernel)
set_option maxRecDepth 20000 in
theorem gX10_letter_X10_isLetter : GoodIn wsX10_letter (va_wsS RX10 124 yX10_isLetter wsX10_isLetter) := goodIn_app (goodIn_of _ (by decide +kernel)) ggX10_letter_X10_isLetter
set_option maxRecDepth 20000 in
theorem ggX10_letter_X10_in : GoodIn wsX10_letter wsX10_in := goodIn_r _ [8] (by decide +kernel) (by decide +kernel)
set_option maxRecDepth 20000 in
theorem gX10_letter_X10_in : GoodIn wsX10_letter (va_wsS RX10 120 yX10_in wsX10_in) := goodIn_app (goodIn_of _ (by decide +kernel)) ggX10_letter_X10_in
theorem dX10_letter_0 : decode cX10_letter 0 = .ok (.iload_n 1, 1) := by decide +kernel
theorem dX10_letter_1 : decode cX10_letter 1 = .ok (.invokestatic 124, 3) := by decide +kernel
theorem dX10_letter_4 : decode cX10_letter 4 = .ok (.ifCond .eq 14, 3) := by decide +kernel
theorem dX10_letter_7 : decode cX10_letter 7 = .ok (.iload_n 2, 1) := by decide +kernel
theorem dX10_letter_8 : decode cX10_letter 8 = .ok (.iconst 0, 1) := by decide +kernel
theorem dX10_letter_9 : decode cX10_letter 9 = .ok (.sipush 32767, 3) := by decide +kernel
theorem dX10_letter_12 : decode cX10_letter 12 = .ok (.invokestatic 120, 3) := by decide +kernel
theorem dX10_letter_15 : decode cX10_letter 15 = .ok (.ifCond .ne 5, 3) := by decide +kernel
theorem dX10_letter_18 : decode cX10_letter 18 = .ok (.iconst (-1), 1) := by decide +kernel
theorem dX10_letter_19 : decode cX10_letter 19 = .ok (.ireturn, 1) := by decide +kernel
theorem dX10_letter_20 : decode cX10_letter 20 = .ok (.aload_n 0, 1) := by decide +kernel
theorem dX10_letter_21 : decode cX10_letter 21 = .ok (.getfield 13, 3) := by decide +kernel
theorem dX10_letter_24 : decode cX10_letter 24 = .ok (.iload_n 1, 1) := by decide +kernel
theorem dX10_letter_25 : decode cX10_letter 25 = .ok (.bipush 97, 2) := by decide +kernel
theorem dX10_letter_27 : decode cX10_letter 27 = .ok (.isub, 1) := by decide +kernel
theorem dX10_letter_28 : decode cX10_letter 28 = .ok (.iaload, 1) := by decide +kernel
theorem dX10_letter_29 : decode cX10_letter 29 = .ok (.istore_n 3, 1) := by decide +kernel
theorem dX10_letter_30 : decode cX10_letter 30 = .ok (.aload_n 0, 1) := by decide +kernel
theorem dX10_letter_31 : decode cX10_letter 31 = .ok (.getfield 13, 3) := by decide +kernel
theorem dX10_letter_34 : decode cX10_letter 34 = .ok (.iload_n 1, 1) := by decide +kernel
theorem dX10_letter_35 : decode cX10_letter 35 = .ok (.bipush 97, 2) := by decide +kernel
theorem dX10_letter_37 : decode cX10_letter 37 = .ok (.isub, 1) := by decide +kernel
theorem dX10_letter_38 : decode cX10_letter 38 = .ok (.iload_n 2, 1) := by decide +kernel
theorem dX10_letter_39 : decode cX10_letter 39 = .ok (.iastore, 1) := by decide +kernel
theorem dX10_letter_40 : decode cX10_letter 40 = .ok (.iload_n 3, 1) := by decide +kernel
theorem dX10_letter_41 : decode cX10_letter 41 = .ok (.ireturn, 1) := by decide +kernel
set_option maxRecDepth 20000 in
theorem ggX10_isSheet_X10_in : GoodIn wsX10_isSheet wsX10_in := goodIn_r _ [4] (by decide +kernel) (by decide +kernel)
set_option maxRecDepth 20000 in
theorem gX10_isSheet_X10_in : GoodIn wsX10_isSheet (va_wsS RX10 120 yX10_in wsX10_in) := goodIn_app (goodIn_of _ (by decide +kernel)) ggX10_isSheet_X10_in
theorem dX10_isSheet_0 : decode cX10_isSheet 0 = .ok (.iload_n 0, 1) := by decide +kernel
theorem dX10_isSheet_1 : decode cX10_isSheet 1 = .ok (.iconst 0, 1) := by decide +kernel
theorem dX10_isSheet_2 : decode cX10_isSheet 2 = .ok (.iconst 3, 1) := by decide +kernel
theorem dX10_isSheet_3 : decode cX10_isSheet 3 = .ok (.invokestatic 120, 3) := by decide +kernel
theorem dX10_isSheet_6 : decode cX10_isSheet 6 = .ok (.ireturn, 1) := by decide +kernel
set_option maxRecDepth 20000 in
theorem ggX10_looked_X10_isSheet : GoodIn wsX10_looked wsX10_isSheet := goodIn_r _ [5, 6, 7, 4, 8] (by decide +kernel) (by decide +kernel)
set_option maxRecDepth 20000 in
theorem gX10_looked_X10_isSheet : GoodIn wsX10_looked (va_wsS RX10 128 yX10_isSheet wsX10_isSheet) := goodIn_app (goodIn_of _ (by decide +kernel)) ggX10_looked_X10_isSheet
set_option maxRecDepth 20000 in
theorem ggX10_looked_X10_meets : GoodIn wsX10_looked wsX10_meets := goodIn_r _ [12, 13, 14, 15, 16, 17, 18, 19, 20, 21, 22, 23, 24, 25, 26, 27, 28, 29, 30, 31, 32, 33, 34, 35, 36, 37, 38, 39, 40, 41, 42, 43, 44, 45, 46, 47, 48, 49, 50, 51, 52, 53, 54, 55, 56, 57, 58] (by decide +kernel) (by decide +kernel)
set_option maxRecDepth 20000 in
theorem gX10_looked_X10_meets : GoodIn wsX10_looked (wsV RX10 131 RX10 yX10_meets wsX10_meets) := goodIn_app (goodIn_of _ (by decide +kernel)) ggX10_looked_X10_meets
theorem dX10_looked_0 : decode cX10_looked 0 = .ok (.iload_n 1, 1) := by decide +kernel
theorem dX10_looked_1 : decode cX10_looked 1 = .ok (.invokestatic 128, 3) := by decide +kernel
theorem dX10_looked_4 : decode cX10_looked 4 = .ok (.ifCond .ne 7, 3) := by decide +kernel
theorem dX10_looked_7 : decode cX10_looked 7 = .ok (.iconst (-1), 1) := by decide +kernel
theorem dX10_looked_8 : decode cX10_looked 8 = .ok (.goto 21, 3) := by decide +kernel
theorem dX10_looked_11 : decode cX10_looked 11 = .ok (.aload_n 0, 1) := by decide +kernel
theorem dX10_looked_12 : decode cX10_looked 12 = .ok (.getfield 16, 3) := by decide +kernel
theorem dX10_looked_15 : decode cX10_looked 15 = .ok (.iload_n 1, 1) := by decide +kernel
theorem dX10_looked_16 : decode cX10_looked 16 = .ok (.iaload, 1) := by decide +kernel
theorem dX10_looked_17 : decode cX10_looked 17 = .ok (.ifCond .ge 11, 3) := by decide +kernel
theorem dX10_looked_20 : decode cX10_looked 20 = .ok (.aload_n 0, 1) := by decide +kernel
theorem dX10_looked_21 : decode cX10_looked 21 = .ok (.iconst 1, 1) := by decide +kernel
theorem dX10_looked_22 : decode cX10_looked 22 = .ok (.invokevirtual 131, 3) := by decide +kernel
theorem dX10_looked_25 : decode cX10_looked 25 = .ok (.goto 4, 3) := by decide +kernel
theorem dX10_looked_28 : decode cX10_looked 28 = .ok (.iconst 0, 1) := by decide +kernel
theorem dX10_looked_29 : decode cX10_looked 29 = .ok (.ireturn, 1) := by decide +kernel
set_option maxRecDepth 20000 in
theorem ggX10_sheet_X10_isSheet : GoodIn wsX10_sheet wsX10_isSheet := goodIn_r _ [6, 7, 8, 5, 9] (by decide +kernel) (by decide +kernel)
set_option maxRecDepth 20000 in
theorem gX10_sheet_X10_isSheet : GoodIn wsX10_sheet (va_wsS RX10 128 yX10_isSheet wsX10_isSheet) := goodIn_app (goodIn_of _ (by decide +kernel)) ggX10_sheet_X10_isSheet
set_option maxRecDepth 20000 in
theorem ggX10_sheet_X10_meets : GoodIn wsX10_sheet wsX10_meets := goodIn_r _ [13, 14, 15, 16, 17, 18, 19, 20, 21, 22, 23, 24, 25, 26, 27, 28, 29, 30, 31, 32, 33, 34, 35, 36, 37, 38, 39, 40, 41, 42, 43, 44, 45, 46, 47, 48, 49, 50, 51, 52, 53, 54, 55, 56, 57, 58, 59] (by decide +kernel) (by decide +kernel)
set_option maxRecDepth 20000 in
theorem gX10_sheet_X10_meets : GoodIn wsX10_sheet (wsV RX10 131 RX10 yX10_meets wsX10_meets) := goodIn_app (goodIn_of _ (by decide +kernel)) ggX10_sheet_X10_meets
theorem dX10_sheet_0 : decode cX10_sheet 0 = .ok (.iload_n 1, 1) := by decide +kernel
theorem dX10_sheet_1 : decode cX10_sheet 1 = .ok (.invokestatic 128, 3) := by decide +kernel
theorem dX10_sheet_4 : decode cX10_sheet 4 = .ok (.ifCond .eq 9, 3) := by decide +kernel
theorem dX10_sheet_7 : decode cX10_sheet 7 = .ok (.iload_n 2, 1) := by decide +kernel
theorem dX10_sheet_8 : decode cX10_sheet 8 = .ok (.bipush 10, 2) := by decide +kernel
theorem dX10_sheet_10 : decode cX10_sheet 10 = .ok (.if_icmp .le 5, 3) := by decide +kernel
theorem dX10_sheet_13 : decode cX10_sheet 13 = .ok (.iconst (-1), 1) := by decide +kernel
theorem dX10_sheet_14 : decode cX10_sheet 14 = .ok (.ireturn, 1) := by decide +kernel
theorem dX10_sheet_15 : decode cX10_sheet 15 = .ok (.iload_n 2, 1) := by decide +kernel
theorem dX10_sheet_16 : decode cX10_sheet 16 = .ok (.ifCond .ge 9, 3) := by decide +kernel
theorem dX10_sheet_19 : decode cX10_sheet 19 = .ok (.aload_n 0, 1) := by decide +kernel
theorem dX10_sheet_20 : decode cX10_sheet 20 = .ok (.iconst 5, 1) := by decide +kernel
theorem dX10_sheet_21 : decode cX10_sheet 21 = .ok (.invokevirtual 131, 3) := by decide +kernel
theorem dX10_sheet_24 : decode cX10_sheet 24 = .ok (.ireturn, 1) := by decide +kernel
theorem dX10_sheet_25 : decode cX10_sheet 25 = .ok (.aload_n 0, 1) := by decide +kernel
theorem dX10_sheet_26 : decode cX10_sheet 26 = .ok (.getfield 16, 3) := by decide +kernel
theorem dX10_sheet_29 : decode cX10_sheet 29 = .ok (.iload_n 1, 1) := by decide +kernel
theorem dX10_sheet_30 : decode cX10_sheet 30 = .ok (.iload_n 2, 1) := by decide +kernel
theorem dX10_sheet_31 : decode cX10_sheet 31 = .ok (.iastore, 1) := by decide +kernel
theorem dX10_sheet_32 : decode cX10_sheet 32 = .ok (.iconst 0, 1) := by decide +kernel
theorem dX10_sheet_33 : decode cX10_sheet 33 = .ok (.istore_n 3, 1) := by decide +kernel
theorem dX10_sheet_34 : decode cX10_sheet 34 = .ok (.iload_n 3, 1) := by decide +kernel
theorem dX10_sheet_35 : decode cX10_sheet 35 = .ok (.bipush 10, 2) := by decide +kernel
theorem dX10_sheet_37 : decode cX10_sheet 37 = .ok (.if_icmp .ge 22, 3) := by decide +kernel
theorem dX10_sheet_40 : decode cX10_sheet 40 = .ok (.aload_n 0, 1) := by decide +kernel
theorem dX10_sheet_41 : decode cX10_sheet 41 = .ok (.getfield 19, 3) := by decide +kernel
theorem dX10_sheet_44 : decode cX10_sheet 44 = .ok (.bipush 10, 2) := by decide +kernel
theorem dX10_sheet_46 : decode cX10_sheet 46 = .ok (.iload_n 1, 1) := by decide +kernel
theorem dX10_sheet_47 : decode cX10_sheet 47 = .ok (.imul, 1) := by decide +kernel
theorem dX10_sheet_48 : decode cX10_sheet 48 = .ok (.iload_n 3, 1) := by decide +kernel
theorem dX10_sheet_49 : decode cX10_sheet 49 = .ok (.iadd, 1) := by decide +kernel
theorem dX10_sheet_50 : decode cX10_sheet 50 = .ok (.bipush 97, 2) := by decide +kernel
theorem dX10_sheet_52 : decode cX10_sheet 52 = .ok (.iastore, 1) := by decide +kernel
theorem dX10_sheet_53 : decode cX10_sheet 53 = .ok (.iinc 3 1, 3) := by decide +kernel
theorem dX10_sheet_56 : decode cX10_sheet 56 = .ok (.goto (-22), 3) := by decide +kernel
theorem dX10_sheet_59 : decode cX10_sheet 59 = .ok (.iload_n 2, 1) := by decide +kernel
theorem dX10_sheet_60 : decode cX10_sheet 60 = .ok (.ireturn, 1) := by decide +kernel
set_option maxRecDepth 20000 in
theorem ggX10_lay_X10_looked : GoodIn wsX10_lay wsX10_looked := goodIn_r _ [7, 1, 8, 9, 6, 10, 11, 12, 13, 14, 15, 16, 17, 18, 19, 20, 21, 22, 23, 24, 25, 26, 27, 28, 29, 30, 31, 32, 33, 34, 35, 36, 37, 38, 39, 40, 41, 42, 43, 44, 45, 46, 47, 48, 49, 50, 51, 52, 53, 54, 55, 56, 57, 58, 59, 60, 61, 62, 63] (by decide +kernel) (by decide +kernel)
set_option maxRecDepth 20000 in
theorem gX10_lay_X10_looked : GoodIn wsX10_lay (wsV RX10 135 RX10 yX10_looked wsX10_looked) := goodIn_app (goodIn_of _ (by decide +kernel)) ggX10_lay_X10_looked
set_option maxRecDepth 20000 in
theorem ggX10_lay_X10_in : GoodIn wsX10_lay wsX10_in := goodIn_r _ [13] (by decide +kernel) (by decide +kernel)
set_option maxRecDepth 20000 in
theorem gX10_lay_X10_in : GoodIn wsX10_lay (va_wsS RX10 120 yX10_in wsX10_in) := goodIn_app (goodIn_of _ (by decide +kernel)) ggX10_lay_X10_in
set_option maxRecDepth 20000 in
theorem ggX10_lay_X10_meets : GoodIn wsX10_lay wsX10_meets := goodIn_r _ [17, 18, 19, 20, 21, 22, 23, 24, 25, 26, 27, 28, 29, 30, 31, 32, 33, 34, 35, 36, 37, 38, 39, 40, 41, 42, 43, 44, 45, 46, 47, 48, 49, 50, 51, 52, 53, 54, 55, 56, 57, 58, 59, 60, 61, 62, 63] (by decide +kernel) (by decide +kernel)
set_option maxRecDepth 20000 in
theorem gX10_lay_X10_meets : GoodIn wsX10_lay (wsV RX10 131 RX10 yX10_meets wsX10_meets) := goodIn_app (goodIn_of _ (by decide +kernel)) ggX10_lay_X10_meets
theorem dX10_lay_0 : decode cX10_lay 0 = .ok (.aload_n 0, 1) := by decide +kernel
theorem dX10_lay_1 : decode cX10_lay 1 = .ok (.iload_n 1, 1) := by decide +kernel
theorem dX10_lay_2 : decode cX10_lay 2 = .ok (.invokevirtual 135, 3) := by decide +kernel
theorem dX10_lay_5 : decode cX10_lay 5 = .ok (.istore 4, 2) := by decide +kernel
theorem dX10_lay_7 : decode cX10_lay 7 = .ok (.iload 4, 2) := by decide +kernel
theorem dX10_lay_9 : decode cX10_lay 9 = .ok (.ifCond .ge 6, 3) := by decide +kernel
theorem dX10_lay_12 : decode cX10_lay 12 = .ok (.iload 4, 2) := by decide +kernel
theorem dX10_lay_14 : decode cX10_lay 14 = .ok (.ireturn, 1) := by decide +kernel
theorem dX10_lay_15 : decode cX10_lay 15 = .ok (.iload_n 2, 1) := by decide +kernel
theorem dX10_lay_16 : decode cX10_lay 16 = .ok (.iconst 0, 1) := by decide +kernel
theorem dX10_lay_17 : decode cX10_lay 17 = .ok (.aload_n 0, 1) := by decide +kernel
theorem dX10_lay_18 : decode cX10_lay 18 = .ok (.getfield 16, 3) := by decide +kernel
theorem dX10_lay_21 : decode cX10_lay 21 = .ok (.iload_n 1, 1) := by decide +kernel
theorem dX10_lay_22 : decode cX10_lay 22 = .ok (.iaload, 1) := by decide +kernel
theorem dX10_lay_23 : decode cX10_lay 23 = .ok (.iconst 1, 1) := by decide +kernel
theorem dX10_lay_24 : decode cX10_lay 24 = .ok (.isub, 1) := by decide +kernel
theorem dX10_lay_25 : decode cX10_lay 25 = .ok (.invokestatic 120, 3) := by decide +kernel
theorem dX10_lay_28 : decode cX10_lay 28 = .ok (.ifCond .ne 9, 3) := by decide +kernel
theorem dX10_lay_31 : decode cX10_lay 31 = .ok (.aload_n 0, 1) := by decide +kernel
theorem dX10_lay_32 : decode cX10_lay 32 = .ok (.iconst 2, 1) := by decide +kernel
theorem dX10_lay_33 : decode cX10_lay 33 = .ok (.invokevirtual 131, 3) := by decide +kernel
theorem dX10_lay_36 : decode cX10_lay 36 = .ok (.ireturn, 1) := by decide +kernel
theorem dX10_lay_37 : decode cX10_lay 37 = .ok (.aload_n 0, 1) := by decide +kernel
theorem dX10_lay_38 : decode cX10_lay 38 = .ok (.getfield 19, 3) := by decide +kernel
theorem dX10_lay_41 : decode cX10_lay 41 = .ok (.bipush 10, 2) := by decide +kernel
theorem dX10_lay_43 : decode cX10_lay 43 = .ok (.iload_n 1, 1) := by decide +kernel
theorem dX10_lay_44 : decode cX10_lay 44 = .ok (.imul, 1) := by decide +kernel
theorem dX10_lay_45 : decode cX10_lay 45 = .ok (.iload_n 2, 1) := by decide +kernel
theorem dX10_lay_46 : decode cX10_lay 46 = .ok (.iadd, 1) := by decide +kernel
theorem dX10_lay_47 : decode cX10_lay 47 = .ok (.iaload, 1) := by decide +kernel
theorem dX10_lay_48 : decode cX10_lay 48 = .ok (.istore 5, 2) := by decide +kernel
theorem dX10_lay_50 : decode cX10_lay 50 = .ok (.aload_n 0, 1) := by decide +kernel
theorem dX10_lay_51 : decode cX10_lay 51 = .ok (.getfield 19, 3) := by decide +kernel
theorem dX10_lay_54 : decode cX10_lay 54 = .ok (.bipush 10, 2) := by decide +kernel
theorem dX10_lay_56 : decode cX10_lay 56 = .ok (.iload_n 1, 1) := by decide +kernel
theorem dX10_lay_57 : decode cX10_lay 57 = .ok (.imul, 1) := by decide +kernel
theorem dX10_lay_58 : decode cX10_lay 58 = .ok (.iload_n 2, 1) := by decide +kernel
theorem dX10_lay_59 : decode cX10_lay 59 = .ok (.iadd, 1) := by decide +kernel
theorem dX10_lay_60 : decode cX10_lay 60 = .ok (.iload_n 3, 1) := by decide +kernel
theorem dX10_lay_61 : decode cX10_lay 61 = .ok (.i2b, 1) := by decide +kernel
theorem dX10_lay_62 : decode cX10_lay 62 = .ok (.iastore, 1) := by decide +kernel
theorem dX10_lay_63 : decode cX10_lay 63 = .ok (.iload 5, 2) := by decide +kernel
theorem dX10_lay_65 : decode cX10_lay 65 = .ok (.sipush 1000, 3) := by decide +kernel
theorem dX10_lay_68 : decode cX10_lay 68 = .ok (.iadd, 1) := by decide +kernel
theorem dX10_lay_69 : decode cX10_lay 69 = .ok (.ireturn, 1) := by decide +kernel
set_option maxRecDepth 20000 in
theorem ggX10_tear_X10_looked : GoodIn wsX10_tear wsX10_looked := goodIn_r _ [6, 1, 7, 8, 5, 9, 10, 11, 12, 13, 14, 15, 16, 17, 18, 19, 20, 21, 22, 23, 24, 25, 26, 27, 28, 29, 30, 31, 32, 33, 34, 35, 36, 37, 38, 39, 40, 41, 42, 43, 44, 45, 46, 47, 48, 49, 50, 51, 52, 53, 54, 55, 56, 57, 58, 59, 60, 61, 62] (by decide +kernel) (by decide +kernel)
set_option maxRecDepth 20000 in
theorem gX10_tear_X10_looked : GoodIn wsX10_tear (wsV RX10 135 RX10 yX10_looked wsX10_looked) := goodIn_app (goodIn_of _ (by decide +kernel)) ggX10_tear_X10_looked
theorem dX10_tear_0 : decode cX10_tear 0 = .ok (.aload_n 0, 1) := by decide +kernel
theorem dX10_tear_1 : decode cX10_tear 1 = .ok (.iload_n 1, 1) := by decide +kernel
theorem dX10_tear_2 : decode cX10_tear 2 = .ok (.invokevirtual 135, 3) := by decide +kernel
theorem dX10_tear_5 : decode cX10_tear 5 = .ok (.istore_n 2, 1) := by decide +kernel
theorem dX10_tear_6 : decode cX10_tear 6 = .ok (.iload_n 2, 1) := by decide +kernel
theorem dX10_tear_7 : decode cX10_tear 7 = .ok (.ifCond .ge 5, 3) := by decide +kernel
theorem dX10_tear_10 : decode cX10_tear 10 = .ok (.iload_n 2, 1) := by decide +kernel
theorem dX10_tear_11 : decode cX10_tear 11 = .ok (.ireturn, 1) := by decide +kernel
theorem dX10_tear_12 : decode cX10_tear 12 = .ok (.aload_n 0, 1) := by decide +kernel
theorem dX10_tear_13 : decode cX10_tear 13 = .ok (.getfield 16, 3) := by decide +kernel
theorem dX10_tear_16 : decode cX10_tear 16 = .ok (.iload_n 1, 1) := by decide +kernel
theorem dX10_tear_17 : decode cX10_tear 17 = .ok (.bipush (-9), 2) := by decide +kernel
theorem dX10_tear_19 : decode cX10_tear 19 = .ok (.iastore, 1) := by decide +kernel
theorem dX10_tear_20 : decode cX10_tear 20 = .ok (.iconst 1, 1) := by decide +kernel
theorem dX10_tear_21 : decode cX10_tear 21 = .ok (.ireturn, 1) := by decide +kernel
set_option maxRecDepth 20000 in
theorem ggX10_copy_X10_isSheet : GoodIn wsX10_copy wsX10_isSheet := goodIn_r _ [7, 8, 9, 6, 10] (by decide +kernel) (by decide +kernel)
set_option maxRecDepth 20000 in
theorem gX10_copy_X10_isSheet : GoodIn wsX10_copy (va_wsS RX10 128 yX10_isSheet wsX10_isSheet) := goodIn_app (goodIn_of _ (by decide +kernel)) ggX10_copy_X10_isSheet
set_option maxRecDepth 20000 in
theorem ggX10_copy_X10_meets : GoodIn wsX10_copy wsX10_meets := goodIn_r _ [14, 15, 16, 17, 18, 19, 20, 21, 22, 23, 24, 25, 26, 27, 28, 29, 30, 31, 32, 33, 34, 35, 36, 37, 38, 39, 40, 41, 42, 43, 44, 45, 46, 47, 48, 49, 50, 51, 52, 53, 54, 55, 56, 57, 58, 59, 60] (by decide +kernel) (by decide +kernel)
set_option maxRecDepth 20000 in
theorem gX10_copy_X10_meets : GoodIn wsX10_copy (wsV RX10 131 RX10 yX10_meets wsX10_meets) := goodIn_app (goodIn_of _ (by decide +kernel)) ggX10_copy_X10_meets
theorem dX10_copy_0 : decode cX10_copy 0 = .ok (.iload_n 1, 1) := by decide +kernel
theorem dX10_copy_1 : decode cX10_copy 1 = .ok (.invokestatic 128, 3) := by decide +kernel
theorem dX10_copy_4 : decode cX10_copy 4 = .ok (.ifCond .eq 10, 3) := by decide +kernel
theorem dX10_copy_7 : decode cX10_copy 7 = .ok (.iload_n 3, 1) := by decide +kernel
theorem dX10_copy_8 : decode cX10_copy 8 = .ok (.invokestatic 128, 3) := by decide +kernel
theorem dX10_copy_11 : decode cX10_copy 11 = .ok (.ifCond .ne 5, 3) := by decide +kernel
theorem dX10_copy_14 : decode cX10_copy 14 = .ok (.iconst (-1), 1) := by decide +kernel
theorem dX10_copy_15 : decode cX10_copy 15 = .ok (.ireturn, 1) := by decide +kernel
theorem dX10_copy_16 : decode cX10_copy 16 = .ok (.iload 5, 2) := by decide +kernel
theorem dX10_copy_18 : decode cX10_copy 18 = .ok (.ifCond .ge 9, 3) := by decide +kernel
theorem dX10_copy_21 : decode cX10_copy 21 = .ok (.aload_n 0, 1) := by decide +kernel
theorem dX10_copy_22 : decode cX10_copy 22 = .ok (.iconst 5, 1) := by decide +kernel
theorem dX10_copy_23 : decode cX10_copy 23 = .ok (.invokevirtual 131, 3) := by decide +kernel
theorem dX10_copy_26 : decode cX10_copy 26 = .ok (.ireturn, 1) := by decide +kernel
theorem dX10_copy_27 : decode cX10_copy 27 = .ok (.aload_n 0, 1) := by decide +kernel
theorem dX10_copy_28 : decode cX10_copy 28 = .ok (.getfield 16, 3) := by decide +kernel
theorem dX10_copy_31 : decode cX10_copy 31 = .ok (.iload_n 1, 1) := by decide +kernel
theorem dX10_copy_32 : decode cX10_copy 32 = .ok (.iaload, 1) := by decide +kernel
theorem dX10_copy_33 : decode cX10_copy 33 = .ok (.ifCond .lt 12, 3) := by decide +kernel
theorem dX10_copy_36 : decode cX10_copy 36 = .ok (.aload_n 0, 1) := by decide +kernel
theorem dX10_copy_37 : decode cX10_copy 37 = .ok (.getfield 16, 3) := by decide +kernel
theorem dX10_copy_40 : decode cX10_copy 40 = .ok (.iload_n 3, 1) := by decide +kernel
theorem dX10_copy_41 : decode cX10_copy 41 = .ok (.iaload, 1) := by decide +kernel
theorem dX10_copy_42 : decode cX10_copy 42 = .ok (.ifCond .ge 9, 3) := by decide +kernel
theorem dX10_copy_45 : decode cX10_copy 45 = .ok (.aload_n 0, 1) := by decide +kernel
theorem dX10_copy_46 : decode cX10_copy 46 = .ok (.iconst 1, 1) := by decide +kernel
theorem dX10_copy_47 : decode cX10_copy 47 = .ok (.invokevirtual 131, 3) := by decide +kernel
theorem dX10_copy_50 : decode cX10_copy 50 = .ok (.ireturn, 1) := by decide +kernel
theorem dX10_copy_51 : decode cX10_copy 51 = .ok (.iload_n 2, 1) := by decide +kernel
theorem dX10_copy_52 : decode cX10_copy 52 = .ok (.ifCond .lt 43, 3) := by decide +kernel
theorem dX10_copy_55 : decode cX10_copy 55 = .ok (.iload 4, 2) := by decide +kernel
theorem dX10_copy_57 : decode cX10_copy 57 = .ok (.ifCond .lt 38, 3) := by decide +kernel
theorem dX10_copy_60 : decode cX10_copy 60 = .ok (.iload_n 2, 1) := by decide +kernel
theorem dX10_copy_61 : decode cX10_copy 61 = .ok (.i2l, 1) := by decide +kernel
theorem dX10_copy_62 : decode cX10_copy 62 = .ok (.iload 5, 2) := by decide +kernel
theorem dX10_copy_64 : decode cX10_copy 64 = .ok (.i2l, 1) := by decide +kernel
theorem dX10_copy_65 : decode cX10_copy 65 = .ok (.ladd, 1) := by decide +kernel
theorem dX10_copy_66 : decode cX10_copy 66 = .ok (.aload_n 0, 1) := by decide +kernel
theorem dX10_copy_67 : decode cX10_copy 67 = .ok (.getfield 16, 3) := by decide +kernel
theorem dX10_copy_70 : decode cX10_copy 70 = .ok (.iload_n 1, 1) := by decide +kernel
theorem dX10_copy_71 : decode cX10_copy 71 = .ok (.iaload, 1) := by decide +kernel
theorem dX10_copy_72 : decode cX10_copy 72 = .ok (.i2l, 1) := by decide +kernel
theorem dX10_copy_73 : decode cX10_copy 73 = .ok (.lcmp, 1) := by decide +kernel
theorem dX10_copy_74 : decode cX10_copy 74 = .ok (.ifCond .gt 21, 3) := by decide +kernel
theorem dX10_copy_77 : decode cX10_copy 77 = .ok (.iload 4, 2) := by decide +kernel
theorem dX10_copy_79 : decode cX10_copy 79 = .ok (.i2l, 1) := by decide +kernel
theorem dX10_copy_80 : decode cX10_copy 80 = .ok (.iload 5, 2) := by decide +kernel
theorem dX10_copy_82 : decode cX10_copy 82 = .ok (.i2l, 1) := by decide +kernel
theorem dX10_copy_83 : decode cX10_copy 83 = .ok (.ladd, 1) := by decide +kernel
theorem dX10_copy_84 : decode cX10_copy 84 = .ok (.aload_n 0, 1) := by decide +kernel
theorem dX10_copy_85 : decode cX10_copy 85 = .ok (.getfield 16, 3) := by decide +kernel
theorem dX10_copy_88 : decode cX10_copy 88 = .ok (.iload_n 3, 1) := by decide +kernel
theorem dX10_copy_89 : decode cX10_copy 89 = .ok (.iaload, 1) := by decide +kernel
theorem dX10_copy_90 : decode cX10_copy 90 = .ok (.i2l, 1) := by decide +kernel
theorem dX10_copy_91 : decode cX10_copy 91 = .ok (.lcmp, 1) := by decide +kernel
theorem dX10_copy_92 : decode cX10_copy 92 = .ok (.ifCond .le 9, 3) := by decide +kernel
theorem dX10_copy_95 : decode cX10_copy 95 = .ok (.aload_n 0, 1) := by decide +kernel
theorem dX10_copy_96 : decode cX10_copy 96 = .ok (.iconst 2, 1) := by decide +kernel
theorem dX10_copy_97 : decode cX10_copy 97 = .ok (.invokevirtual 131, 3) := by decide +kernel
theorem dX10_copy_100 : decode cX10_copy 100 = .ok (.ireturn, 1) := by decide +kernel
theorem dX10_copy_101 : decode cX10_copy 101 = .ok (.iconst 0, 1) := by decide +kernel
theorem dX10_copy_102 : decode cX10_copy 102 = .ok (.istore 6, 2) := by decide +kernel
theorem dX10_copy_104 : decode cX10_copy 104 = .ok (.iload 6, 2) := by decide +kernel
theorem dX10_copy_106 : decode cX10_copy 106 = .ok (.iload 5, 2) := by decide +kernel
theorem dX10_copy_108 : decode cX10_copy 108 = .ok (.if_icmp .ge 30, 3) := by decide +kernel
theorem dX10_copy_111 : decode cX10_copy 111 = .ok (.aload_n 0, 1) := by decide +kernel
theorem dX10_copy_112 : decode cX10_copy 112 = .ok (.getfield 22, 3) := by decide +kernel
theorem dX10_copy_115 : decode cX10_copy 115 = .ok (.iload 6, 2) := by decide +kernel
theorem dX10_copy_117 : decode cX10_copy 117 = .ok (.aload_n 0, 1) := by decide +kernel
theorem dX10_copy_118 : decode cX10_copy 118 = .ok (.getfield 19, 3) := by decide +kernel
theorem dX10_copy_121 : decode cX10_copy 121 = .ok (.bipush 10, 2) := by decide +kernel
theorem dX10_copy_123 : decode cX10_copy 123 = .ok (.iload_n 1, 1) := by decide +kernel
theorem dX10_copy_124 : decode cX10_copy 124 = .ok (.imul, 1) := by decide +kernel
theorem dX10_copy_125 : decode cX10_copy 125 = .ok (.iload_n 2, 1) := by decide +kernel
theorem dX10_copy_126 : decode cX10_copy 126 = .ok (.iadd, 1) := by decide +kernel
theorem dX10_copy_127 : decode cX10_copy 127 = .ok (.iload 6, 2) := by decide +kernel
theorem dX10_copy_129 : decode cX10_copy 129 = .ok (.iadd, 1) := by decide +kernel
theorem dX10_copy_130 : decode cX10_copy 130 = .ok (.iaload, 1) := by decide +kernel
theorem dX10_copy_131 : decode cX10_copy 131 = .ok (.iastore, 1) := by decide +kernel
theorem dX10_copy_132 : decode cX10_copy 132 = .ok (.iinc 6 1, 3) := by decide +kernel
theorem dX10_copy_135 : decode cX10_copy 135 = .ok (.goto (-31), 3) := by decide +kernel
theorem dX10_copy_138 : decode cX10_copy 138 = .ok (.iconst 0, 1) := by decide +kernel
theorem dX10_copy_139 : decode cX10_copy 139 = .ok (.istore 6, 2) := by decide +kernel
theorem dX10_copy_141 : decode cX10_copy 141 = .ok (.iload 6, 2) := by decide +kernel
theorem dX10_copy_143 : decode cX10_copy 143 = .ok (.iload 5, 2) := by decide +kernel
theorem dX10_copy_145 : decode cX10_copy 145 = .ok (.if_icmp .ge 31, 3) := by decide +kernel
theorem dX10_copy_148 : decode cX10_copy 148 = .ok (.aload_n 0, 1) := by decide +kernel
theorem dX10_copy_149 : decode cX10_copy 149 = .ok (.getfield 19, 3) := by decide +kernel
theorem dX10_copy_152 : decode cX10_copy 152 = .ok (.bipush 10, 2) := by decide +kernel
theorem dX10_copy_154 : decode cX10_copy 154 = .ok (.iload_n 3, 1) := by decide +kernel
theorem dX10_copy_155 : decode cX10_copy 155 = .ok (.imul, 1) := by decide +kernel
theorem dX10_copy_156 : decode cX10_copy 156 = .ok (.iload 4, 2) := by decide +kernel
theorem dX10_copy_158 : decode cX10_copy 158 = .ok (.iadd, 1) := by decide +kernel
theorem dX10_copy_159 : decode cX10_copy 159 = .ok (.iload 6, 2) := by decide +kernel
theorem dX10_copy_161 : decode cX10_copy 161 = .ok (.iadd, 1) := by decide +kernel
theorem dX10_copy_162 : decode cX10_copy 162 = .ok (.aload_n 0, 1) := by decide +kernel
theorem dX10_copy_163 : decode cX10_copy 163 = .ok (.getfield 22, 3) := by decide +kernel
theorem dX10_copy_166 : decode cX10_copy 166 = .ok (.iload 6, 2) := by decide +kernel
theorem dX10_copy_168 : decode cX10_copy 168 = .ok (.iaload, 1) := by decide +kernel
theorem dX10_copy_169 : decode cX10_copy 169 = .ok (.iastore, 1) := by decide +kernel
theorem dX10_copy_170 : decode cX10_copy 170 = .ok (.iinc 6 1, 3) := by decide +kernel
theorem dX10_copy_173 : decode cX10_copy 173 = .ok (.goto (-32), 3) := by decide +kernel
theorem dX10_copy_176 : decode cX10_copy 176 = .ok (.iconst 1, 1) := by decide +kernel
theorem dX10_copy_177 : decode cX10_copy 177 = .ok (.ireturn, 1) := by decide +kernel
set_option maxRecDepth 20000 in
theorem ggX10_lettersOn_X10_isLetter : GoodIn wsX10_lettersOn wsX10_isLetter := goodIn_r _ [6, 7, 8, 5, 9] (by decide +kernel) (by decide +kernel)
set_option maxRecDepth 20000 in
theorem gX10_lettersOn_X10_isLetter : GoodIn wsX10_lettersOn (va_wsS RX10 124 yX10_isLetter wsX10_isLetter) := goodIn_app (goodIn_of _ (by decide +kernel)) ggX10_lettersOn_X10_isLetter
theorem dX10_lettersOn_0 : decode cX10_lettersOn 0 = .ok (.iconst 0, 1) := by decide +kernel
theorem dX10_lettersOn_1 : decode cX10_lettersOn 1 = .ok (.istore_n 2, 1) := by decide +kernel
theorem dX10_lettersOn_2 : decode cX10_lettersOn 2 = .ok (.iconst 0, 1) := by decide +kernel
theorem dX10_lettersOn_3 : decode cX10_lettersOn 3 = .ok (.istore_n 3, 1) := by decide +kernel
theorem dX10_lettersOn_4 : decode cX10_lettersOn 4 = .ok (.iload_n 3, 1) := by decide +kernel
theorem dX10_lettersOn_5 : decode cX10_lettersOn 5 = .ok (.aload_n 0, 1) := by decide +kernel
theorem dX10_lettersOn_6 : decode cX10_lettersOn 6 = .ok (.getfield 16, 3) := by decide +kernel
theorem dX10_lettersOn_9 : decode cX10_lettersOn 9 = .ok (.iload_n 1, 1) := by decide +kernel
theorem dX10_lettersOn_10 : decode cX10_lettersOn 10 = .ok (.iaload, 1) := by decide +kernel
theorem dX10_lettersOn_11 : decode cX10_lettersOn 11 = .ok (.if_icmp .ge 34, 3) := by decide +kernel
theorem dX10_lettersOn_14 : decode cX10_lettersOn 14 = .ok (.iload_n 2, 1) := by decide +kernel
theorem dX10_lettersOn_15 : decode cX10_lettersOn 15 = .ok (.aload_n 0, 1) := by decide +kernel
theorem dX10_lettersOn_16 : decode cX10_lettersOn 16 = .ok (.getfield 19, 3) := by decide +kernel
theorem dX10_lettersOn_19 : decode cX10_lettersOn 19 = .ok (.bipush 10, 2) := by decide +kernel
theorem dX10_lettersOn_21 : decode cX10_lettersOn 21 = .ok (.iload_n 1, 1) := by decide +kernel
theorem dX10_lettersOn_22 : decode cX10_lettersOn 22 = .ok (.imul, 1) := by decide +kernel
theorem dX10_lettersOn_23 : decode cX10_lettersOn 23 = .ok (.iload_n 3, 1) := by decide +kernel
theorem dX10_lettersOn_24 : decode cX10_lettersOn 24 = .ok (.iadd, 1) := by decide +kernel
theorem dX10_lettersOn_25 : decode cX10_lettersOn 25 = .ok (.iaload, 1) := by decide +kernel
theorem dX10_lettersOn_26 : decode cX10_lettersOn 26 = .ok (.invokestatic 124, 3) := by decide +kernel
theorem dX10_lettersOn_29 : decode cX10_lettersOn 29 = .ok (.ifCond .eq 7, 3) := by decide +kernel
theorem dX10_lettersOn_32 : decode cX10_lettersOn 32 = .ok (.iconst 1, 1) := by decide +kernel
theorem dX10_lettersOn_33 : decode cX10_lettersOn 33 = .ok (.goto 4, 3) := by decide +kernel
theorem dX10_lettersOn_36 : decode cX10_lettersOn 36 = .ok (.iconst 0, 1) := by decide +kernel
theorem dX10_lettersOn_37 : decode cX10_lettersOn 37 = .ok (.iadd, 1) := by decide +kernel
theorem dX10_lettersOn_38 : decode cX10_lettersOn 38 = .ok (.istore_n 2, 1) := by decide +kernel
theorem dX10_lettersOn_39 : decode cX10_lettersOn 39 = .ok (.iinc 3 1, 3) := by decide +kernel
theorem dX10_lettersOn_42 : decode cX10_lettersOn 42 = .ok (.goto (-38), 3) := by decide +kernel
theorem dX10_lettersOn_45 : decode cX10_lettersOn 45 = .ok (.iload_n 2, 1) := by decide +kernel
theorem dX10_lettersOn_46 : decode cX10_lettersOn 46 = .ok (.ireturn, 1) := by decide +kernel
set_option maxRecDepth 20000 in
theorem ggX10_put_X10_lettersOn : GoodIn wsX10_put wsX10_lettersOn := goodIn_r _ [15, 1, 2, 16, 17, 14, 18, 19, 20, 21, 28, 29, 30, 31, 32, 33, 34, 35, 36, 37, 38, 39, 40, 41, 42, 43, 44, 45, 46, 47, 48, 49, 50, 51, 52, 53, 54, 55, 56, 57, 58, 59, 60, 61, 62, 63, 64, 65, 66, 67, 68, 69, 70, 71] (by decide +kernel) (by decide +kernel)
set_option maxRecDepth 20000 in
theorem gX10_put_X10_lettersOn : GoodIn wsX10_put (wsV RX10 138 RX10 yX10_lettersOn wsX10_lettersOn) := goodIn_app (goodIn_of _ (by decide +kernel)) ggX10_put_X10_lettersOn
set_option maxRecDepth 20000 in
theorem ggX10_put_X10_in : GoodIn wsX10_put wsX10_in := goodIn_r _ [21] (by decide +kernel) (by decide +kernel)
set_option maxRecDepth 20000 in
theorem gX10_put_X10_in : GoodIn wsX10_put (va_wsS RX10 120 yX10_in wsX10_in) := goodIn_app (goodIn_of _ (by decide +kernel)) ggX10_put_X10_in
set_option maxRecDepth 20000 in
theorem ggX10_put_X10_meets : GoodIn wsX10_put wsX10_meets := goodIn_r _ [25, 26, 27, 28, 29, 30, 31, 32, 33, 34, 35, 36, 37, 38, 39, 40, 41, 42, 43, 44, 45, 46, 47, 48, 49, 50, 51, 52, 53, 54, 55, 56, 57, 58, 59, 60, 61, 62, 63, 64, 65, 66, 67, 68, 69, 70, 71] (by decide +kernel) (by decide +kernel)
set_option maxRecDepth 20000 in
theorem gX10_put_X10_meets : GoodIn wsX10_put (wsV RX10 131 RX10 yX10_meets wsX10_meets) := goodIn_app (goodIn_of _ (by decide +kernel)) ggX10_put_X10_meets
set_option maxRecDepth 20000 in
theorem ggX10_put_X10_isLetter : GoodIn wsX10_put wsX10_isLetter := goodIn_r _ [18, 19, 20, 14, 21] (by decide +kernel) (by decide +kernel)
set_option maxRecDepth 20000 in
theorem gX10_put_X10_isLetter : GoodIn wsX10_put (va_wsS RX10 124 yX10_isLetter wsX10_isLetter) := goodIn_app (goodIn_of _ (by decide +kernel)) ggX10_put_X10_isLetter
theorem dX10_put_0 : decode cX10_put 0 = .ok (.aload_n 0, 1) := by decide +kernel
theorem dX10_put_1 : decode cX10_put 1 = .ok (.iload_n 1, 1) := by decide +kernel
theorem dX10_put_2 : decode cX10_put 2 = .ok (.invokevirtual 138, 3) := by decide +kernel
theorem dX10_put_5 : decode cX10_put 5 = .ok (.iconst 1, 1) := by decide +kernel
theorem dX10_put_6 : decode cX10_put 6 = .ok (.bipush 8, 2) := by decide +kernel
theorem dX10_put_8 : decode cX10_put 8 = .ok (.invokestatic 120, 3) := by decide +kernel
theorem dX10_put_11 : decode cX10_put 11 = .ok (.ifCond .ne 9, 3) := by decide +kernel
theorem dX10_put_14 : decode cX10_put 14 = .ok (.aload_n 0, 1) := by decide +kernel
theorem dX10_put_15 : decode cX10_put 15 = .ok (.iconst 5, 1) := by decide +kernel
theorem dX10_put_16 : decode cX10_put 16 = .ok (.invokevirtual 131, 3) := by decide +kernel
theorem dX10_put_19 : decode cX10_put 19 = .ok (.ireturn, 1) := by decide +kernel
theorem dX10_put_20 : decode cX10_put 20 = .ok (.iconst 0, 1) := by decide +kernel
theorem dX10_put_21 : decode cX10_put 21 = .ok (.istore 7, 2) := by decide +kernel
theorem dX10_put_23 : decode cX10_put 23 = .ok (.iconst 0, 1) := by decide +kernel
theorem dX10_put_24 : decode cX10_put 24 = .ok (.istore 8, 2) := by decide +kernel
theorem dX10_put_26 : decode cX10_put 26 = .ok (.iload 8, 2) := by decide +kernel
theorem dX10_put_28 : decode cX10_put 28 = .ok (.aload_n 0, 1) := by decide +kernel
theorem dX10_put_29 : decode cX10_put 29 = .ok (.getfield 16, 3) := by decide +kernel
theorem dX10_put_32 : decode cX10_put 32 = .ok (.iload_n 1, 1) := by decide +kernel
theorem dX10_put_33 : decode cX10_put 33 = .ok (.iaload, 1) := by decide +kernel
theorem dX10_put_34 : decode cX10_put 34 = .ok (.if_icmp .ge 54, 3) := by decide +kernel
theorem dX10_put_37 : decode cX10_put 37 = .ok (.aload_n 0, 1) := by decide +kernel
theorem dX10_put_38 : decode cX10_put 38 = .ok (.getfield 19, 3) := by decide +kernel
theorem dX10_put_41 : decode cX10_put 41 = .ok (.bipush 10, 2) := by decide +kernel
theorem dX10_put_43 : decode cX10_put 43 = .ok (.iload_n 1, 1) := by decide +kernel
theorem dX10_put_44 : decode cX10_put 44 = .ok (.imul, 1) := by decide +kernel
theorem dX10_put_45 : decode cX10_put 45 = .ok (.iload 8, 2) := by decide +kernel
theorem dX10_put_47 : decode cX10_put 47 = .ok (.iadd, 1) := by decide +kernel
theorem dX10_put_48 : decode cX10_put 48 = .ok (.iaload, 1) := by decide +kernel
theorem dX10_put_49 : decode cX10_put 49 = .ok (.istore 9, 2) := by decide +kernel
theorem dX10_put_51 : decode cX10_put 51 = .ok (.iload 9, 2) := by decide +kernel
theorem dX10_put_53 : decode cX10_put 53 = .ok (.invokestatic 124, 3) := by decide +kernel
theorem dX10_put_56 : decode cX10_put 56 = .ok (.ifCond .eq 26, 3) := by decide +kernel
theorem dX10_put_59 : decode cX10_put 59 = .ok (.aload_n 0, 1) := by decide +kernel
theorem dX10_put_60 : decode cX10_put 60 = .ok (.getfield 31, 3) := by decide +kernel
theorem dX10_put_63 : decode cX10_put 63 = .ok (.bipush 8, 2) := by decide +kernel
theorem dX10_put_65 : decode cX10_put 65 = .ok (.aload_n 0, 1) := by decide +kernel
theorem dX10_put_66 : decode cX10_put 66 = .ok (.getfield 141, 3) := by decide +kernel
theorem dX10_put_69 : decode cX10_put 69 = .ok (.imul, 1) := by decide +kernel
theorem dX10_put_70 : decode cX10_put 70 = .ok (.iload 7, 2) := by decide +kernel
theorem dX10_put_72 : decode cX10_put 72 = .ok (.iadd, 1) := by decide +kernel
theorem dX10_put_73 : decode cX10_put 73 = .ok (.iload 9, 2) := by decide +kernel
theorem dX10_put_75 : decode cX10_put 75 = .ok (.bipush 97, 2) := by decide +kernel
theorem dX10_put_77 : decode cX10_put 77 = .ok (.isub, 1) := by decide +kernel
theorem dX10_put_78 : decode cX10_put 78 = .ok (.iastore, 1) := by decide +kernel
theorem dX10_put_79 : decode cX10_put 79 = .ok (.iinc 7 1, 3) := by decide +kernel
theorem dX10_put_82 : decode cX10_put 82 = .ok (.iinc 8 1, 3) := by decide +kernel
theorem dX10_put_85 : decode cX10_put 85 = .ok (.goto (-59), 3) := by decide +kernel
theorem dX10_put_88 : decode cX10_put 88 = .ok (.aload_n 0, 1) := by decide +kernel
theorem dX10_put_89 : decode cX10_put 89 = .ok (.getfield 25, 3) := by decide +kernel
theorem dX10_put_92 : decode cX10_put 92 = .ok (.aload_n 0, 1) := by decide +kernel
theorem dX10_put_93 : decode cX10_put 93 = .ok (.getfield 141, 3) := by decide +kernel
theorem dX10_put_96 : decode cX10_put 96 = .ok (.iload_n 2, 1) := by decide +kernel
theorem dX10_put_97 : decode cX10_put 97 = .ok (.iastore, 1) := by decide +kernel
theorem dX10_put_98 : decode cX10_put 98 = .ok (.aload_n 0, 1) := by decide +kernel
theorem dX10_put_99 : decode cX10_put 99 = .ok (.getfield 28, 3) := by decide +kernel
theorem dX10_put_102 : decode cX10_put 102 = .ok (.aload_n 0, 1) := by decide +kernel
theorem dX10_put_103 : decode cX10_put 103 = .ok (.getfield 141, 3) := by decide +kernel
theorem dX10_put_106 : decode cX10_put 106 = .ok (.iload 7, 2) := by decide +kernel
theorem dX10_put_108 : decode cX10_put 108 = .ok (.iastore, 1) := by decide +kernel
theorem dX10_put_109 : decode cX10_put 109 = .ok (.aload_n 0, 1) := by decide +kernel
theorem dX10_put_110 : decode cX10_put 110 = .ok (.getfield 38, 3) := by decide +kernel
theorem dX10_put_113 : decode cX10_put 113 = .ok (.aload_n 0, 1) := by decide +kernel
theorem dX10_put_114 : decode cX10_put 114 = .ok (.getfield 141, 3) := by decide +kernel
theorem dX10_put_117 : decode cX10_put 117 = .ok (.iload_n 3, 1) := by decide +kernel
theorem dX10_put_118 : decode cX10_put 118 = .ok (.iastore, 1) := by decide +kernel
theorem dX10_put_119 : decode cX10_put 119 = .ok (.aload_n 0, 1) := by decide +kernel
theorem dX10_put_120 : decode cX10_put 120 = .ok (.getfield 41, 3) := by decide +kernel
theorem dX10_put_123 : decode cX10_put 123 = .ok (.aload_n 0, 1) := by decide +kernel
theorem dX10_put_124 : decode cX10_put 124 = .ok (.getfield 141, 3) := by decide +kernel
theorem dX10_put_127 : decode cX10_put 127 = .ok (.iload 4, 2) := by decide +kernel
theorem dX10_put_129 : decode cX10_put 129 = .ok (.iastore, 1) := by decide +kernel
theorem dX10_put_130 : decode cX10_put 130 = .ok (.aload_n 0, 1) := by decide +kernel
theorem dX10_put_131 : decode cX10_put 131 = .ok (.getfield 44, 3) := by decide +kernel
theorem dX10_put_134 : decode cX10_put 134 = .ok (.aload_n 0, 1) := by decide +kernel
theorem dX10_put_135 : decode cX10_put 135 = .ok (.getfield 141, 3) := by decide +kernel
theorem dX10_put_138 : decode cX10_put 138 = .ok (.iload 5, 2) := by decide +kernel
theorem dX10_put_140 : decode cX10_put 140 = .ok (.iastore, 1) := by decide +kernel
theorem dX10_put_141 : decode cX10_put 141 = .ok (.aload_n 0, 1) := by decide +kernel
theorem dX10_put_142 : decode cX10_put 142 = .ok (.getfield 47, 3) := by decide +kernel
theorem dX10_put_145 : decode cX10_put 145 = .ok (.aload_n 0, 1) := by decide +kernel
theorem dX10_put_146 : decode cX10_put 146 = .ok (.getfield 141, 3) := by decide +kernel
theorem dX10_put_149 : decode cX10_put 149 = .ok (.iload 6, 2) := by decide +kernel
theorem dX10_put_151 : decode cX10_put 151 = .ok (.iastore, 1) := by decide +kernel
theorem dX10_put_152 : decode cX10_put 152 = .ok (.aload_n 0, 1) := by decide +kernel
theorem dX10_put_153 : decode cX10_put 153 = .ok (.dup, 1) := by decide +kernel
theorem dX10_put_154 : decode cX10_put 154 = .ok (.getfield 141, 3) := by decide +kernel
theorem dX10_put_157 : decode cX10_put 157 = .ok (.iconst 1, 1) := by decide +kernel
theorem dX10_put_158 : decode cX10_put 158 = .ok (.iadd, 1) := by decide +kernel
theorem dX10_put_159 : decode cX10_put 159 = .ok (.putfield 141, 3) := by decide +kernel
theorem dX10_put_162 : decode cX10_put 162 = .ok (.aload_n 0, 1) := by decide +kernel
theorem dX10_put_163 : decode cX10_put 163 = .ok (.getfield 141, 3) := by decide +kernel
theorem dX10_put_166 : decode cX10_put 166 = .ok (.iconst 1, 1) := by decide +kernel
theorem dX10_put_167 : decode cX10_put 167 = .ok (.isub, 1) := by decide +kernel
theorem dX10_put_168 : decode cX10_put 168 = .ok (.ireturn, 1) := by decide +kernel
set_option maxRecDepth 20000 in
theorem ggX10_word_X10_isSheet : GoodIn wsX10_word wsX10_isSheet := goodIn_r _ [6, 7, 8, 5, 9] (by decide +kernel) (by decide +kernel)
set_option maxRecDepth 20000 in
theorem gX10_word_X10_isSheet : GoodIn wsX10_word (va_wsS RX10 128 yX10_isSheet wsX10_isSheet) := goodIn_app (goodIn_of _ (by decide +kernel)) ggX10_word_X10_isSheet
set_option maxRecDepth 20000 in
theorem ggX10_word_X10_meets : GoodIn wsX10_word wsX10_meets := goodIn_r _ [13, 14, 15, 35, 36, 37, 38, 39, 40, 41, 42, 43, 44, 45, 46, 47, 48, 49, 50, 51, 52, 53, 54, 55, 56, 57, 58, 59, 60, 61, 62, 63, 64, 65, 66, 67, 68, 69, 70, 71, 72, 73, 74, 75, 76, 77, 78] (by decide +kernel) (by decide +kernel)
set_option maxRecDepth 20000 in
theorem gX10_word_X10_meets : GoodIn wsX10_word (wsV RX10 131 RX10 yX10_meets wsX10_meets) := goodIn_app (goodIn_of _ (by decide +kernel)) ggX10_word_X10_meets
set_option maxRecDepth 20000 in
theorem ggX10_word_X10_put : GoodIn wsX10_word wsX10_put := goodIn_r _ [19, 2, 20, 21, 1, 22, 23, 24, 25, 26, 27, 28, 29, 30, 5, 31, 32, 33, 34, 7, 8, 9, 10, 11, 12, 13, 14, 15, 35, 36, 37, 38, 39, 40, 41, 42, 43, 44, 45, 46, 47, 48, 49, 50, 51, 52, 53, 54, 55, 56, 57, 58, 59, 60, 61, 62, 63, 64, 65, 66, 67, 68, 69, 70, 71, 72, 73, 74, 75, 76, 77, 78] (by decide +kernel) (by decide +kernel)
set_option maxRecDepth 20000 in
theorem gX10_word_X10_put : GoodIn wsX10_word (wsV RX10 144 RX10 yX10_put wsX10_put) := goodIn_app (goodIn_of _ (by decide +kernel)) ggX10_word_X10_put
theorem dX10_word_0 : decode cX10_word 0 = .ok (.iload_n 1, 1) := by decide +kernel
theorem dX10_word_1 : decode cX10_word 1 = .ok (.invokestatic 128, 3) := by decide +kernel
theorem dX10_word_4 : decode cX10_word 4 = .ok (.ifCond .ne 5, 3) := by decide +kernel
theorem dX10_word_7 : decode cX10_word 7 = .ok (.iconst (-1), 1) := by decide +kernel
theorem dX10_word_8 : decode cX10_word 8 = .ok (.ireturn, 1) := by decide +kernel
theorem dX10_word_9 : decode cX10_word 9 = .ok (.aload_n 0, 1) := by decide +kernel
theorem dX10_word_10 : decode cX10_word 10 = .ok (.getfield 141, 3) := by decide +kernel
theorem dX10_word_13 : decode cX10_word 13 = .ok (.bipush 16, 2) := by decide +kernel
theorem dX10_word_15 : decode cX10_word 15 = .ok (.if_icmp .ne 6, 3) := by decide +kernel
theorem dX10_word_18 : decode cX10_word 18 = .ok (.bipush (-2), 2) := by decide +kernel
theorem dX10_word_20 : decode cX10_word 20 = .ok (.ireturn, 1) := by decide +kernel
theorem dX10_word_21 : decode cX10_word 21 = .ok (.aload_n 0, 1) := by decide +kernel
theorem dX10_word_22 : decode cX10_word 22 = .ok (.getfield 16, 3) := by decide +kernel
theorem dX10_word_25 : decode cX10_word 25 = .ok (.iload_n 1, 1) := by decide +kernel
theorem dX10_word_26 : decode cX10_word 26 = .ok (.iaload, 1) := by decide +kernel
theorem dX10_word_27 : decode cX10_word 27 = .ok (.ifCond .ge 11, 3) := by decide +kernel
theorem dX10_word_30 : decode cX10_word 30 = .ok (.aload_n 0, 1) := by decide +kernel
theorem dX10_word_31 : decode cX10_word 31 = .ok (.iconst 1, 1) := by decide +kernel
theorem dX10_word_32 : decode cX10_word 32 = .ok (.invokevirtual 131, 3) := by decide +kernel
theorem dX10_word_35 : decode cX10_word 35 = .ok (.goto 17, 3) := by decide +kernel
theorem dX10_word_38 : decode cX10_word 38 = .ok (.aload_n 0, 1) := by decide +kernel
theorem dX10_word_39 : decode cX10_word 39 = .ok (.iload_n 1, 1) := by decide +kernel
theorem dX10_word_40 : decode cX10_word 40 = .ok (.iconst 0, 1) := by decide +kernel
theorem dX10_word_41 : decode cX10_word 41 = .ok (.bipush (-9), 2) := by decide +kernel
theorem dX10_word_43 : decode cX10_word 43 = .ok (.bipush (-9), 2) := by decide +kernel
theorem dX10_word_45 : decode cX10_word 45 = .ok (.bipush (-9), 2) := by decide +kernel
theorem dX10_word_47 : decode cX10_word 47 = .ok (.bipush (-9), 2) := by decide +kernel
theorem dX10_word_49 : decode cX10_word 49 = .ok (.invokevirtual 144, 3) := by decide +kernel
theorem dX10_word_52 : decode cX10_word 52 = .ok (.ireturn, 1) := by decide +kernel
set_option maxRecDepth 20000 in
theorem ggX10_isWord_X10_in : GoodIn wsX10_isWord wsX10_in := goodIn_r _ [5] (by decide +kernel) (by decide +kernel)
set_option maxRecDepth 20000 in
theorem gX10_isWord_X10_in : GoodIn wsX10_isWord (va_wsS RX10 120 yX10_in wsX10_in) := goodIn_app (goodIn_of _ (by decide +kernel)) ggX10_isWord_X10_in
theorem dX10_isWord_0 : decode cX10_isWord 0 = .ok (.iload_n 1, 1) := by decide +kernel
theorem dX10_isWord_1 : decode cX10_isWord 1 = .ok (.iconst 0, 1) := by decide +kernel
theorem dX10_isWord_2 : decode cX10_isWord 2 = .ok (.aload_n 0, 1) := by decide +kernel
theorem dX10_isWord_3 : decode cX10_isWord 3 = .ok (.getfield 141, 3) := by decide +kernel
theorem dX10_isWord_6 : decode cX10_isWord 6 = .ok (.iconst 1, 1) := by decide +kernel
theorem dX10_isWord_7 : decode cX10_isWord 7 = .ok (.isub, 1) := by decide +kernel
theorem dX10_isWord_8 : decode cX10_isWord 8 = .ok (.invokestatic 120, 3) := by decide +kernel
theorem dX10_isWord_11 : decode cX10_isWord 11 = .ok (.ireturn, 1) := by decide +kernel
theorem dX10_isFirm_0 : decode cX10_isFirm 0 = .ok (.aload_n 0, 1) := by decide +kernel
theorem dX10_isFirm_1 : decode cX10_isFirm 1 = .ok (.getfield 25, 3) := by decide +kernel
theorem dX10_isFirm_4 : decode cX10_isFirm 4 = .ok (.iload_n 1, 1) := by decide +kernel
theorem dX10_isFirm_5 : decode cX10_isFirm 5 = .ok (.iaload, 1) := by decide +kernel
theorem dX10_isFirm_6 : decode cX10_isFirm 6 = .ok (.iconst 1, 1) := by decide +kernel
theorem dX10_isFirm_7 : decode cX10_isFirm 7 = .ok (.if_icmp .eq 13, 3) := by decide +kernel
theorem dX10_isFirm_10 : decode cX10_isFirm 10 = .ok (.aload_n 0, 1) := by decide +kernel
theorem dX10_isFirm_11 : decode cX10_isFirm 11 = .ok (.getfield 25, 3) := by decide +kernel
theorem dX10_isFirm_14 : decode cX10_isFirm 14 = .ok (.iload_n 1, 1) := by decide +kernel
theorem dX10_isFirm_15 : decode cX10_isFirm 15 = .ok (.iaload, 1) := by decide +kernel
theorem dX10_isFirm_16 : decode cX10_isFirm 16 = .ok (.iconst 2, 1) := by decide +kernel
theorem dX10_isFirm_17 : decode cX10_isFirm 17 = .ok (.if_icmp .ne 7, 3) := by decide +kernel
theorem dX10_isFirm_20 : decode cX10_isFirm 20 = .ok (.iconst 1, 1) := by decide +kernel
theorem dX10_isFirm_21 : decode cX10_isFirm 21 = .ok (.goto 4, 3) := by decide +kernel
theorem dX10_isFirm_24 : decode cX10_isFirm 24 = .ok (.iconst 0, 1) := by decide +kernel
theorem dX10_isFirm_25 : decode cX10_isFirm 25 = .ok (.ireturn, 1) := by decide +kernel
set_option maxRecDepth 20000 in
theorem ggX10_isYear_X10_in : GoodIn wsX10_isYear wsX10_in := goodIn_r _ [4] (by decide +kernel) (by decide +kernel)
set_option maxRecDepth 20000 in
theorem gX10_isYear_X10_in : GoodIn wsX10_isYear (va_wsS RX10 120 yX10_in wsX10_in) := goodIn_app (goodIn_of _ (by decide +kernel)) ggX10_isYear_X10_in
theorem dX10_isYear_0 : decode cX10_isYear 0 = .ok (.iload_n 0, 1) := by decide +kernel
theorem dX10_isYear_1 : decode cX10_isYear 1 = .ok (.sipush 1700, 3) := by decide +kernel
theorem dX10_isYear_4 : decode cX10_isYear 4 = .ok (.sipush 2100, 3) := by decide +kernel
theorem dX10_isYear_7 : decode cX10_isYear 7 = .ok (.invokestatic 120, 3) := by decide +kernel
theorem dX10_isYear_10 : decode cX10_isYear 10 = .ok (.ireturn, 1) := by decide +kernel
set_option maxRecDepth 20000 in
theorem ggX10_isHouse_X10_in : GoodIn wsX10_isHouse wsX10_in := goodIn_r _ [4] (by decide +kernel) (by decide +kernel)
set_option maxRecDepth 20000 in
theorem gX10_isHouse_X10_in : GoodIn wsX10_isHouse (va_wsS RX10 120 yX10_in wsX10_in) := goodIn_app (goodIn_of _ (by decide +kernel)) ggX10_isHouse_X10_in
theorem dX10_isHouse_0 : decode cX10_isHouse 0 = .ok (.iload_n 0, 1) := by decide +kernel
theorem dX10_isHouse_1 : decode cX10_isHouse 1 = .ok (.iconst 1, 1) := by decide +kernel
theorem dX10_isHouse_2 : decode cX10_isHouse 2 = .ok (.sipush 200, 3) := by decide +kernel
theorem dX10_isHouse_5 : decode cX10_isHouse 5 = .ok (.invokestatic 120, 3) := by decide +kernel
theorem dX10_isHouse_8 : decode cX10_isHouse 8 = .ok (.ireturn, 1) := by decide +kernel
set_option maxRecDepth 20000 in
theorem ggX10_firm_X10_isSheet : GoodIn wsX10_firm wsX10_isSheet := goodIn_r _ [7, 8, 9, 6, 10] (by decide +kernel) (by decide +kernel)
set_option maxRecDepth 20000 in
theorem gX10_firm_X10_isSheet : GoodIn wsX10_firm (va_wsS RX10 128 yX10_isSheet wsX10_isSheet) := goodIn_app (goodIn_of _ (by decide +kernel)) ggX10_firm_X10_isSheet
set_option maxRecDepth 20000 in
theorem ggX10_firm_X10_isHouse : GoodIn wsX10_firm wsX10_isHouse := goodIn_r _ [13, 8, 9, 6, 10] (by decide +kernel) (by decide +kernel)
set_option maxRecDepth 20000 in
theorem gX10_firm_X10_isHouse : GoodIn wsX10_firm (va_wsS RX10 148 yX10_isHouse wsX10_isHouse) := goodIn_app (goodIn_of _ (by decide +kernel)) ggX10_firm_X10_isHouse
set_option maxRecDepth 20000 in
theorem ggX10_firm_X10_isYear : GoodIn wsX10_firm wsX10_isYear := goodIn_r _ [16, 8, 9, 6, 10] (by decide +kernel) (by decide +kernel)
set_option maxRecDepth 20000 in
theorem gX10_firm_X10_isYear : GoodIn wsX10_firm (va_wsS RX10 151 yX10_isYear wsX10_isYear) := goodIn_app (goodIn_of _ (by decide +kernel)) ggX10_firm_X10_isYear
set_option maxRecDepth 20000 in
theorem ggX10_firm_X10_in : GoodIn wsX10_firm wsX10_in := goodIn_r _ [10] (by decide +kernel) (by decide +kernel)
set_option maxRecDepth 20000 in
theorem gX10_firm_X10_in : GoodIn wsX10_firm (va_wsS RX10 120 yX10_in wsX10_in) := goodIn_app (goodIn_of _ (by decide +kernel)) ggX10_firm_X10_in
set_option maxRecDepth 20000 in
theorem ggX10_firm_X10_isWord : GoodIn wsX10_firm wsX10_isWord := goodIn_r _ [20, 1, 8, 9, 6, 10, 50, 51, 52, 53, 54, 55, 56, 57, 58, 59, 60, 61, 62, 63, 64, 65, 66, 67, 68, 69, 70, 71, 72, 73, 74, 75, 76, 77, 78, 79, 80, 81, 82, 83, 84, 85, 86, 87, 88, 89, 90, 91, 92, 93] (by decide +kernel) (by decide +kernel)
set_option maxRecDepth 20000 in
theorem gX10_firm_X10_isWord : GoodIn wsX10_firm (wsV RX10 154 RX10 yX10_isWord wsX10_isWord) := goodIn_app (goodIn_of _ (by decide +kernel)) ggX10_firm_X10_isWord
set_option maxRecDepth 20000 in
theorem ggX10_firm_X10_meets : GoodIn wsX10_firm wsX10_meets := goodIn_r _ [24, 25, 26, 50, 51, 52, 53, 54, 55, 56, 57, 58, 59, 60, 61, 62, 63, 64, 65, 66, 67, 68, 69, 70, 71, 72, 73, 74, 75, 76, 77, 78, 79, 80, 81, 82, 83, 84, 85, 86, 87, 88, 89, 90, 91, 92, 93] (by decide +kernel) (by decide +kernel)
set_option maxRecDepth 20000 in
theorem gX10_firm_X10_meets : GoodIn wsX10_firm (wsV RX10 131 RX10 yX10_meets wsX10_meets) := goodIn_app (goodIn_of _ (by decide +kernel)) ggX10_firm_X10_meets
set_option maxRecDepth 20000 in
theorem ggX10_firm_X10_isFirm : GoodIn wsX10_firm wsX10_isFirm := goodIn_r _ [30, 31, 50, 51, 52, 53, 54, 55, 56, 57, 58, 59, 60, 61, 62, 63, 64, 65, 66, 67, 68, 69, 70, 71, 72, 73, 74, 75, 76, 77, 78, 79, 80, 81, 82, 83, 84, 85, 86, 87, 88, 89, 90, 91, 92, 93] (by decide +kernel) (by decide +kernel)
set_option maxRecDepth 20000 in
theorem gX10_firm_X10_isFirm : GoodIn wsX10_firm (wsV RX10 157 RX10 yX10_isFirm wsX10_isFirm) := goodIn_app (goodIn_of _ (by decide +kernel)) ggX10_firm_X10_isFirm
set_option maxRecDepth 20000 in
theorem ggX10_firm_X10_put : GoodIn wsX10_firm wsX10_put := goodIn_r _ [35, 2, 36, 37, 1, 31, 38, 39, 40, 41, 42, 43, 44, 45, 6, 46, 47, 48, 49, 8, 9, 10, 21, 22, 23, 24, 25, 26, 50, 51, 52, 53, 54, 55, 56, 57, 58, 59, 60, 61, 62, 63, 64, 65, 66, 67, 68, 69, 70, 71, 72, 73, 74, 75, 76, 77, 78, 79, 80, 81, 82, 83, 84, 85, 86, 87, 88, 89, 90, 91, 92, 93] (by decide +kernel) (by decide +kernel)
set_option maxRecDepth 20000 in
theorem gX10_firm_X10_put : GoodIn wsX10_firm (wsV RX10 144 RX10 yX10_put wsX10_put) := goodIn_app (goodIn_of _ (by decide +kernel)) ggX10_firm_X10_put
theorem dX10_firm_0 : decode cX10_firm 0 = .ok (.iload_n 1, 1) := by decide +kernel
theorem dX10_firm_1 : decode cX10_firm 1 = .ok (.invokestatic 128, 3) := by decide +kernel
theorem dX10_firm_4 : decode cX10_firm 4 = .ok (.ifCond .eq 45, 3) := by decide +kernel
theorem dX10_firm_7 : decode cX10_firm 7 = .ok (.iload_n 2, 1) := by decide +kernel
theorem dX10_firm_8 : decode cX10_firm 8 = .ok (.invokestatic 148, 3) := by decide +kernel
theorem dX10_firm_11 : decode cX10_firm 11 = .ok (.ifCond .eq 38, 3) := by decide +kernel
theorem dX10_firm_14 : decode cX10_firm 14 = .ok (.iload_n 3, 1) := by decide +kernel
theorem dX10_firm_15 : decode cX10_firm 15 = .ok (.invokestatic 151, 3) := by decide +kernel
theorem dX10_firm_18 : decode cX10_firm 18 = .ok (.ifCond .eq 31, 3) := by decide +kernel
theorem dX10_firm_21 : decode cX10_firm 21 = .ok (.iload 4, 2) := by decide +kernel
theorem dX10_firm_23 : decode cX10_firm 23 = .ok (.iload_n 3, 1) := by decide +kernel
theorem dX10_firm_24 : decode cX10_firm 24 = .ok (.sipush 2100, 3) := by decide +kernel
theorem dX10_firm_27 : decode cX10_firm 27 = .ok (.invokestatic 120, 3) := by decide +kernel
theorem dX10_firm_30 : decode cX10_firm 30 = .ok (.ifCond .eq 19, 3) := by decide +kernel
theorem dX10_firm_33 : decode cX10_firm 33 = .ok (.iload 5, 2) := by decide +kernel
theorem dX10_firm_35 : decode cX10_firm 35 = .ok (.bipush (-9), 2) := by decide +kernel
theorem dX10_firm_37 : decode cX10_firm 37 = .ok (.if_icmp .eq 14, 3) := by decide +kernel
theorem dX10_firm_40 : decode cX10_firm 40 = .ok (.aload_n 0, 1) := by decide +kernel
theorem dX10_firm_41 : decode cX10_firm 41 = .ok (.iload 5, 2) := by decide +kernel
theorem dX10_firm_43 : decode cX10_firm 43 = .ok (.invokevirtual 154, 3) := by decide +kernel
theorem dX10_firm_46 : decode cX10_firm 46 = .ok (.ifCond .ne 5, 3) := by decide +kernel
theorem dX10_firm_49 : decode cX10_firm 49 = .ok (.iconst (-1), 1) := by decide +kernel
theorem dX10_firm_50 : decode cX10_firm 50 = .ok (.ireturn, 1) := by decide +kernel
theorem dX10_firm_51 : decode cX10_firm 51 = .ok (.aload_n 0, 1) := by decide +kernel
theorem dX10_firm_52 : decode cX10_firm 52 = .ok (.getfield 141, 3) := by decide +kernel
theorem dX10_firm_55 : decode cX10_firm 55 = .ok (.bipush 16, 2) := by decide +kernel
theorem dX10_firm_57 : decode cX10_firm 57 = .ok (.if_icmp .ne 6, 3) := by decide +kernel
theorem dX10_firm_60 : decode cX10_firm 60 = .ok (.bipush (-2), 2) := by decide +kernel
theorem dX10_firm_62 : decode cX10_firm 62 = .ok (.ireturn, 1) := by decide +kernel
theorem dX10_firm_63 : decode cX10_firm 63 = .ok (.aload_n 0, 1) := by decide +kernel
theorem dX10_firm_64 : decode cX10_firm 64 = .ok (.getfield 16, 3) := by decide +kernel
theorem dX10_firm_67 : decode cX10_firm 67 = .ok (.iload_n 1, 1) := by decide +kernel
theorem dX10_firm_68 : decode cX10_firm 68 = .ok (.iaload, 1) := by decide +kernel
theorem dX10_firm_69 : decode cX10_firm 69 = .ok (.ifCond .lt 20, 3) := by decide +kernel
theorem dX10_firm_72 : decode cX10_firm 72 = .ok (.iload 5, 2) := by decide +kernel
theorem dX10_firm_74 : decode cX10_firm 74 = .ok (.bipush (-9), 2) := by decide +kernel
theorem dX10_firm_76 : decode cX10_firm 76 = .ok (.if_icmp .eq 19, 3) := by decide +kernel
theorem dX10_firm_79 : decode cX10_firm 79 = .ok (.aload_n 0, 1) := by decide +kernel
theorem dX10_firm_80 : decode cX10_firm 80 = .ok (.getfield 34, 3) := by decide +kernel
theorem dX10_firm_83 : decode cX10_firm 83 = .ok (.iload 5, 2) := by decide +kernel
theorem dX10_firm_85 : decode cX10_firm 85 = .ok (.baload, 1) := by decide +kernel
theorem dX10_firm_86 : decode cX10_firm 86 = .ok (.ifCond .eq 9, 3) := by decide +kernel
theorem dX10_firm_89 : decode cX10_firm 89 = .ok (.aload_n 0, 1) := by decide +kernel
theorem dX10_firm_90 : decode cX10_firm 90 = .ok (.iconst 1, 1) := by decide +kernel
theorem dX10_firm_91 : decode cX10_firm 91 = .ok (.invokevirtual 131, 3) := by decide +kernel
theorem dX10_firm_94 : decode cX10_firm 94 = .ok (.ireturn, 1) := by decide +kernel
theorem dX10_firm_95 : decode cX10_firm 95 = .ok (.iload 5, 2) := by decide +kernel
theorem dX10_firm_97 : decode cX10_firm 97 = .ok (.bipush (-9), 2) := by decide +kernel
theorem dX10_firm_99 : decode cX10_firm 99 = .ok (.if_icmp .eq 18, 3) := by decide +kernel
theorem dX10_firm_102 : decode cX10_firm 102 = .ok (.aload_n 0, 1) := by decide +kernel
theorem dX10_firm_103 : decode cX10_firm 103 = .ok (.iload 5, 2) := by decide +kernel
theorem dX10_firm_105 : decode cX10_firm 105 = .ok (.invokevirtual 157, 3) := by decide +kernel
theorem dX10_firm_108 : decode cX10_firm 108 = .ok (.ifCond .ne 9, 3) := by decide +kernel
theorem dX10_firm_111 : decode cX10_firm 111 = .ok (.aload_n 0, 1) := by decide +kernel
theorem dX10_firm_112 : decode cX10_firm 112 = .ok (.iconst 3, 1) := by decide +kernel
theorem dX10_firm_113 : decode cX10_firm 113 = .ok (.invokevirtual 131, 3) := by decide +kernel
theorem dX10_firm_116 : decode cX10_firm 116 = .ok (.ireturn, 1) := by decide +kernel
theorem dX10_firm_117 : decode cX10_firm 117 = .ok (.aload_n 0, 1) := by decide +kernel
theorem dX10_firm_118 : decode cX10_firm 118 = .ok (.iload_n 1, 1) := by decide +kernel
theorem dX10_firm_119 : decode cX10_firm 119 = .ok (.iload 5, 2) := by decide +kernel
theorem dX10_firm_121 : decode cX10_firm 121 = .ok (.bipush (-9), 2) := by decide +kernel
theorem dX10_firm_123 : decode cX10_firm 123 = .ok (.if_icmp .ne 7, 3) := by decide +kernel
theorem dX10_firm_126 : decode cX10_firm 126 = .ok (.iconst 1, 1) := by decide +kernel
theorem dX10_firm_127 : decode cX10_firm 127 = .ok (.goto 4, 3) := by decide +kernel
theorem dX10_firm_130 : decode cX10_firm 130 = .ok (.iconst 2, 1) := by decide +kernel
theorem dX10_firm_131 : decode cX10_firm 131 = .ok (.iload_n 2, 1) := by decide +kernel
theorem dX10_firm_132 : decode cX10_firm 132 = .ok (.iload_n 3, 1) := by decide +kernel
theorem dX10_firm_133 : decode cX10_firm 133 = .ok (.iload 4, 2) := by decide +kernel
theorem dX10_firm_135 : decode cX10_firm 135 = .ok (.iload 5, 2) := by decide +kernel
theorem dX10_firm_137 : decode cX10_firm 137 = .ok (.invokevirtual 144, 3) := by decide +kernel
theorem dX10_firm_140 : decode cX10_firm 140 = .ok (.ireturn, 1) := by decide +kernel
set_option maxRecDepth 20000 in
theorem ggX10_slogan_X10_isSheet : GoodIn wsX10_slogan wsX10_isSheet := goodIn_r _ [10, 11, 12, 9, 13] (by decide +kernel) (by decide +kernel)
set_option maxRecDepth 20000 in
theorem gX10_slogan_X10_isSheet : GoodIn wsX10_slogan (va_wsS RX10 128 yX10_isSheet wsX10_isSheet) := goodIn_app (goodIn_of _ (by decide +kernel)) ggX10_slogan_X10_isSheet
set_option maxRecDepth 20000 in
theorem ggX10_slogan_X10_isWord : GoodIn wsX10_slogan wsX10_isWord := goodIn_r _ [17, 1, 11, 12, 9, 13, 44, 45, 46, 47, 48, 49, 50, 51, 52, 53, 54, 55, 56, 57, 58, 59, 60, 61, 62, 63, 64, 65, 66, 67, 68, 69, 70, 71, 72, 73, 74, 75, 76, 77, 78, 79, 80, 81, 82, 83, 84, 85, 86, 87] (by decide +kernel) (by decide +kernel)
set_option maxRecDepth 20000 in
theorem gX10_slogan_X10_isWord : GoodIn wsX10_slogan (wsV RX10 154 RX10 yX10_isWord wsX10_isWord) := goodIn_app (goodIn_of _ (by decide +kernel)) ggX10_slogan_X10_isWord
set_option maxRecDepth 20000 in
theorem ggX10_slogan_X10_meets : GoodIn wsX10_slogan wsX10_meets := goodIn_r _ [21, 22, 23, 44, 45, 46, 47, 48, 49, 50, 51, 52, 53, 54, 55, 56, 57, 58, 59, 60, 61, 62, 63, 64, 65, 66, 67, 68, 69, 70, 71, 72, 73, 74, 75, 76, 77, 78, 79, 80, 81, 82, 83, 84, 85, 86, 87] (by decide +kernel) (by decide +kernel)
set_option maxRecDepth 20000 in
theorem gX10_slogan_X10_meets : GoodIn wsX10_slogan (wsV RX10 131 RX10 yX10_meets wsX10_meets) := goodIn_app (goodIn_of _ (by decide +kernel)) ggX10_slogan_X10_meets
set_option maxRecDepth 20000 in
theorem ggX10_slogan_X10_isFirm : GoodIn wsX10_slogan wsX10_isFirm := goodIn_r _ [27, 28, 44, 45, 46, 47, 48, 49, 50, 51, 52, 53, 54, 55, 56, 57, 58, 59, 60, 61, 62, 63, 64, 65, 66, 67, 68, 69, 70, 71, 72, 73, 74, 75, 76, 77, 78, 79, 80, 81, 82, 83, 84, 85, 86, 87] (by decide +kernel) (by decide +kernel)
set_option maxRecDepth 20000 in
theorem gX10_slogan_X10_isFirm : GoodIn wsX10_slogan (wsV RX10 157 RX10 yX10_isFirm wsX10_isFirm) := goodIn_app (goodIn_of _ (by decide +kernel)) ggX10_slogan_X10_isFirm
set_option maxRecDepth 20000 in
theorem ggX10_slogan_X10_put : GoodIn wsX10_slogan wsX10_put := goodIn_r _ [32, 2, 33, 34, 1, 28, 35, 4, 5, 6, 36, 37, 38, 39, 9, 40, 41, 42, 43, 11, 12, 13, 18, 19, 20, 21, 22, 23, 44, 45, 46, 47, 48, 49, 50, 51, 52, 53, 54, 55, 56, 57, 58, 59, 60, 61, 62, 63, 64, 65, 66, 67, 68, 69, 70, 71, 72, 73, 74, 75, 76, 77, 78, 79, 80, 81, 82, 83, 84, 85, 86, 87] (by decide +kernel) (by decide +kernel)
set_option maxRecDepth 20000 in
theorem gX10_slogan_X10_put : GoodIn wsX10_slogan (wsV RX10 144 RX10 yX10_put wsX10_put) := goodIn_app (goodIn_of _ (by decide +kernel)) ggX10_slogan_X10_put
theorem dX10_slogan_0 : decode cX10_slogan 0 = .ok (.iload_n 1, 1) := by decide +kernel
theorem dX10_slogan_1 : decode cX10_slogan 1 = .ok (.invokestatic 128, 3) := by decide +kernel
theorem dX10_slogan_4 : decode cX10_slogan 4 = .ok (.ifCond .eq 11, 3) := by decide +kernel
theorem dX10_slogan_7 : decode cX10_slogan 7 = .ok (.aload_n 0, 1) := by decide +kernel
theorem dX10_slogan_8 : decode cX10_slogan 8 = .ok (.iload_n 2, 1) := by decide +kernel
theorem dX10_slogan_9 : decode cX10_slogan 9 = .ok (.invokevirtual 154, 3) := by decide +kernel
theorem dX10_slogan_12 : decode cX10_slogan 12 = .ok (.ifCond .ne 5, 3) := by decide +kernel
theorem dX10_slogan_15 : decode cX10_slogan 15 = .ok (.iconst (-1), 1) := by decide +kernel
theorem dX10_slogan_16 : decode cX10_slogan 16 = .ok (.ireturn, 1) := by decide +kernel
theorem dX10_slogan_17 : decode cX10_slogan 17 = .ok (.aload_n 0, 1) := by decide +kernel
theorem dX10_slogan_18 : decode cX10_slogan 18 = .ok (.getfield 141, 3) := by decide +kernel
theorem dX10_slogan_21 : decode cX10_slogan 21 = .ok (.bipush 16, 2) := by decide +kernel
theorem dX10_slogan_23 : decode cX10_slogan 23 = .ok (.if_icmp .ne 6, 3) := by decide +kernel
theorem dX10_slogan_26 : decode cX10_slogan 26 = .ok (.bipush (-2), 2) := by decide +kernel
theorem dX10_slogan_28 : decode cX10_slogan 28 = .ok (.ireturn, 1) := by decide +kernel
theorem dX10_slogan_29 : decode cX10_slogan 29 = .ok (.aload_n 0, 1) := by decide +kernel
theorem dX10_slogan_30 : decode cX10_slogan 30 = .ok (.getfield 16, 3) := by decide +kernel
theorem dX10_slogan_33 : decode cX10_slogan 33 = .ok (.iload_n 1, 1) := by decide +kernel
theorem dX10_slogan_34 : decode cX10_slogan 34 = .ok (.iaload, 1) := by decide +kernel
theorem dX10_slogan_35 : decode cX10_slogan 35 = .ok (.ifCond .lt 12, 3) := by decide +kernel
theorem dX10_slogan_38 : decode cX10_slogan 38 = .ok (.aload_n 0, 1) := by decide +kernel
theorem dX10_slogan_39 : decode cX10_slogan 39 = .ok (.getfield 34, 3) := by decide +kernel
theorem dX10_slogan_42 : decode cX10_slogan 42 = .ok (.iload_n 2, 1) := by decide +kernel
theorem dX10_slogan_43 : decode cX10_slogan 43 = .ok (.baload, 1) := by decide +kernel
theorem dX10_slogan_44 : decode cX10_slogan 44 = .ok (.ifCond .eq 9, 3) := by decide +kernel
theorem dX10_slogan_47 : decode cX10_slogan 47 = .ok (.aload_n 0, 1) := by decide +kernel
theorem dX10_slogan_48 : decode cX10_slogan 48 = .ok (.iconst 1, 1) := by decide +kernel
theorem dX10_slogan_49 : decode cX10_slogan 49 = .ok (.invokevirtual 131, 3) := by decide +kernel
theorem dX10_slogan_52 : decode cX10_slogan 52 = .ok (.ireturn, 1) := by decide +kernel
theorem dX10_slogan_53 : decode cX10_slogan 53 = .ok (.aload_n 0, 1) := by decide +kernel
theorem dX10_slogan_54 : decode cX10_slogan 54 = .ok (.iload_n 2, 1) := by decide +kernel
theorem dX10_slogan_55 : decode cX10_slogan 55 = .ok (.invokevirtual 157, 3) := by decide +kernel
theorem dX10_slogan_58 : decode cX10_slogan 58 = .ok (.ifCond .ne 9, 3) := by decide +kernel
theorem dX10_slogan_61 : decode cX10_slogan 61 = .ok (.aload_n 0, 1) := by decide +kernel
theorem dX10_slogan_62 : decode cX10_slogan 62 = .ok (.iconst 3, 1) := by decide +kernel
theorem dX10_slogan_63 : decode cX10_slogan 63 = .ok (.invokevirtual 131, 3) := by decide +kernel
theorem dX10_slogan_66 : decode cX10_slogan 66 = .ok (.ireturn, 1) := by decide +kernel
theorem dX10_slogan_67 : decode cX10_slogan 67 = .ok (.aload_n 0, 1) := by decide +kernel
theorem dX10_slogan_68 : decode cX10_slogan 68 = .ok (.iload_n 1, 1) := by decide +kernel
theorem dX10_slogan_69 : decode cX10_slogan 69 = .ok (.iconst 3, 1) := by decide +kernel
theorem dX10_slogan_70 : decode cX10_slogan 70 = .ok (.aload_n 0, 1) := by decide +kernel
theorem dX10_slogan_71 : decode cX10_slogan 71 = .ok (.getfield 38, 3) := by decide +kernel
theorem dX10_slogan_74 : decode cX10_slogan 74 = .ok (.iload_n 2, 1) := by decide +kernel
theorem dX10_slogan_75 : decode cX10_slogan 75 = .ok (.iaload, 1) := by decide +kernel
theorem dX10_slogan_76 : decode cX10_slogan 76 = .ok (.aload_n 0, 1) := by decide +kernel
theorem dX10_slogan_77 : decode cX10_slogan 77 = .ok (.getfield 41, 3) := by decide +kernel
theorem dX10_slogan_80 : decode cX10_slogan 80 = .ok (.iload_n 2, 1) := by decide +kernel
theorem dX10_slogan_81 : decode cX10_slogan 81 = .ok (.iaload, 1) := by decide +kernel
theorem dX10_slogan_82 : decode cX10_slogan 82 = .ok (.aload_n 0, 1) := by decide +kernel
theorem dX10_slogan_83 : decode cX10_slogan 83 = .ok (.getfield 44, 3) := by decide +kernel
theorem dX10_slogan_86 : decode cX10_slogan 86 = .ok (.iload_n 2, 1) := by decide +kernel
theorem dX10_slogan_87 : decode cX10_slogan 87 = .ok (.iaload, 1) := by decide +kernel
theorem dX10_slogan_88 : decode cX10_slogan 88 = .ok (.iload_n 2, 1) := by decide +kernel
theorem dX10_slogan_89 : decode cX10_slogan 89 = .ok (.invokevirtual 144, 3) := by decide +kernel
theorem dX10_slogan_92 : decode cX10_slogan 92 = .ok (.ireturn, 1) := by decide +kernel
theorem dX10_children_0 : decode cX10_children 0 = .ok (.iconst 0, 1) := by decide +kernel
theorem dX10_children_1 : decode cX10_children 1 = .ok (.istore_n 2, 1) := by decide +kernel
theorem dX10_children_2 : decode cX10_children 2 = .ok (.iconst 0, 1) := by decide +kernel
theorem dX10_children_3 : decode cX10_children 3 = .ok (.istore_n 3, 1) := by decide +kernel
theorem dX10_children_4 : decode cX10_children 4 = .ok (.iload_n 3, 1) := by decide +kernel
theorem dX10_children_5 : decode cX10_children 5 = .ok (.aload_n 0, 1) := by decide +kernel
theorem dX10_children_6 : decode cX10_children 6 = .ok (.getfield 141, 3) := by decide +kernel
theorem dX10_children_9 : decode cX10_children 9 = .ok (.if_icmp .ge 36, 3) := by decide +kernel
theorem dX10_children_12 : decode cX10_children 12 = .ok (.iload_n 2, 1) := by decide +kernel
theorem dX10_children_13 : decode cX10_children 13 = .ok (.aload_n 0, 1) := by decide +kernel
theorem dX10_children_14 : decode cX10_children 14 = .ok (.getfield 47, 3) := by decide +kernel
theorem dX10_children_17 : decode cX10_children 17 = .ok (.iload_n 3, 1) := by decide +kernel
theorem dX10_children_18 : decode cX10_children 18 = .ok (.iaload, 1) := by decide +kernel
theorem dX10_children_19 : decode cX10_children 19 = .ok (.iload_n 1, 1) := by decide +kernel
theorem dX10_children_20 : decode cX10_children 20 = .ok (.if_icmp .ne 16, 3) := by decide +kernel
theorem dX10_children_23 : decode cX10_children 23 = .ok (.aload_n 0, 1) := by decide +kernel
theorem dX10_children_24 : decode cX10_children 24 = .ok (.getfield 34, 3) := by decide +kernel
theorem dX10_children_27 : decode cX10_children 27 = .ok (.iload_n 3, 1) := by decide +kernel
theorem dX10_children_28 : decode cX10_children 28 = .ok (.baload, 1) := by decide +kernel
theorem dX10_children_29 : decode cX10_children 29 = .ok (.ifCond .ne 7, 3) := by decide +kernel
theorem dX10_children_32 : decode cX10_children 32 = .ok (.iconst 1, 1) := by decide +kernel
theorem dX10_children_33 : decode cX10_children 33 = .ok (.goto 4, 3) := by decide +kernel
theorem dX10_children_36 : decode cX10_children 36 = .ok (.iconst 0, 1) := by decide +kernel
theorem dX10_children_37 : decode cX10_children 37 = .ok (.iadd, 1) := by decide +kernel
theorem dX10_children_38 : decode cX10_children 38 = .ok (.istore_n 2, 1) := by decide +kernel
theorem dX10_children_39 : decode cX10_children 39 = .ok (.iinc 3 1, 3) := by decide +kernel
theorem dX10_children_42 : decode cX10_children 42 = .ok (.goto (-38), 3) := by decide +kernel
theorem dX10_children_45 : decode cX10_children 45 = .ok (.iload_n 2, 1) := by decide +kernel
theorem dX10_children_46 : decode cX10_children 46 = .ok (.ireturn, 1) := by decide +kernel
set_option maxRecDepth 20000 in
theorem ggX10_askedFor_X10_isWord : GoodIn wsX10_askedFor wsX10_isWord := goodIn_r _ [6, 7, 8, 9, 5, 10, 17, 18, 19, 20, 21, 22, 23, 24, 25, 26, 27, 28, 29, 30, 31, 32, 33, 34, 35, 36, 37, 38, 39, 40, 41, 42, 43, 44, 45, 46, 47, 48, 49, 50, 51, 52, 53, 54, 55, 56, 57, 58, 59, 60] (by decide +kernel) (by decide +kernel)
set_option maxRecDepth 20000 in
theorem gX10_askedFor_X10_isWord : GoodIn wsX10_askedFor (wsV RX10 154 RX10 yX10_isWord wsX10_isWord) := goodIn_app (goodIn_of _ (by decide +kernel)) ggX10_askedFor_X10_isWord
set_option maxRecDepth 20000 in
theorem ggX10_askedFor_X10_meets : GoodIn wsX10_askedFor wsX10_meets := goodIn_r _ [14, 15, 16, 17, 18, 19, 20, 21, 22, 23, 24, 25, 26, 27, 28, 29, 30, 31, 32, 33, 34, 35, 36, 37, 38, 39, 40, 41, 42, 43, 44, 45, 46, 47, 48, 49, 50, 51, 52, 53, 54, 55, 56, 57, 58, 59, 60] (by decide +kernel) (by decide +kernel)
set_option maxRecDepth 20000 in
theorem gX10_askedFor_X10_meets : GoodIn wsX10_askedFor (wsV RX10 131 RX10 yX10_meets wsX10_meets) := goodIn_app (goodIn_of _ (by decide +kernel)) ggX10_askedFor_X10_meets
theorem dX10_askedFor_0 : decode cX10_askedFor 0 = .ok (.aload_n 0, 1) := by decide +kernel
theorem dX10_askedFor_1 : decode cX10_askedFor 1 = .ok (.iload_n 1, 1) := by decide +kernel
theorem dX10_askedFor_2 : decode cX10_askedFor 2 = .ok (.invokevirtual 154, 3) := by decide +kernel
theorem dX10_askedFor_5 : decode cX10_askedFor 5 = .ok (.ifCond .ne 7, 3) := by decide +kernel
theorem dX10_askedFor_8 : decode cX10_askedFor 8 = .ok (.iconst (-1), 1) := by decide +kernel
theorem dX10_askedFor_9 : decode cX10_askedFor 9 = .ok (.goto 21, 3) := by decide +kernel
theorem dX10_askedFor_12 : decode cX10_askedFor 12 = .ok (.aload_n 0, 1) := by decide +kernel
theorem dX10_askedFor_13 : decode cX10_askedFor 13 = .ok (.getfield 34, 3) := by decide +kernel
theorem dX10_askedFor_16 : decode cX10_askedFor 16 = .ok (.iload_n 1, 1) := by decide +kernel
theorem dX10_askedFor_17 : decode cX10_askedFor 17 = .ok (.baload, 1) := by decide +kernel
theorem dX10_askedFor_18 : decode cX10_askedFor 18 = .ok (.ifCond .eq 11, 3) := by decide +kernel
theorem dX10_askedFor_21 : decode cX10_askedFor 21 = .ok (.aload_n 0, 1) := by decide +kernel
theorem dX10_askedFor_22 : decode cX10_askedFor 22 = .ok (.iconst 1, 1) := by decide +kernel
theorem dX10_askedFor_23 : decode cX10_askedFor 23 = .ok (.invokevirtual 131, 3) := by decide +kernel
theorem dX10_askedFor_26 : decode cX10_askedFor 26 = .ok (.goto 4, 3) := by decide +kernel
theorem dX10_askedFor_29 : decode cX10_askedFor 29 = .ok (.iconst 0, 1) := by decide +kernel
theorem dX10_askedFor_30 : decode cX10_askedFor 30 = .ok (.ireturn, 1) := by decide +kernel
set_option maxRecDepth 20000 in
theorem ggX10_strike_X10_askedFor : GoodIn wsX10_strike wsX10_askedFor := goodIn_r _ [8, 3, 9, 10, 11, 7, 12, 13, 14, 15, 16, 17, 18, 19, 20, 21, 22, 28, 29, 30, 31, 32, 33, 34, 35, 36, 37, 38, 39, 40, 41, 42, 43, 44, 45, 46, 47, 48, 49, 50, 51, 52, 53, 54, 55, 56, 57, 58, 59, 60, 61, 62, 63, 64, 65, 66, 67, 68, 69, 70, 71] (by decide +kernel) (by decide +kernel)
set_option maxRecDepth 20000 in
theorem gX10_strike_X10_askedFor : GoodIn wsX10_strike (wsV RX10 160 RX10 yX10_askedFor wsX10_askedFor) := goodIn_app (goodIn_of _ (by decide +kernel)) ggX10_strike_X10_askedFor
set_option maxRecDepth 20000 in
theorem ggX10_strike_X10_children : GoodIn wsX10_strike wsX10_children := goodIn_r _ [26, 13, 27, 3, 28, 29, 30, 31, 32, 33, 34, 35, 36, 37, 38, 39, 40, 41, 42, 43, 44, 45, 46, 47, 48, 49, 50, 51, 52, 53, 54, 55, 56, 57, 58, 59, 60, 61, 62, 63, 64, 65, 66, 67, 68, 69, 70, 71] (by decide +kernel) (by decide +kernel)
set_option maxRecDepth 20000 in
theorem gX10_strike_X10_children : GoodIn wsX10_strike (wsV RX10 163 RX10 yX10_children wsX10_children) := goodIn_app (goodIn_of _ (by decide +kernel)) ggX10_strike_X10_children
theorem dX10_strike_0 : decode cX10_strike 0 = .ok (.aload_n 0, 1) := by decide +kernel
theorem dX10_strike_1 : decode cX10_strike 1 = .ok (.iload_n 1, 1) := by decide +kernel
theorem dX10_strike_2 : decode cX10_strike 2 = .ok (.invokevirtual 160, 3) := by decide +kernel
theorem dX10_strike_5 : decode cX10_strike 5 = .ok (.istore_n 2, 1) := by decide +kernel
theorem dX10_strike_6 : decode cX10_strike 6 = .ok (.iload_n 2, 1) := by decide +kernel
theorem dX10_strike_7 : decode cX10_strike 7 = .ok (.ifCond .ge 5, 3) := by decide +kernel
theorem dX10_strike_10 : decode cX10_strike 10 = .ok (.iload_n 2, 1) := by decide +kernel
theorem dX10_strike_11 : decode cX10_strike 11 = .ok (.ireturn, 1) := by decide +kernel
theorem dX10_strike_12 : decode cX10_strike 12 = .ok (.aload_n 0, 1) := by decide +kernel
theorem dX10_strike_13 : decode cX10_strike 13 = .ok (.iload_n 1, 1) := by decide +kernel
theorem dX10_strike_14 : decode cX10_strike 14 = .ok (.invokevirtual 163, 3) := by decide +kernel
theorem dX10_strike_17 : decode cX10_strike 17 = .ok (.ifCond .le 7, 3) := by decide +kernel
theorem dX10_strike_20 : decode cX10_strike 20 = .ok (.iconst 1, 1) := by decide +kernel
theorem dX10_strike_21 : decode cX10_strike 21 = .ok (.goto 4, 3) := by decide +kernel
theorem dX10_strike_24 : decode cX10_strike 24 = .ok (.iconst 0, 1) := by decide +kernel
theorem dX10_strike_25 : decode cX10_strike 25 = .ok (.istore_n 3, 1) := by decide +kernel
theorem dX10_strike_26 : decode cX10_strike 26 = .ok (.iconst 0, 1) := by decide +kernel
theorem dX10_strike_27 : decode cX10_strike 27 = .ok (.istore 4, 2) := by decide +kernel
theorem dX10_strike_29 : decode cX10_strike 29 = .ok (.iload 4, 2) := by decide +kernel
theorem dX10_strike_31 : decode cX10_strike 31 = .ok (.iconst 4, 1) := by decide +kernel
theorem dX10_strike_32 : decode cX10_strike 32 = .ok (.if_icmp .ge 56, 3) := by decide +kernel
theorem dX10_strike_35 : decode cX10_strike 35 = .ok (.iconst 0, 1) := by decide +kernel
theorem dX10_strike_36 : decode cX10_strike 36 = .ok (.istore 5, 2) := by decide +kernel
theorem dX10_strike_38 : decode cX10_strike 38 = .ok (.iload 5, 2) := by decide +kernel
theorem dX10_strike_40 : decode cX10_strike 40 = .ok (.aload_n 0, 1) := by decide +kernel
theorem dX10_strike_41 : decode cX10_strike 41 = .ok (.getfield 56, 3) := by decide +kernel
theorem dX10_strike_44 : decode cX10_strike 44 = .ok (.iload 4, 2) := by decide +kernel
theorem dX10_strike_46 : decode cX10_strike 46 = .ok (.iaload, 1) := by decide +kernel
theorem dX10_strike_47 : decode cX10_strike 47 = .ok (.if_icmp .ge 35, 3) := by decide +kernel
theorem dX10_strike_50 : decode cX10_strike 50 = .ok (.iload_n 3, 1) := by decide +kernel
theorem dX10_strike_51 : decode cX10_strike 51 = .ok (.ifCond .ne 19, 3) := by decide +kernel
theorem dX10_strike_54 : decode cX10_strike 54 = .ok (.aload_n 0, 1) := by decide +kernel
theorem dX10_strike_55 : decode cX10_strike 55 = .ok (.getfield 59, 3) := by decide +kernel
theorem dX10_strike_58 : decode cX10_strike 58 = .ok (.iconst 3, 1) := by decide +kernel
theorem dX10_strike_59 : decode cX10_strike 59 = .ok (.iload 4, 2) := by decide +kernel
theorem dX10_strike_61 : decode cX10_strike 61 = .ok (.imul, 1) := by decide +kernel
theorem dX10_strike_62 : decode cX10_strike 62 = .ok (.iload 5, 2) := by decide +kernel
theorem dX10_strike_64 : decode cX10_strike 64 = .ok (.iadd, 1) := by decide +kernel
theorem dX10_strike_65 : decode cX10_strike 65 = .ok (.iaload, 1) := by decide +kernel
theorem dX10_strike_66 : decode cX10_strike 66 = .ok (.iload_n 1, 1) := by decide +kernel
theorem dX10_strike_67 : decode cX10_strike 67 = .ok (.if_icmp .ne 7, 3) := by decide +kernel
theorem dX10_strike_70 : decode cX10_strike 70 = .ok (.iconst 1, 1) := by decide +kernel
theorem dX10_strike_71 : decode cX10_strike 71 = .ok (.goto 4, 3) := by decide +kernel
theorem dX10_strike_74 : decode cX10_strike 74 = .ok (.iconst 0, 1) := by decide +kernel
theorem dX10_strike_75 : decode cX10_strike 75 = .ok (.istore_n 3, 1) := by decide +kernel
theorem dX10_strike_76 : decode cX10_strike 76 = .ok (.iinc 5 1, 3) := by decide +kernel
theorem dX10_strike_79 : decode cX10_strike 79 = .ok (.goto (-41), 3) := by decide +kernel
theorem dX10_strike_82 : decode cX10_strike 82 = .ok (.iinc 4 1, 3) := by decide +kernel
theorem dX10_strike_85 : decode cX10_strike 85 = .ok (.goto (-56), 3) := by decide +kernel
theorem dX10_strike_88 : decode cX10_strike 88 = .ok (.iload_n 3, 1) := by decide +kernel
theorem dX10_strike_89 : decode cX10_strike 89 = .ok (.ifCond .eq 6, 3) := by decide +kernel
theorem dX10_strike_92 : decode cX10_strike 92 = .ok (.bipush (-4), 2) := by decide +kernel
theorem dX10_strike_94 : decode cX10_strike 94 = .ok (.ireturn, 1) := by decide +kernel
theorem dX10_strike_95 : decode cX10_strike 95 = .ok (.aload_n 0, 1) := by decide +kernel
theorem dX10_strike_96 : decode cX10_strike 96 = .ok (.getfield 34, 3) := by decide +kernel
theorem dX10_strike_99 : decode cX10_strike 99 = .ok (.iload_n 1, 1) := by decide +kernel
theorem dX10_strike_100 : decode cX10_strike 100 = .ok (.iconst 1, 1) := by decide +kernel
theorem dX10_strike_101 : decode cX10_strike 101 = .ok (.bastore, 1) := by decide +kernel
theorem dX10_strike_102 : decode cX10_strike 102 = .ok (.iconst 1, 1) := by decide +kernel
theorem dX10_strike_103 : decode cX10_strike 103 = .ok (.ireturn, 1) := by decide +kernel
theorem dX10_bits_0 : decode cX10_bits 0 = .ok (.iconst 0, 1) := by decide +kernel
theorem dX10_bits_1 : decode cX10_bits 1 = .ok (.istore_n 1, 1) := by decide +kernel
theorem dX10_bits_2 : decode cX10_bits 2 = .ok (.iconst 0, 1) := by decide +kernel
theorem dX10_bits_3 : decode cX10_bits 3 = .ok (.istore_n 2, 1) := by decide +kernel
theorem dX10_bits_4 : decode cX10_bits 4 = .ok (.iload_n 2, 1) := by decide +kernel
theorem dX10_bits_5 : decode cX10_bits 5 = .ok (.bipush 15, 2) := by decide +kernel
theorem dX10_bits_7 : decode cX10_bits 7 = .ok (.if_icmp .ge 17, 3) := by decide +kernel
theorem dX10_bits_10 : decode cX10_bits 10 = .ok (.iload_n 1, 1) := by decide +kernel
theorem dX10_bits_11 : decode cX10_bits 11 = .ok (.iload_n 0, 1) := by decide +kernel
theorem dX10_bits_12 : decode cX10_bits 12 = .ok (.iload_n 2, 1) := by decide +kernel
theorem dX10_bits_13 : decode cX10_bits 13 = .ok (.ishr, 1) := by decide +kernel
theorem dX10_bits_14 : decode cX10_bits 14 = .ok (.iconst 1, 1) := by decide +kernel
theorem dX10_bits_15 : decode cX10_bits 15 = .ok (.iand, 1) := by decide +kernel
theorem dX10_bits_16 : decode cX10_bits 16 = .ok (.iadd, 1) := by decide +kernel
theorem dX10_bits_17 : decode cX10_bits 17 = .ok (.istore_n 1, 1) := by decide +kernel
theorem dX10_bits_18 : decode cX10_bits 18 = .ok (.iinc 2 1, 3) := by decide +kernel
theorem dX10_bits_21 : decode cX10_bits 21 = .ok (.goto (-17), 3) := by decide +kernel
theorem dX10_bits_24 : decode cX10_bits 24 = .ok (.iload_n 1, 1) := by decide +kernel
theorem dX10_bits_25 : decode cX10_bits 25 = .ok (.ireturn, 1) := by decide +kernel
set_option maxRecDepth 20000 in
theorem ggX10_tells_X10_bits : GoodIn wsX10_tells wsX10_bits := goodIn_r _ [11] (by decide +kernel) (by decide +kernel)
set_option maxRecDepth 20000 in
theorem gX10_tells_X10_bits : GoodIn wsX10_tells (va_wsS RX10 166 yX10_bits wsX10_bits) := goodIn_app (goodIn_of _ (by decide +kernel)) ggX10_tells_X10_bits
theorem dX10_tells_0 : decode cX10_tells 0 = .ok (.iconst 0, 1) := by decide +kernel
theorem dX10_tells_1 : decode cX10_tells 1 = .ok (.istore_n 3, 1) := by decide +kernel
theorem dX10_tells_2 : decode cX10_tells 2 = .ok (.iconst 0, 1) := by decide +kernel
theorem dX10_tells_3 : decode cX10_tells 3 = .ok (.istore 4, 2) := by decide +kernel
theorem dX10_tells_5 : decode cX10_tells 5 = .ok (.iload 4, 2) := by decide +kernel
theorem dX10_tells_7 : decode cX10_tells 7 = .ok (.aload_n 0, 1) := by decide +kernel
theorem dX10_tells_8 : decode cX10_tells 8 = .ok (.getfield 28, 3) := by decide +kernel
theorem dX10_tells_11 : decode cX10_tells 11 = .ok (.iload_n 1, 1) := by decide +kernel
theorem dX10_tells_12 : decode cX10_tells 12 = .ok (.iaload, 1) := by decide +kernel
theorem dX10_tells_13 : decode cX10_tells 13 = .ok (.if_icmp .ge 32, 3) := by decide +kernel
theorem dX10_tells_16 : decode cX10_tells 16 = .ok (.iload_n 3, 1) := by decide +kernel
theorem dX10_tells_17 : decode cX10_tells 17 = .ok (.aload_n 0, 1) := by decide +kernel
theorem dX10_tells_18 : decode cX10_tells 18 = .ok (.getfield 13, 3) := by decide +kernel
theorem dX10_tells_21 : decode cX10_tells 21 = .ok (.aload_n 0, 1) := by decide +kernel
theorem dX10_tells_22 : decode cX10_tells 22 = .ok (.getfield 31, 3) := by decide +kernel
theorem dX10_tells_25 : decode cX10_tells 25 = .ok (.bipush 8, 2) := by decide +kernel
theorem dX10_tells_27 : decode cX10_tells 27 = .ok (.iload_n 1, 1) := by decide +kernel
theorem dX10_tells_28 : decode cX10_tells 28 = .ok (.imul, 1) := by decide +kernel
theorem dX10_tells_29 : decode cX10_tells 29 = .ok (.iload 4, 2) := by decide +kernel
theorem dX10_tells_31 : decode cX10_tells 31 = .ok (.iadd, 1) := by decide +kernel
theorem dX10_tells_32 : decode cX10_tells 32 = .ok (.iaload, 1) := by decide +kernel
theorem dX10_tells_33 : decode cX10_tells 33 = .ok (.iaload, 1) := by decide +kernel
theorem dX10_tells_34 : decode cX10_tells 34 = .ok (.invokestatic 166, 3) := by decide +kernel
theorem dX10_tells_37 : decode cX10_tells 37 = .ok (.iadd, 1) := by decide +kernel
theorem dX10_tells_38 : decode cX10_tells 38 = .ok (.istore_n 3, 1) := by decide +kernel
theorem dX10_tells_39 : decode cX10_tells 39 = .ok (.iinc 4 1, 3) := by decide +kernel
theorem dX10_tells_42 : decode cX10_tells 42 = .ok (.goto (-37), 3) := by decide +kernel
theorem dX10_tells_45 : decode cX10_tells 45 = .ok (.iload_n 2, 1) := by decide +kernel
theorem dX10_tells_46 : decode cX10_tells 46 = .ok (.tableswitch 64 0 4 #[34, 41, 48, 50, 57], 34) := by decide +kernel
theorem dX10_tells_80 : decode cX10_tells 80 = .ok (.aload_n 0, 1) := by decide +kernel
theorem dX10_tells_81 : decode cX10_tells 81 = .ok (.getfield 25, 3) := by decide +kernel
theorem dX10_tells_84 : decode cX10_tells 84 = .ok (.iload_n 1, 1) := by decide +kernel
theorem dX10_tells_85 : decode cX10_tells 85 = .ok (.iaload, 1) := by decide +kernel
theorem dX10_tells_86 : decode cX10_tells 86 = .ok (.ireturn, 1) := by decide +kernel
theorem dX10_tells_87 : decode cX10_tells 87 = .ok (.aload_n 0, 1) := by decide +kernel
theorem dX10_tells_88 : decode cX10_tells 88 = .ok (.getfield 28, 3) := by decide +kernel
theorem dX10_tells_91 : decode cX10_tells 91 = .ok (.iload_n 1, 1) := by decide +kernel
theorem dX10_tells_92 : decode cX10_tells 92 = .ok (.iaload, 1) := by decide +kernel
theorem dX10_tells_93 : decode cX10_tells 93 = .ok (.ireturn, 1) := by decide +kernel
theorem dX10_tells_94 : decode cX10_tells 94 = .ok (.iload_n 3, 1) := by decide +kernel
theorem dX10_tells_95 : decode cX10_tells 95 = .ok (.ireturn, 1) := by decide +kernel
theorem dX10_tells_96 : decode cX10_tells 96 = .ok (.aload_n 0, 1) := by decide +kernel
theorem dX10_tells_97 : decode cX10_tells 97 = .ok (.getfield 41, 3) := by decide +kernel
theorem dX10_tells_100 : decode cX10_tells 100 = .ok (.iload_n 1, 1) := by decide +kernel
theorem dX10_tells_101 : decode cX10_tells 101 = .ok (.iaload, 1) := by decide +kernel
theorem dX10_tells_102 : decode cX10_tells 102 = .ok (.ireturn, 1) := by decide +kernel
theorem dX10_tells_103 : decode cX10_tells 103 = .ok (.aload_n 0, 1) := by decide +kernel
theorem dX10_tells_104 : decode cX10_tells 104 = .ok (.getfield 44, 3) := by decide +kernel
theorem dX10_tells_107 : decode cX10_tells 107 = .ok (.iload_n 1, 1) := by decide +kernel
theorem dX10_tells_108 : decode cX10_tells 108 = .ok (.iaload, 1) := by decide +kernel
theorem dX10_tells_109 : decode cX10_tells 109 = .ok (.ireturn, 1) := by decide +kernel
theorem dX10_tells_110 : decode cX10_tells 110 = .ok (.aload_n 0, 1) := by decide +kernel
theorem dX10_tells_111 : decode cX10_tells 111 = .ok (.getfield 38, 3) := by decide +kernel
theorem dX10_tells_114 : decode cX10_tells 114 = .ok (.iload_n 1, 1) := by decide +kernel
theorem dX10_tells_115 : decode cX10_tells 115 = .ok (.iaload, 1) := by decide +kernel
theorem dX10_tells_116 : decode cX10_tells 116 = .ok (.ireturn, 1) := by decide +kernel
set_option maxRecDepth 20000 in
theorem ggX10_told_X10_in : GoodIn wsX10_told wsX10_in := goodIn_r _ [4] (by decide +kernel) (by decide +kernel)
set_option maxRecDepth 20000 in
theorem gX10_told_X10_in : GoodIn wsX10_told (va_wsS RX10 120 yX10_in wsX10_in) := goodIn_app (goodIn_of _ (by decide +kernel)) ggX10_told_X10_in
set_option maxRecDepth 20000 in
theorem ggX10_told_X10_askedFor : GoodIn wsX10_told wsX10_askedFor := goodIn_r _ [8, 9, 10, 11, 12, 3, 13, 14, 1, 2, 4, 15, 16, 17, 18, 19, 20, 35, 36, 37, 38, 39, 40, 41, 42, 43, 44, 45, 46, 47, 48, 49, 50, 51, 52, 53, 54, 55, 56, 57, 58, 59, 60, 61, 62, 63, 64, 65, 66, 67, 68, 69, 70, 71, 72, 73, 74, 75, 76, 77, 78] (by decide +kernel) (by decide +kernel)
set_option maxRecDepth 20000 in
theorem gX10_told_X10_askedFor : GoodIn wsX10_told (wsV RX10 160 RX10 yX10_askedFor wsX10_askedFor) := goodIn_app (goodIn_of _ (by decide +kernel)) ggX10_told_X10_askedFor
set_option maxRecDepth 20000 in
theorem ggX10_told_X10_tells : GoodIn wsX10_told wsX10_tells := goodIn_r _ [24, 25, 26, 27, 28, 29, 30, 31, 32, 33, 3, 34, 35, 36, 37, 38, 39, 40, 41, 42, 43, 44, 45, 46, 47, 48, 49, 50, 51, 52, 53, 54, 55, 56, 57, 58, 59, 60, 61, 62, 63, 64, 65, 66, 67, 68, 69, 70, 71, 72, 73, 74, 75, 76, 77, 78] (by decide +kernel) (by decide +kernel)
set_option maxRecDepth 20000 in
theorem gX10_told_X10_tells : GoodIn wsX10_told (wsV RX10 169 RX10 yX10_tells wsX10_tells) := goodIn_app (goodIn_of _ (by decide +kernel)) ggX10_told_X10_tells
theorem dX10_told_0 : decode cX10_told 0 = .ok (.iload_n 2, 1) := by decide +kernel
theorem dX10_told_1 : decode cX10_told 1 = .ok (.iconst 0, 1) := by decide +kernel
theorem dX10_told_2 : decode cX10_told 2 = .ok (.iconst 5, 1) := by decide +kernel
theorem dX10_told_3 : decode cX10_told 3 = .ok (.invokestatic 120, 3) := by decide +kernel
theorem dX10_told_6 : decode cX10_told 6 = .ok (.ifCond .ne 5, 3) := by decide +kernel
theorem dX10_told_9 : decode cX10_told 9 = .ok (.iconst (-1), 1) := by decide +kernel
theorem dX10_told_10 : decode cX10_told 10 = .ok (.ireturn, 1) := by decide +kernel
theorem dX10_told_11 : decode cX10_told 11 = .ok (.aload_n 0, 1) := by decide +kernel
theorem dX10_told_12 : decode cX10_told 12 = .ok (.iload_n 1, 1) := by decide +kernel
theorem dX10_told_13 : decode cX10_told 13 = .ok (.invokevirtual 160, 3) := by decide +kernel
theorem dX10_told_16 : decode cX10_told 16 = .ok (.istore_n 3, 1) := by decide +kernel
theorem dX10_told_17 : decode cX10_told 17 = .ok (.iload_n 3, 1) := by decide +kernel
theorem dX10_told_18 : decode cX10_told 18 = .ok (.ifCond .ge 7, 3) := by decide +kernel
theorem dX10_told_21 : decode cX10_told 21 = .ok (.iload_n 3, 1) := by decide +kernel
theorem dX10_told_22 : decode cX10_told 22 = .ok (.goto 9, 3) := by decide +kernel
theorem dX10_told_25 : decode cX10_told 25 = .ok (.aload_n 0, 1) := by decide +kernel
theorem dX10_told_26 : decode cX10_told 26 = .ok (.iload_n 1, 1) := by decide +kernel
theorem dX10_told_27 : decode cX10_told 27 = .ok (.iload_n 2, 1) := by decide +kernel
theorem dX10_told_28 : decode cX10_told 28 = .ok (.invokevirtual 169, 3) := by decide +kernel
theorem dX10_told_31 : decode cX10_told 31 = .ok (.ireturn, 1) := by decide +kernel
set_option maxRecDepth 20000 in
theorem ggX10_mark_X10_in : GoodIn wsX10_mark wsX10_in := goodIn_r _ [6] (by decide +kernel) (by decide +kernel)
set_option maxRecDepth 20000 in
theorem gX10_mark_X10_in : GoodIn wsX10_mark (va_wsS RX10 120 yX10_in wsX10_in) := goodIn_app (goodIn_of _ (by decide +kernel)) ggX10_mark_X10_in
set_option maxRecDepth 20000 in
theorem ggX10_mark_X10_askedFor : GoodIn wsX10_mark wsX10_askedFor := goodIn_r _ [10, 11, 12, 13, 14, 5, 15, 16, 3, 4, 6, 17, 18, 19, 20, 21, 22, 27, 28, 29, 30, 31, 32, 33, 34, 35, 36, 37, 38, 39, 40, 41, 42, 43, 44, 45, 46, 47, 48, 49, 50, 51, 52, 53, 54, 55, 56, 57, 58, 59, 60, 61, 62, 63, 64, 65, 66, 67, 68, 69, 70] (by decide +kernel) (by decide +kernel)
set_option maxRecDepth 20000 in
theorem gX10_mark_X10_askedFor : GoodIn wsX10_mark (wsV RX10 160 RX10 yX10_askedFor wsX10_askedFor) := goodIn_app (goodIn_of _ (by decide +kernel)) ggX10_mark_X10_askedFor
set_option maxRecDepth 20000 in
theorem ggX10_mark_X10_meets : GoodIn wsX10_mark wsX10_meets := goodIn_r _ [20, 21, 22, 27, 28, 29, 30, 31, 32, 33, 34, 35, 36, 37, 38, 39, 40, 41, 42, 43, 44, 45, 46, 47, 48, 49, 50, 51, 52, 53, 54, 55, 56, 57, 58, 59, 60, 61, 62, 63, 64, 65, 66, 67, 68, 69, 70] (by decide +kernel) (by decide +kernel)
set_option maxRecDepth 20000 in
theorem gX10_mark_X10_meets : GoodIn wsX10_mark (wsV RX10 131 RX10 yX10_meets wsX10_meets) := goodIn_app (goodIn_of _ (by decide +kernel)) ggX10_mark_X10_meets
set_option maxRecDepth 20000 in
theorem ggX10_mark_X10_children : GoodIn wsX10_mark wsX10_children := goodIn_r _ [26, 16, 2, 11, 27, 28, 29, 30, 31, 32, 33, 34, 35, 36, 37, 38, 39, 40, 41, 42, 43, 44, 45, 46, 47, 48, 49, 50, 51, 52, 53, 54, 55, 56, 57, 58, 59, 60, 61, 62, 63, 64, 65, 66, 67, 68, 69, 70] (by decide +kernel) (by decide +kernel)
set_option maxRecDepth 20000 in
theorem gX10_mark_X10_children : GoodIn wsX10_mark (wsV RX10 163 RX10 yX10_children wsX10_children) := goodIn_app (goodIn_of _ (by decide +kernel)) ggX10_mark_X10_children
theorem dX10_mark_0 : decode cX10_mark 0 = .ok (.iload_n 2, 1) := by decide +kernel
theorem dX10_mark_1 : decode cX10_mark 1 = .ok (.iconst 1, 1) := by decide +kernel
theorem dX10_mark_2 : decode cX10_mark 2 = .ok (.iconst 3, 1) := by decide +kernel
theorem dX10_mark_3 : decode cX10_mark 3 = .ok (.invokestatic 120, 3) := by decide +kernel
theorem dX10_mark_6 : decode cX10_mark 6 = .ok (.ifCond .ne 5, 3) := by decide +kernel
theorem dX10_mark_9 : decode cX10_mark 9 = .ok (.iconst (-1), 1) := by decide +kernel
theorem dX10_mark_10 : decode cX10_mark 10 = .ok (.ireturn, 1) := by decide +kernel
theorem dX10_mark_11 : decode cX10_mark 11 = .ok (.aload_n 0, 1) := by decide +kernel
theorem dX10_mark_12 : decode cX10_mark 12 = .ok (.iload_n 1, 1) := by decide +kernel
theorem dX10_mark_13 : decode cX10_mark 13 = .ok (.invokevirtual 160, 3) := by decide +kernel
theorem dX10_mark_16 : decode cX10_mark 16 = .ok (.istore_n 3, 1) := by decide +kernel
theorem dX10_mark_17 : decode cX10_mark 17 = .ok (.iload_n 3, 1) := by decide +kernel
theorem dX10_mark_18 : decode cX10_mark 18 = .ok (.ifCond .ge 5, 3) := by decide +kernel
theorem dX10_mark_21 : decode cX10_mark 21 = .ok (.iload_n 3, 1) := by decide +kernel
theorem dX10_mark_22 : decode cX10_mark 22 = .ok (.ireturn, 1) := by decide +kernel
theorem dX10_mark_23 : decode cX10_mark 23 = .ok (.aload_n 0, 1) := by decide +kernel
theorem dX10_mark_24 : decode cX10_mark 24 = .ok (.getfield 25, 3) := by decide +kernel
theorem dX10_mark_27 : decode cX10_mark 27 = .ok (.iload_n 1, 1) := by decide +kernel
theorem dX10_mark_28 : decode cX10_mark 28 = .ok (.iaload, 1) := by decide +kernel
theorem dX10_mark_29 : decode cX10_mark 29 = .ok (.iload_n 2, 1) := by decide +kernel
theorem dX10_mark_30 : decode cX10_mark 30 = .ok (.if_icmp .eq 24, 3) := by decide +kernel
theorem dX10_mark_33 : decode cX10_mark 33 = .ok (.iload_n 2, 1) := by decide +kernel
theorem dX10_mark_34 : decode cX10_mark 34 = .ok (.iconst 1, 1) := by decide +kernel
theorem dX10_mark_35 : decode cX10_mark 35 = .ok (.if_icmp .ne 13, 3) := by decide +kernel
theorem dX10_mark_38 : decode cX10_mark 38 = .ok (.aload_n 0, 1) := by decide +kernel
theorem dX10_mark_39 : decode cX10_mark 39 = .ok (.getfield 25, 3) := by decide +kernel
theorem dX10_mark_42 : decode cX10_mark 42 = .ok (.iload_n 1, 1) := by decide +kernel
theorem dX10_mark_43 : decode cX10_mark 43 = .ok (.iaload, 1) := by decide +kernel
theorem dX10_mark_44 : decode cX10_mark 44 = .ok (.iconst 2, 1) := by decide +kernel
theorem dX10_mark_45 : decode cX10_mark 45 = .ok (.if_icmp .eq 9, 3) := by decide +kernel
theorem dX10_mark_48 : decode cX10_mark 48 = .ok (.aload_n 0, 1) := by decide +kernel
theorem dX10_mark_49 : decode cX10_mark 49 = .ok (.iconst 3, 1) := by decide +kernel
theorem dX10_mark_50 : decode cX10_mark 50 = .ok (.invokevirtual 131, 3) := by decide +kernel
theorem dX10_mark_53 : decode cX10_mark 53 = .ok (.ireturn, 1) := by decide +kernel
theorem dX10_mark_54 : decode cX10_mark 54 = .ok (.iload_n 1, 1) := by decide +kernel
theorem dX10_mark_55 : decode cX10_mark 55 = .ok (.istore 4, 2) := by decide +kernel
theorem dX10_mark_57 : decode cX10_mark 57 = .ok (.iload_n 2, 1) := by decide +kernel
theorem dX10_mark_58 : decode cX10_mark 58 = .ok (.iconst 2, 1) := by decide +kernel
theorem dX10_mark_59 : decode cX10_mark 59 = .ok (.if_icmp .ne 27, 3) := by decide +kernel
theorem dX10_mark_62 : decode cX10_mark 62 = .ok (.aload_n 0, 1) := by decide +kernel
theorem dX10_mark_63 : decode cX10_mark 63 = .ok (.getfield 47, 3) := by decide +kernel
theorem dX10_mark_66 : decode cX10_mark 66 = .ok (.iload 4, 2) := by decide +kernel
theorem dX10_mark_68 : decode cX10_mark 68 = .ok (.iaload, 1) := by decide +kernel
theorem dX10_mark_69 : decode cX10_mark 69 = .ok (.bipush (-9), 2) := by decide +kernel
theorem dX10_mark_71 : decode cX10_mark 71 = .ok (.if_icmp .eq 15, 3) := by decide +kernel
theorem dX10_mark_74 : decode cX10_mark 74 = .ok (.aload_n 0, 1) := by decide +kernel
theorem dX10_mark_75 : decode cX10_mark 75 = .ok (.getfield 47, 3) := by decide +kernel
theorem dX10_mark_78 : decode cX10_mark 78 = .ok (.iload 4, 2) := by decide +kernel
theorem dX10_mark_80 : decode cX10_mark 80 = .ok (.iaload, 1) := by decide +kernel
theorem dX10_mark_81 : decode cX10_mark 81 = .ok (.istore 4, 2) := by decide +kernel
theorem dX10_mark_83 : decode cX10_mark 83 = .ok (.goto (-26), 3) := by decide +kernel
theorem dX10_mark_86 : decode cX10_mark 86 = .ok (.iload_n 2, 1) := by decide +kernel
theorem dX10_mark_87 : decode cX10_mark 87 = .ok (.iconst 1, 1) := by decide +kernel
theorem dX10_mark_88 : decode cX10_mark 88 = .ok (.if_icmp .ne 11, 3) := by decide +kernel
theorem dX10_mark_91 : decode cX10_mark 91 = .ok (.aload_n 0, 1) := by decide +kernel
theorem dX10_mark_92 : decode cX10_mark 92 = .ok (.iload_n 1, 1) := by decide +kernel
theorem dX10_mark_93 : decode cX10_mark 93 = .ok (.invokevirtual 163, 3) := by decide +kernel
theorem dX10_mark_96 : decode cX10_mark 96 = .ok (.goto 19, 3) := by decide +kernel
theorem dX10_mark_99 : decode cX10_mark 99 = .ok (.iload_n 2, 1) := by decide +kernel
theorem dX10_mark_100 : decode cX10_mark 100 = .ok (.iconst 2, 1) := by decide +kernel
theorem dX10_mark_101 : decode cX10_mark 101 = .ok (.if_icmp .ne 8, 3) := by decide +kernel
theorem dX10_mark_104 : decode cX10_mark 104 = .ok (.iload 4, 2) := by decide +kernel
theorem dX10_mark_106 : decode cX10_mark 106 = .ok (.goto 9, 3) := by decide +kernel
theorem dX10_mark_109 : decode cX10_mark 109 = .ok (.aload_n 0, 1) := by decide +kernel
theorem dX10_mark_110 : decode cX10_mark 110 = .ok (.getfield 47, 3) := by decide +kernel
theorem dX10_mark_113 : decode cX10_mark 113 = .ok (.iload_n 1, 1) := by decide +kernel
theorem dX10_mark_114 : decode cX10_mark 114 = .ok (.iaload, 1) := by decide +kernel
theorem dX10_mark_115 : decode cX10_mark 115 = .ok (.ireturn, 1) := by decide +kernel
set_option maxRecDepth 20000 in
theorem ggX10_mean_X10_meets : GoodIn wsX10_mean wsX10_meets := goodIn_r _ [8, 9, 10, 11, 12, 13, 14, 15, 16, 17, 18, 19, 20, 21, 22, 23, 24, 25, 26, 27, 28, 29, 30, 31, 32, 33, 34, 35, 36, 37, 38, 39, 40, 41, 42, 43, 44, 45, 46, 47, 48, 49, 50, 51, 52, 53, 54] (by decide +kernel) (by decide +kernel)
set_option maxRecDepth 20000 in
theorem gX10_mean_X10_meets : GoodIn wsX10_mean (wsV RX10 131 RX10 yX10_meets wsX10_meets) := goodIn_app (goodIn_of _ (by decide +kernel)) ggX10_mean_X10_meets
theorem dX10_mean_0 : decode cX10_mean 0 = .ok (.iconst 0, 1) := by decide +kernel
theorem dX10_mean_1 : decode cX10_mean 1 = .ok (.istore_n 1, 1) := by decide +kernel
theorem dX10_mean_2 : decode cX10_mean 2 = .ok (.iconst 0, 1) := by decide +kernel
theorem dX10_mean_3 : decode cX10_mean 3 = .ok (.istore_n 2, 1) := by decide +kernel
theorem dX10_mean_4 : decode cX10_mean 4 = .ok (.iconst 0, 1) := by decide +kernel
theorem dX10_mean_5 : decode cX10_mean 5 = .ok (.istore_n 3, 1) := by decide +kernel
theorem dX10_mean_6 : decode cX10_mean 6 = .ok (.iload_n 3, 1) := by decide +kernel
theorem dX10_mean_7 : decode cX10_mean 7 = .ok (.aload_n 0, 1) := by decide +kernel
theorem dX10_mean_8 : decode cX10_mean 8 = .ok (.getfield 141, 3) := by decide +kernel
theorem dX10_mean_11 : decode cX10_mean 11 = .ok (.if_icmp .ge 48, 3) := by decide +kernel
theorem dX10_mean_14 : decode cX10_mean 14 = .ok (.iload_n 1, 1) := by decide +kernel
theorem dX10_mean_15 : decode cX10_mean 15 = .ok (.aload_n 0, 1) := by decide +kernel
theorem dX10_mean_16 : decode cX10_mean 16 = .ok (.getfield 34, 3) := by decide +kernel
theorem dX10_mean_19 : decode cX10_mean 19 = .ok (.iload_n 3, 1) := by decide +kernel
theorem dX10_mean_20 : decode cX10_mean 20 = .ok (.baload, 1) := by decide +kernel
theorem dX10_mean_21 : decode cX10_mean 21 = .ok (.ifCond .eq 7, 3) := by decide +kernel
theorem dX10_mean_24 : decode cX10_mean 24 = .ok (.iconst 0, 1) := by decide +kernel
theorem dX10_mean_25 : decode cX10_mean 25 = .ok (.goto 4, 3) := by decide +kernel
theorem dX10_mean_28 : decode cX10_mean 28 = .ok (.iconst 1, 1) := by decide +kernel
theorem dX10_mean_29 : decode cX10_mean 29 = .ok (.iadd, 1) := by decide +kernel
theorem dX10_mean_30 : decode cX10_mean 30 = .ok (.istore_n 1, 1) := by decide +kernel
theorem dX10_mean_31 : decode cX10_mean 31 = .ok (.iload_n 2, 1) := by decide +kernel
theorem dX10_mean_32 : decode cX10_mean 32 = .ok (.aload_n 0, 1) := by decide +kernel
theorem dX10_mean_33 : decode cX10_mean 33 = .ok (.getfield 34, 3) := by decide +kernel
theorem dX10_mean_36 : decode cX10_mean 36 = .ok (.iload_n 3, 1) := by decide +kernel
theorem dX10_mean_37 : decode cX10_mean 37 = .ok (.baload, 1) := by decide +kernel
theorem dX10_mean_38 : decode cX10_mean 38 = .ok (.ifCond .eq 7, 3) := by decide +kernel
theorem dX10_mean_41 : decode cX10_mean 41 = .ok (.iconst 0, 1) := by decide +kernel
theorem dX10_mean_42 : decode cX10_mean 42 = .ok (.goto 9, 3) := by decide +kernel
theorem dX10_mean_45 : decode cX10_mean 45 = .ok (.aload_n 0, 1) := by decide +kernel
theorem dX10_mean_46 : decode cX10_mean 46 = .ok (.getfield 28, 3) := by decide +kernel
theorem dX10_mean_49 : decode cX10_mean 49 = .ok (.iload_n 3, 1) := by decide +kernel
theorem dX10_mean_50 : decode cX10_mean 50 = .ok (.iaload, 1) := by decide +kernel
theorem dX10_mean_51 : decode cX10_mean 51 = .ok (.iadd, 1) := by decide +kernel
theorem dX10_mean_52 : decode cX10_mean 52 = .ok (.istore_n 2, 1) := by decide +kernel
theorem dX10_mean_53 : decode cX10_mean 53 = .ok (.iinc 3 1, 3) := by decide +kernel
theorem dX10_mean_56 : decode cX10_mean 56 = .ok (.goto (-50), 3) := by decide +kernel
theorem dX10_mean_59 : decode cX10_mean 59 = .ok (.iload_n 1, 1) := by decide +kernel
theorem dX10_mean_60 : decode cX10_mean 60 = .ok (.ifCond .ne 11, 3) := by decide +kernel
theorem dX10_mean_63 : decode cX10_mean 63 = .ok (.aload_n 0, 1) := by decide +kernel
theorem dX10_mean_64 : decode cX10_mean 64 = .ok (.iconst 4, 1) := by decide +kernel
theorem dX10_mean_65 : decode cX10_mean 65 = .ok (.invokevirtual 131, 3) := by decide +kernel
theorem dX10_mean_68 : decode cX10_mean 68 = .ok (.goto 6, 3) := by decide +kernel
theorem dX10_mean_71 : decode cX10_mean 71 = .ok (.iload_n 2, 1) := by decide +kernel
theorem dX10_mean_72 : decode cX10_mean 72 = .ok (.iload_n 1, 1) := by decide +kernel
theorem dX10_mean_73 : decode cX10_mean 73 = .ok (.idiv, 1) := by decide +kernel
theorem dX10_mean_74 : decode cX10_mean 74 = .ok (.ireturn, 1) := by decide +kernel
set_option maxRecDepth 20000 in
theorem ggX10_isLine_X10_in : GoodIn wsX10_isLine wsX10_in := goodIn_r _ [4] (by decide +kernel) (by decide +kernel)
set_option maxRecDepth 20000 in
theorem gX10_isLine_X10_in : GoodIn wsX10_isLine (va_wsS RX10 120 yX10_in wsX10_in) := goodIn_app (goodIn_of _ (by decide +kernel)) ggX10_isLine_X10_in
theorem dX10_isLine_0 : decode cX10_isLine 0 = .ok (.iload_n 0, 1) := by decide +kernel
theorem dX10_isLine_1 : decode cX10_isLine 1 = .ok (.iconst 0, 1) := by decide +kernel
theorem dX10_isLine_2 : decode cX10_isLine 2 = .ok (.iconst 3, 1) := by decide +kernel
theorem dX10_isLine_3 : decode cX10_isLine 3 = .ok (.invokestatic 120, 3) := by decide +kernel
theorem dX10_isLine_6 : decode cX10_isLine 6 = .ok (.ireturn, 1) := by decide +kernel
set_option maxRecDepth 20000 in
theorem ggX10_isSlot_X10_in : GoodIn wsX10_isSlot wsX10_in := goodIn_r _ [4] (by decide +kernel) (by decide +kernel)
set_option maxRecDepth 20000 in
theorem gX10_isSlot_X10_in : GoodIn wsX10_isSlot (va_wsS RX10 120 yX10_in wsX10_in) := goodIn_app (goodIn_of _ (by decide +kernel)) ggX10_isSlot_X10_in
theorem dX10_isSlot_0 : decode cX10_isSlot 0 = .ok (.iload_n 0, 1) := by decide +kernel
theorem dX10_isSlot_1 : decode cX10_isSlot 1 = .ok (.iconst 0, 1) := by decide +kernel
theorem dX10_isSlot_2 : decode cX10_isSlot 2 = .ok (.bipush 9, 2) := by decide +kernel
theorem dX10_isSlot_4 : decode cX10_isSlot 4 = .ok (.invokestatic 120, 3) := by decide +kernel
theorem dX10_isSlot_7 : decode cX10_isSlot 7 = .ok (.ireturn, 1) := by decide +kernel
set_option maxRecDepth 20000 in
theorem ggX10_isColour_X10_in : GoodIn wsX10_isColour wsX10_in := goodIn_r _ [4] (by decide +kernel) (by decide +kernel)
set_option maxRecDepth 20000 in
theorem gX10_isColour_X10_in : GoodIn wsX10_isColour (va_wsS RX10 120 yX10_in wsX10_in) := goodIn_app (goodIn_of _ (by decide +kernel)) ggX10_isColour_X10_in
theorem dX10_isColour_0 : decode cX10_isColour 0 = .ok (.iload_n 0, 1) := by decide +kernel
theorem dX10_isColour_1 : decode cX10_isColour 1 = .ok (.iconst 1, 1) := by decide +kernel
theorem dX10_isColour_2 : decode cX10_isColour 2 = .ok (.iconst 3, 1) := by decide +kernel
theorem dX10_isColour_3 : decode cX10_isColour 3 = .ok (.invokestatic 120, 3) := by decide +kernel
theorem dX10_isColour_6 : decode cX10_isColour 6 = .ok (.ireturn, 1) := by decide +kernel
set_option maxRecDepth 20000 in
theorem ggX10_see_X10_isLine : GoodIn wsX10_see wsX10_isLine := goodIn_r _ [5, 6, 7, 4, 8] (by decide +kernel) (by decide +kernel)
set_option maxRecDepth 20000 in
theorem gX10_see_X10_isLine : GoodIn wsX10_see (va_wsS RX10 173 yX10_isLine wsX10_isLine) := goodIn_app (goodIn_of _ (by decide +kernel)) ggX10_see_X10_isLine
set_option maxRecDepth 20000 in
theorem ggX10_see_X10_in : GoodIn wsX10_see wsX10_in := goodIn_r _ [8] (by decide +kernel) (by decide +kernel)
set_option maxRecDepth 20000 in
theorem gX10_see_X10_in : GoodIn wsX10_see (va_wsS RX10 120 yX10_in wsX10_in) := goodIn_app (goodIn_of _ (by decide +kernel)) ggX10_see_X10_in
set_option maxRecDepth 20000 in
theorem ggX10_see_X10_isSlot : GoodIn wsX10_see wsX10_isSlot := goodIn_r _ [11, 6, 7, 4, 8] (by decide +kernel) (by decide +kernel)
set_option maxRecDepth 20000 in
theorem gX10_see_X10_isSlot : GoodIn wsX10_see (va_wsS RX10 176 yX10_isSlot wsX10_isSlot) := goodIn_app (goodIn_of _ (by decide +kernel)) ggX10_see_X10_isSlot
set_option maxRecDepth 20000 in
theorem ggX10_see_X10_meets : GoodIn wsX10_see wsX10_meets := goodIn_r _ [15, 16, 17, 18, 19, 20, 21, 22, 23, 24, 25, 26, 27, 28, 29, 30, 31, 32, 33, 34, 35, 36, 37, 38, 39, 40, 41, 42, 43, 44, 45, 46, 47, 48, 49, 50, 51, 52, 53, 54, 55, 56, 57, 58, 59, 60, 61] (by decide +kernel) (by decide +kernel)
set_option maxRecDepth 20000 in
theorem gX10_see_X10_meets : GoodIn wsX10_see (wsV RX10 131 RX10 yX10_meets wsX10_meets) := goodIn_app (goodIn_of _ (by decide +kernel)) ggX10_see_X10_meets
theorem dX10_see_0 : decode cX10_see 0 = .ok (.iload_n 1, 1) := by decide +kernel
theorem dX10_see_1 : decode cX10_see 1 = .ok (.invokestatic 173, 3) := by decide +kernel
theorem dX10_see_4 : decode cX10_see 4 = .ok (.ifCond .eq 24, 3) := by decide +kernel
theorem dX10_see_7 : decode cX10_see 7 = .ok (.iload_n 3, 1) := by decide +kernel
theorem dX10_see_8 : decode cX10_see 8 = .ok (.iconst 0, 1) := by decide +kernel
theorem dX10_see_9 : decode cX10_see 9 = .ok (.sipush 32767, 3) := by decide +kernel
theorem dX10_see_12 : decode cX10_see 12 = .ok (.invokestatic 120, 3) := by decide +kernel
theorem dX10_see_15 : decode cX10_see 15 = .ok (.ifCond .eq 13, 3) := by decide +kernel
theorem dX10_see_18 : decode cX10_see 18 = .ok (.iload 4, 2) := by decide +kernel
theorem dX10_see_20 : decode cX10_see 20 = .ok (.iconst 0, 1) := by decide +kernel
theorem dX10_see_21 : decode cX10_see 21 = .ok (.iconst 4, 1) := by decide +kernel
theorem dX10_see_22 : decode cX10_see 22 = .ok (.invokestatic 120, 3) := by decide +kernel
theorem dX10_see_25 : decode cX10_see 25 = .ok (.ifCond .ne 5, 3) := by decide +kernel
theorem dX10_see_28 : decode cX10_see 28 = .ok (.iconst (-1), 1) := by decide +kernel
theorem dX10_see_29 : decode cX10_see 29 = .ok (.ireturn, 1) := by decide +kernel
theorem dX10_see_30 : decode cX10_see 30 = .ok (.iload_n 2, 1) := by decide +kernel
theorem dX10_see_31 : decode cX10_see 31 = .ok (.invokestatic 176, 3) := by decide +kernel
theorem dX10_see_34 : decode cX10_see 34 = .ok (.ifCond .ne 9, 3) := by decide +kernel
theorem dX10_see_37 : decode cX10_see 37 = .ok (.aload_n 0, 1) := by decide +kernel
theorem dX10_see_38 : decode cX10_see 38 = .ok (.iconst 2, 1) := by decide +kernel
theorem dX10_see_39 : decode cX10_see 39 = .ok (.invokevirtual 131, 3) := by decide +kernel
theorem dX10_see_42 : decode cX10_see 42 = .ok (.ireturn, 1) := by decide +kernel
theorem dX10_see_43 : decode cX10_see 43 = .ok (.iconst 0, 1) := by decide +kernel
theorem dX10_see_44 : decode cX10_see 44 = .ok (.istore 5, 2) := by decide +kernel
theorem dX10_see_46 : decode cX10_see 46 = .ok (.iconst 0, 1) := by decide +kernel
theorem dX10_see_47 : decode cX10_see 47 = .ok (.istore 6, 2) := by decide +kernel
theorem dX10_see_49 : decode cX10_see 49 = .ok (.iload 6, 2) := by decide +kernel
theorem dX10_see_51 : decode cX10_see 51 = .ok (.bipush 15, 2) := by decide +kernel
theorem dX10_see_53 : decode cX10_see 53 = .ok (.if_icmp .ge 65, 3) := by decide +kernel
theorem dX10_see_56 : decode cX10_see 56 = .ok (.sipush 150, 3) := by decide +kernel
theorem dX10_see_59 : decode cX10_see 59 = .ok (.iload_n 1, 1) := by decide +kernel
theorem dX10_see_60 : decode cX10_see 60 = .ok (.imul, 1) := by decide +kernel
theorem dX10_see_61 : decode cX10_see 61 = .ok (.bipush 15, 2) := by decide +kernel
theorem dX10_see_63 : decode cX10_see 63 = .ok (.iload_n 2, 1) := by decide +kernel
theorem dX10_see_64 : decode cX10_see 64 = .ok (.imul, 1) := by decide +kernel
theorem dX10_see_65 : decode cX10_see 65 = .ok (.iadd, 1) := by decide +kernel
theorem dX10_see_66 : decode cX10_see 66 = .ok (.iload 6, 2) := by decide +kernel
theorem dX10_see_68 : decode cX10_see 68 = .ok (.iadd, 1) := by decide +kernel
theorem dX10_see_69 : decode cX10_see 69 = .ok (.istore 7, 2) := by decide +kernel
theorem dX10_see_71 : decode cX10_see 71 = .ok (.iload_n 3, 1) := by decide +kernel
theorem dX10_see_72 : decode cX10_see 72 = .ok (.iload 6, 2) := by decide +kernel
theorem dX10_see_74 : decode cX10_see 74 = .ok (.ishr, 1) := by decide +kernel
theorem dX10_see_75 : decode cX10_see 75 = .ok (.iconst 1, 1) := by decide +kernel
theorem dX10_see_76 : decode cX10_see 76 = .ok (.iand, 1) := by decide +kernel
theorem dX10_see_77 : decode cX10_see 77 = .ok (.iconst 1, 1) := by decide +kernel
theorem dX10_see_78 : decode cX10_see 78 = .ok (.if_icmp .ne 34, 3) := by decide +kernel
theorem dX10_see_81 : decode cX10_see 81 = .ok (.iload 5, 2) := by decide +kernel
theorem dX10_see_83 : decode cX10_see 83 = .ok (.aload_n 0, 1) := by decide +kernel
theorem dX10_see_84 : decode cX10_see 84 = .ok (.getfield 50, 3) := by decide +kernel
theorem dX10_see_87 : decode cX10_see 87 = .ok (.iload 7, 2) := by decide +kernel
theorem dX10_see_89 : decode cX10_see 89 = .ok (.iaload, 1) := by decide +kernel
theorem dX10_see_90 : decode cX10_see 90 = .ok (.iload 4, 2) := by decide +kernel
theorem dX10_see_92 : decode cX10_see 92 = .ok (.if_icmp .ne 7, 3) := by decide +kernel
theorem dX10_see_95 : decode cX10_see 95 = .ok (.iconst 0, 1) := by decide +kernel
theorem dX10_see_96 : decode cX10_see 96 = .ok (.goto 4, 3) := by decide +kernel
theorem dX10_see_99 : decode cX10_see 99 = .ok (.iconst 1, 1) := by decide +kernel
theorem dX10_see_100 : decode cX10_see 100 = .ok (.iadd, 1) := by decide +kernel
theorem dX10_see_101 : decode cX10_see 101 = .ok (.istore 5, 2) := by decide +kernel
theorem dX10_see_103 : decode cX10_see 103 = .ok (.aload_n 0, 1) := by decide +kernel
theorem dX10_see_104 : decode cX10_see 104 = .ok (.getfield 50, 3) := by decide +kernel
theorem dX10_see_107 : decode cX10_see 107 = .ok (.iload 7, 2) := by decide +kernel
theorem dX10_see_109 : decode cX10_see 109 = .ok (.iload 4, 2) := by decide +kernel
theorem dX10_see_111 : decode cX10_see 111 = .ok (.iastore, 1) := by decide +kernel
theorem dX10_see_112 : decode cX10_see 112 = .ok (.iinc 6 1, 3) := by decide +kernel
theorem dX10_see_115 : decode cX10_see 115 = .ok (.goto (-66), 3) := by decide +kernel
theorem dX10_see_118 : decode cX10_see 118 = .ok (.iload 5, 2) := by decide +kernel
theorem dX10_see_120 : decode cX10_see 120 = .ok (.ireturn, 1) := by decide +kernel
set_option maxRecDepth 20000 in
theorem ggX10_seen_X10_isLine : GoodIn wsX10_seen wsX10_isLine := goodIn_r _ [5, 6, 7, 4, 8] (by decide +kernel) (by decide +kernel)
set_option maxRecDepth 20000 in
theorem gX10_seen_X10_isLine : GoodIn wsX10_seen (va_wsS RX10 173 yX10_isLine wsX10_isLine) := goodIn_app (goodIn_of _ (by decide +kernel)) ggX10_seen_X10_isLine
set_option maxRecDepth 20000 in
theorem ggX10_seen_X10_in : GoodIn wsX10_seen wsX10_in := goodIn_r _ [8] (by decide +kernel) (by decide +kernel)
set_option maxRecDepth 20000 in
theorem gX10_seen_X10_in : GoodIn wsX10_seen (va_wsS RX10 120 yX10_in wsX10_in) := goodIn_app (goodIn_of _ (by decide +kernel)) ggX10_seen_X10_in
set_option maxRecDepth 20000 in
theorem ggX10_seen_X10_isSlot : GoodIn wsX10_seen wsX10_isSlot := goodIn_r _ [11, 6, 7, 4, 8] (by decide +kernel) (by decide +kernel)
set_option maxRecDepth 20000 in
theorem gX10_seen_X10_isSlot : GoodIn wsX10_seen (va_wsS RX10 176 yX10_isSlot wsX10_isSlot) := goodIn_app (goodIn_of _ (by decide +kernel)) ggX10_seen_X10_isSlot
set_option maxRecDepth 20000 in
theorem ggX10_seen_X10_meets : GoodIn wsX10_seen wsX10_meets := goodIn_r _ [15, 16, 17, 18, 19, 20, 21, 22, 23, 24, 25, 26, 27, 28, 29, 30, 31, 32, 33, 34, 35, 36, 37, 38, 39, 40, 41, 42, 43, 44, 45, 46, 47, 48, 49, 50, 51, 52, 53, 54, 55, 56, 57, 58, 59, 60, 61] (by decide +kernel) (by decide +kernel)
set_option maxRecDepth 20000 in
theorem gX10_seen_X10_meets : GoodIn wsX10_seen (wsV RX10 131 RX10 yX10_meets wsX10_meets) := goodIn_app (goodIn_of _ (by decide +kernel)) ggX10_seen_X10_meets
theorem dX10_seen_0 : decode cX10_seen 0 = .ok (.iload_n 1, 1) := by decide +kernel
theorem dX10_seen_1 : decode cX10_seen 1 = .ok (.invokestatic 173, 3) := by decide +kernel
theorem dX10_seen_4 : decode cX10_seen 4 = .ok (.ifCond .eq 13, 3) := by decide +kernel
theorem dX10_seen_7 : decode cX10_seen 7 = .ok (.iload_n 3, 1) := by decide +kernel
theorem dX10_seen_8 : decode cX10_seen 8 = .ok (.iconst 0, 1) := by decide +kernel
theorem dX10_seen_9 : decode cX10_seen 9 = .ok (.bipush 14, 2) := by decide +kernel
theorem dX10_seen_11 : decode cX10_seen 11 = .ok (.invokestatic 120, 3) := by decide +kernel
theorem dX10_seen_14 : decode cX10_seen 14 = .ok (.ifCond .ne 5, 3) := by decide +kernel
theorem dX10_seen_17 : decode cX10_seen 17 = .ok (.iconst (-1), 1) := by decide +kernel
theorem dX10_seen_18 : decode cX10_seen 18 = .ok (.ireturn, 1) := by decide +kernel
theorem dX10_seen_19 : decode cX10_seen 19 = .ok (.iload_n 2, 1) := by decide +kernel
theorem dX10_seen_20 : decode cX10_seen 20 = .ok (.invokestatic 176, 3) := by decide +kernel
theorem dX10_seen_23 : decode cX10_seen 23 = .ok (.ifCond .eq 23, 3) := by decide +kernel
theorem dX10_seen_26 : decode cX10_seen 26 = .ok (.aload_n 0, 1) := by decide +kernel
theorem dX10_seen_27 : decode cX10_seen 27 = .ok (.getfield 50, 3) := by decide +kernel
theorem dX10_seen_30 : decode cX10_seen 30 = .ok (.sipush 150, 3) := by decide +kernel
theorem dX10_seen_33 : decode cX10_seen 33 = .ok (.iload_n 1, 1) := by decide +kernel
theorem dX10_seen_34 : decode cX10_seen 34 = .ok (.imul, 1) := by decide +kernel
theorem dX10_seen_35 : decode cX10_seen 35 = .ok (.bipush 15, 2) := by decide +kernel
theorem dX10_seen_37 : decode cX10_seen 37 = .ok (.iload_n 2, 1) := by decide +kernel
theorem dX10_seen_38 : decode cX10_seen 38 = .ok (.imul, 1) := by decide +kernel
theorem dX10_seen_39 : decode cX10_seen 39 = .ok (.iadd, 1) := by decide +kernel
theorem dX10_seen_40 : decode cX10_seen 40 = .ok (.iload_n 3, 1) := by decide +kernel
theorem dX10_seen_41 : decode cX10_seen 41 = .ok (.iadd, 1) := by decide +kernel
theorem dX10_seen_42 : decode cX10_seen 42 = .ok (.iaload, 1) := by decide +kernel
theorem dX10_seen_43 : decode cX10_seen 43 = .ok (.goto 8, 3) := by decide +kernel
theorem dX10_seen_46 : decode cX10_seen 46 = .ok (.aload_n 0, 1) := by decide +kernel
theorem dX10_seen_47 : decode cX10_seen 47 = .ok (.iconst 2, 1) := by decide +kernel
theorem dX10_seen_48 : decode cX10_seen 48 = .ok (.invokevirtual 131, 3) := by decide +kernel
theorem dX10_seen_51 : decode cX10_seen 51 = .ok (.ireturn, 1) := by decide +kernel
set_option maxRecDepth 20000 in
theorem ggX10_has_X10_in : GoodIn wsX10_has wsX10_in := goodIn_r _ [7] (by decide +kernel) (by decide +kernel)
set_option maxRecDepth 20000 in
theorem gX10_has_X10_in : GoodIn wsX10_has (va_wsS RX10 120 yX10_in wsX10_in) := goodIn_app (goodIn_of _ (by decide +kernel)) ggX10_has_X10_in
theorem dX10_has_0 : decode cX10_has 0 = .ok (.iload_n 3, 1) := by decide +kernel
theorem dX10_has_1 : decode cX10_has 1 = .ok (.bipush 15, 2) := by decide +kernel
theorem dX10_has_3 : decode cX10_has 3 = .ok (.idiv, 1) := by decide +kernel
theorem dX10_has_4 : decode cX10_has 4 = .ok (.iload_n 2, 1) := by decide +kernel
theorem dX10_has_5 : decode cX10_has 5 = .ok (.isub, 1) := by decide +kernel
theorem dX10_has_6 : decode cX10_has 6 = .ok (.istore 4, 2) := by decide +kernel
theorem dX10_has_8 : decode cX10_has 8 = .ok (.iload 4, 2) := by decide +kernel
theorem dX10_has_10 : decode cX10_has 10 = .ok (.iconst 0, 1) := by decide +kernel
theorem dX10_has_11 : decode cX10_has 11 = .ok (.aload_n 0, 1) := by decide +kernel
theorem dX10_has_12 : decode cX10_has 12 = .ok (.getfield 28, 3) := by decide +kernel
theorem dX10_has_15 : decode cX10_has 15 = .ok (.iload_n 1, 1) := by decide +kernel
theorem dX10_has_16 : decode cX10_has 16 = .ok (.iaload, 1) := by decide +kernel
theorem dX10_has_17 : decode cX10_has 17 = .ok (.iconst 1, 1) := by decide +kernel
theorem dX10_has_18 : decode cX10_has 18 = .ok (.isub, 1) := by decide +kernel
theorem dX10_has_19 : decode cX10_has 19 = .ok (.invokestatic 120, 3) := by decide +kernel
theorem dX10_has_22 : decode cX10_has 22 = .ok (.ifCond .eq 35, 3) := by decide +kernel
theorem dX10_has_25 : decode cX10_has 25 = .ok (.aload_n 0, 1) := by decide +kernel
theorem dX10_has_26 : decode cX10_has 26 = .ok (.getfield 13, 3) := by decide +kernel
theorem dX10_has_29 : decode cX10_has 29 = .ok (.aload_n 0, 1) := by decide +kernel
theorem dX10_has_30 : decode cX10_has 30 = .ok (.getfield 31, 3) := by decide +kernel
theorem dX10_has_33 : decode cX10_has 33 = .ok (.bipush 8, 2) := by decide +kernel
theorem dX10_has_35 : decode cX10_has 35 = .ok (.iload_n 1, 1) := by decide +kernel
theorem dX10_has_36 : decode cX10_has 36 = .ok (.imul, 1) := by decide +kernel
theorem dX10_has_37 : decode cX10_has 37 = .ok (.iload 4, 2) := by decide +kernel
theorem dX10_has_39 : decode cX10_has 39 = .ok (.iadd, 1) := by decide +kernel
theorem dX10_has_40 : decode cX10_has 40 = .ok (.iaload, 1) := by decide +kernel
theorem dX10_has_41 : decode cX10_has 41 = .ok (.iaload, 1) := by decide +kernel
theorem dX10_has_42 : decode cX10_has 42 = .ok (.iload_n 3, 1) := by decide +kernel
theorem dX10_has_43 : decode cX10_has 43 = .ok (.bipush 15, 2) := by decide +kernel
theorem dX10_has_45 : decode cX10_has 45 = .ok (.irem, 1) := by decide +kernel
theorem dX10_has_46 : decode cX10_has 46 = .ok (.ishr, 1) := by decide +kernel
theorem dX10_has_47 : decode cX10_has 47 = .ok (.iconst 1, 1) := by decide +kernel
theorem dX10_has_48 : decode cX10_has 48 = .ok (.iand, 1) := by decide +kernel
theorem dX10_has_49 : decode cX10_has 49 = .ok (.iconst 1, 1) := by decide +kernel
theorem dX10_has_50 : decode cX10_has 50 = .ok (.if_icmp .ne 7, 3) := by decide +kernel
theorem dX10_has_53 : decode cX10_has 53 = .ok (.iconst 1, 1) := by decide +kernel
theorem dX10_has_54 : decode cX10_has 54 = .ok (.goto 4, 3) := by decide +kernel
theorem dX10_has_57 : decode cX10_has 57 = .ok (.iconst 0, 1) := by decide +kernel
theorem dX10_has_58 : decode cX10_has 58 = .ok (.ireturn, 1) := by decide +kernel
theorem dX10_isOn_0 : decode cX10_isOn 0 = .ok (.iload_n 2, 1) := by decide +kernel
theorem dX10_isOn_1 : decode cX10_isOn 1 = .ok (.ifCond .lt 20, 3) := by decide +kernel
theorem dX10_isOn_4 : decode cX10_isOn 4 = .ok (.iload_n 2, 1) := by decide +kernel
theorem dX10_isOn_5 : decode cX10_isOn 5 = .ok (.bipush 10, 2) := by decide +kernel
theorem dX10_isOn_7 : decode cX10_isOn 7 = .ok (.aload_n 0, 1) := by decide +kernel
theorem dX10_isOn_8 : decode cX10_isOn 8 = .ok (.getfield 28, 3) := by decide +kernel
theorem dX10_isOn_11 : decode cX10_isOn 11 = .ok (.iload_n 1, 1) := by decide +kernel
theorem dX10_isOn_12 : decode cX10_isOn 12 = .ok (.iaload, 1) := by decide +kernel
theorem dX10_isOn_13 : decode cX10_isOn 13 = .ok (.isub, 1) := by decide +kernel
theorem dX10_isOn_14 : decode cX10_isOn 14 = .ok (.if_icmp .gt 7, 3) := by decide +kernel
theorem dX10_isOn_17 : decode cX10_isOn 17 = .ok (.iconst 1, 1) := by decide +kernel
theorem dX10_isOn_18 : decode cX10_isOn 18 = .ok (.goto 4, 3) := by decide +kernel
theorem dX10_isOn_21 : decode cX10_isOn 21 = .ok (.iconst 0, 1) := by decide +kernel
theorem dX10_isOn_22 : decode cX10_isOn 22 = .ok (.ireturn, 1) := by decide +kernel
set_option maxRecDepth 20000 in
theorem ggX10_lackOf_X10_has : GoodIn wsX10_lackOf wsX10_has := goodIn_r _ [6, 7, 8, 9, 10, 11, 5, 12, 13, 14, 15, 16, 17, 18, 19, 20, 21, 22, 23, 24, 25, 26, 27, 28, 29, 30, 31, 32, 33, 34, 35, 36, 37, 38, 39, 40, 41, 42, 43, 44, 45, 46, 47, 48, 49, 50, 51, 52, 53, 54, 55, 56] (by decide +kernel) (by decide +kernel)
set_option maxRecDepth 20000 in
theorem gX10_lackOf_X10_has : GoodIn wsX10_lackOf (wsV RX10 179 RX10 yX10_has wsX10_has) := goodIn_app (goodIn_of _ (by decide +kernel)) ggX10_lackOf_X10_has
theorem dX10_lackOf_0 : decode cX10_lackOf 0 = .ok (.iconst 0, 1) := by decide +kernel
theorem dX10_lackOf_1 : decode cX10_lackOf 1 = .ok (.istore 5, 2) := by decide +kernel
theorem dX10_lackOf_3 : decode cX10_lackOf 3 = .ok (.iconst 0, 1) := by decide +kernel
theorem dX10_lackOf_4 : decode cX10_lackOf 4 = .ok (.istore 6, 2) := by decide +kernel
theorem dX10_lackOf_6 : decode cX10_lackOf 6 = .ok (.iload 6, 2) := by decide +kernel
theorem dX10_lackOf_8 : decode cX10_lackOf 8 = .ok (.sipush 150, 3) := by decide +kernel
theorem dX10_lackOf_11 : decode cX10_lackOf 11 = .ok (.if_icmp .ge 77, 3) := by decide +kernel
theorem dX10_lackOf_14 : decode cX10_lackOf 14 = .ok (.aload_n 0, 1) := by decide +kernel
theorem dX10_lackOf_15 : decode cX10_lackOf 15 = .ok (.getfield 50, 3) := by decide +kernel
theorem dX10_lackOf_18 : decode cX10_lackOf 18 = .ok (.sipush 150, 3) := by decide +kernel
theorem dX10_lackOf_21 : decode cX10_lackOf 21 = .ok (.iload_n 1, 1) := by decide +kernel
theorem dX10_lackOf_22 : decode cX10_lackOf 22 = .ok (.imul, 1) := by decide +kernel
theorem dX10_lackOf_23 : decode cX10_lackOf 23 = .ok (.iload 6, 2) := by decide +kernel
theorem dX10_lackOf_25 : decode cX10_lackOf 25 = .ok (.iadd, 1) := by decide +kernel
theorem dX10_lackOf_26 : decode cX10_lackOf 26 = .ok (.iaload, 1) := by decide +kernel
theorem dX10_lackOf_27 : decode cX10_lackOf 27 = .ok (.istore 7, 2) := by decide +kernel
theorem dX10_lackOf_29 : decode cX10_lackOf 29 = .ok (.aload_n 0, 1) := by decide +kernel
theorem dX10_lackOf_30 : decode cX10_lackOf 30 = .ok (.iload_n 2, 1) := by decide +kernel
theorem dX10_lackOf_31 : decode cX10_lackOf 31 = .ok (.iload_n 3, 1) := by decide +kernel
theorem dX10_lackOf_32 : decode cX10_lackOf 32 = .ok (.iload 6, 2) := by decide +kernel
theorem dX10_lackOf_34 : decode cX10_lackOf 34 = .ok (.invokevirtual 179, 3) := by decide +kernel
theorem dX10_lackOf_37 : decode cX10_lackOf 37 = .ok (.istore 8, 2) := by decide +kernel
theorem dX10_lackOf_39 : decode cX10_lackOf 39 = .ok (.iload 7, 2) := by decide +kernel
theorem dX10_lackOf_41 : decode cX10_lackOf 41 = .ok (.iload 4, 2) := by decide +kernel
theorem dX10_lackOf_43 : decode cX10_lackOf 43 = .ok (.if_icmp .ne 11, 3) := by decide +kernel
theorem dX10_lackOf_46 : decode cX10_lackOf 46 = .ok (.iload 8, 2) := by decide +kernel
theorem dX10_lackOf_48 : decode cX10_lackOf 48 = .ok (.ifCond .ne 6, 3) := by decide +kernel
theorem dX10_lackOf_51 : decode cX10_lackOf 51 = .ok (.bipush (-9), 2) := by decide +kernel
theorem dX10_lackOf_53 : decode cX10_lackOf 53 = .ok (.ireturn, 1) := by decide +kernel
theorem dX10_lackOf_54 : decode cX10_lackOf 54 = .ok (.iload 5, 2) := by decide +kernel
theorem dX10_lackOf_56 : decode cX10_lackOf 56 = .ok (.iload 8, 2) := by decide +kernel
theorem dX10_lackOf_58 : decode cX10_lackOf 58 = .ok (.ifCond .eq 20, 3) := by decide +kernel
theorem dX10_lackOf_61 : decode cX10_lackOf 61 = .ok (.iload 7, 2) := by decide +kernel
theorem dX10_lackOf_63 : decode cX10_lackOf 63 = .ok (.iconst 4, 1) := by decide +kernel
theorem dX10_lackOf_64 : decode cX10_lackOf 64 = .ok (.if_icmp .eq 14, 3) := by decide +kernel
theorem dX10_lackOf_67 : decode cX10_lackOf 67 = .ok (.iload 7, 2) := by decide +kernel
theorem dX10_lackOf_69 : decode cX10_lackOf 69 = .ok (.iload 4, 2) := by decide +kernel
theorem dX10_lackOf_71 : decode cX10_lackOf 71 = .ok (.if_icmp .eq 7, 3) := by decide +kernel
theorem dX10_lackOf_74 : decode cX10_lackOf 74 = .ok (.iconst 1, 1) := by decide +kernel
theorem dX10_lackOf_75 : decode cX10_lackOf 75 = .ok (.goto 4, 3) := by decide +kernel
theorem dX10_lackOf_78 : decode cX10_lackOf 78 = .ok (.iconst 0, 1) := by decide +kernel
theorem dX10_lackOf_79 : decode cX10_lackOf 79 = .ok (.iadd, 1) := by decide +kernel
theorem dX10_lackOf_80 : decode cX10_lackOf 80 = .ok (.istore 5, 2) := by decide +kernel
theorem dX10_lackOf_82 : decode cX10_lackOf 82 = .ok (.iinc 6 1, 3) := by decide +kernel
theorem dX10_lackOf_85 : decode cX10_lackOf 85 = .ok (.goto (-79), 3) := by decide +kernel
theorem dX10_lackOf_88 : decode cX10_lackOf 88 = .ok (.iload 5, 2) := by decide +kernel
theorem dX10_lackOf_90 : decode cX10_lackOf 90 = .ok (.ireturn, 1) := by decide +kernel
set_option maxRecDepth 20000 in
theorem ggX10_lack_X10_isLine : GoodIn wsX10_lack wsX10_isLine := goodIn_r _ [4, 5, 6, 3, 7] (by decide +kernel) (by decide +kernel)
set_option maxRecDepth 20000 in
theorem gX10_lack_X10_isLine : GoodIn wsX10_lack (va_wsS RX10 173 yX10_isLine wsX10_isLine) := goodIn_app (goodIn_of _ (by decide +kernel)) ggX10_lack_X10_isLine
set_option maxRecDepth 20000 in
theorem ggX10_lack_X10_isColour : GoodIn wsX10_lack wsX10_isColour := goodIn_r _ [10, 5, 6, 3, 7] (by decide +kernel) (by decide +kernel)
set_option maxRecDepth 20000 in
theorem gX10_lack_X10_isColour : GoodIn wsX10_lack (va_wsS RX10 182 yX10_isColour wsX10_isColour) := goodIn_app (goodIn_of _ (by decide +kernel)) ggX10_lack_X10_isColour
set_option maxRecDepth 20000 in
theorem ggX10_lack_X10_askedFor : GoodIn wsX10_lack wsX10_askedFor := goodIn_r _ [14, 15, 16, 17, 18, 3, 19, 20, 5, 6, 7, 21, 22, 23, 24, 25, 26, 43, 44, 45, 46, 47, 48, 49, 50, 51, 52, 53, 54, 55, 56, 57, 58, 59, 60, 61, 62, 63, 64, 65, 66, 67, 68, 69, 70, 71, 72, 73, 74, 75, 76, 77, 78, 79, 80, 81, 82, 83, 84, 85, 86] (by decide +kernel) (by decide +kernel)
set_option maxRecDepth 20000 in
theorem gX10_lack_X10_askedFor : GoodIn wsX10_lack (wsV RX10 160 RX10 yX10_askedFor wsX10_askedFor) := goodIn_app (goodIn_of _ (by decide +kernel)) ggX10_lack_X10_askedFor
set_option maxRecDepth 20000 in
theorem ggX10_lack_X10_isOn : GoodIn wsX10_lack wsX10_isOn := goodIn_r _ [30, 31, 43, 44, 45, 46, 47, 48, 49, 50, 51, 52, 53, 54, 55, 56, 57, 58, 59, 60, 61, 62, 63, 64, 65, 66, 67, 68, 69, 70, 71, 72, 73, 74, 75, 76, 77, 78, 79, 80, 81, 82, 83, 84, 85, 86] (by decide +kernel) (by decide +kernel)
set_option maxRecDepth 20000 in
theorem gX10_lack_X10_isOn : GoodIn wsX10_lack (wsV RX10 185 RX10 yX10_isOn wsX10_isOn) := goodIn_app (goodIn_of _ (by decide +kernel)) ggX10_lack_X10_isOn
set_option maxRecDepth 20000 in
theorem ggX10_lack_X10_lackOf : GoodIn wsX10_lack wsX10_lackOf := goodIn_r _ [35, 36, 37, 38, 39, 3, 40, 31, 41, 42, 5, 6, 7, 43, 44, 45, 46, 47, 48, 49, 50, 51, 52, 53, 54, 55, 56, 57, 58, 59, 60, 61, 62, 63, 64, 65, 66, 67, 68, 69, 70, 71, 72, 73, 74, 75, 76, 77, 78, 79, 80, 81, 82, 83, 84, 85, 86] (by decide +kernel) (by decide +kernel)
set_option maxRecDepth 20000 in
theorem gX10_lack_X10_lackOf : GoodIn wsX10_lack (wsV RX10 189 RX10 yX10_lackOf wsX10_lackOf) := goodIn_app (goodIn_of _ (by decide +kernel)) ggX10_lack_X10_lackOf
set_option maxRecDepth 20000 in
theorem ggX10_lack_X10_meets : GoodIn wsX10_lack wsX10_meets := goodIn_r _ [24, 25, 26, 43, 44, 45, 46, 47, 48, 49, 50, 51, 52, 53, 54, 55, 56, 57, 58, 59, 60, 61, 62, 63, 64, 65, 66, 67, 68, 69, 70, 71, 72, 73, 74, 75, 76, 77, 78, 79, 80, 81, 82, 83, 84, 85, 86] (by decide +kernel) (by decide +kernel)
set_option maxRecDepth 20000 in
theorem gX10_lack_X10_meets : GoodIn wsX10_lack (wsV RX10 131 RX10 yX10_meets wsX10_meets) := goodIn_app (goodIn_of _ (by decide +kernel)) ggX10_lack_X10_meets
theorem dX10_lack_0 : decode cX10_lack 0 = .ok (.iload_n 1, 1) := by decide +kernel
theorem dX10_lack_1 : decode cX10_lack 1 = .ok (.invokestatic 173, 3) := by decide +kernel
theorem dX10_lack_4 : decode cX10_lack 4 = .ok (.ifCond .eq 11, 3) := by decide +kernel
theorem dX10_lack_7 : decode cX10_lack 7 = .ok (.iload 4, 2) := by decide +kernel
theorem dX10_lack_9 : decode cX10_lack 9 = .ok (.invokestatic 182, 3) := by decide +kernel
theorem dX10_lack_12 : decode cX10_lack 12 = .ok (.ifCond .ne 5, 3) := by decide +kernel
theorem dX10_lack_15 : decode cX10_lack 15 = .ok (.iconst (-1), 1) := by decide +kernel
theorem dX10_lack_16 : decode cX10_lack 16 = .ok (.ireturn, 1) := by decide +kernel
theorem dX10_lack_17 : decode cX10_lack 17 = .ok (.aload_n 0, 1) := by decide +kernel
theorem dX10_lack_18 : decode cX10_lack 18 = .ok (.iload_n 2, 1) := by decide +kernel
theorem dX10_lack_19 : decode cX10_lack 19 = .ok (.invokevirtual 160, 3) := by decide +kernel
theorem dX10_lack_22 : decode cX10_lack 22 = .ok (.istore 5, 2) := by decide +kernel
theorem dX10_lack_24 : decode cX10_lack 24 = .ok (.iload 5, 2) := by decide +kernel
theorem dX10_lack_26 : decode cX10_lack 26 = .ok (.ifCond .ge 6, 3) := by decide +kernel
theorem dX10_lack_29 : decode cX10_lack 29 = .ok (.iload 5, 2) := by decide +kernel
theorem dX10_lack_31 : decode cX10_lack 31 = .ok (.ireturn, 1) := by decide +kernel
theorem dX10_lack_32 : decode cX10_lack 32 = .ok (.aload_n 0, 1) := by decide +kernel
theorem dX10_lack_33 : decode cX10_lack 33 = .ok (.iload_n 2, 1) := by decide +kernel
theorem dX10_lack_34 : decode cX10_lack 34 = .ok (.iload_n 3, 1) := by decide +kernel
theorem dX10_lack_35 : decode cX10_lack 35 = .ok (.invokevirtual 185, 3) := by decide +kernel
theorem dX10_lack_38 : decode cX10_lack 38 = .ok (.ifCond .eq 15, 3) := by decide +kernel
theorem dX10_lack_41 : decode cX10_lack 41 = .ok (.aload_n 0, 1) := by decide +kernel
theorem dX10_lack_42 : decode cX10_lack 42 = .ok (.iload_n 1, 1) := by decide +kernel
theorem dX10_lack_43 : decode cX10_lack 43 = .ok (.iload_n 2, 1) := by decide +kernel
theorem dX10_lack_44 : decode cX10_lack 44 = .ok (.iload_n 3, 1) := by decide +kernel
theorem dX10_lack_45 : decode cX10_lack 45 = .ok (.iload 4, 2) := by decide +kernel
theorem dX10_lack_47 : decode cX10_lack 47 = .ok (.invokevirtual 189, 3) := by decide +kernel
theorem dX10_lack_50 : decode cX10_lack 50 = .ok (.goto 8, 3) := by decide +kernel
theorem dX10_lack_53 : decode cX10_lack 53 = .ok (.aload_n 0, 1) := by decide +kernel
theorem dX10_lack_54 : decode cX10_lack 54 = .ok (.iconst 2, 1) := by decide +kernel
theorem dX10_lack_55 : decode cX10_lack 55 = .ok (.invokevirtual 131, 3) := by decide +kernel
theorem dX10_lack_58 : decode cX10_lack 58 = .ok (.ireturn, 1) := by decide +kernel
set_option maxRecDepth 20000 in
theorem ggX10_setRivals_X10_isOn : GoodIn wsX10_setRivals wsX10_isOn := goodIn_r _ [9, 10, 25, 26, 27, 28, 29, 30, 31, 32, 33, 34, 35, 36, 37, 38, 39, 40, 41, 42, 43, 44, 45, 46, 47, 48, 49, 50, 51, 52, 53, 54, 55, 56, 57, 58, 59, 60, 61, 62, 63, 64, 65, 66, 67, 68] (by decide +kernel) (by decide +kernel)
set_option maxRecDepth 20000 in
theorem gX10_setRivals_X10_isOn : GoodIn wsX10_setRivals (wsV RX10 185 RX10 yX10_isOn wsX10_isOn) := goodIn_app (goodIn_of _ (by decide +kernel)) ggX10_setRivals_X10_isOn
set_option maxRecDepth 20000 in
theorem ggX10_setRivals_X10_lackOf : GoodIn wsX10_setRivals wsX10_lackOf := goodIn_r _ [14, 15, 16, 17, 18, 8, 19, 10, 20, 21, 22, 23, 24, 25, 26, 27, 28, 29, 30, 31, 32, 33, 34, 35, 36, 37, 38, 39, 40, 41, 42, 43, 44, 45, 46, 47, 48, 49, 50, 51, 52, 53, 54, 55, 56, 57, 58, 59, 60, 61, 62, 63, 64, 65, 66, 67, 68] (by decide +kernel) (by decide +kernel)
set_option maxRecDepth 20000 in
theorem gX10_setRivals_X10_lackOf : GoodIn wsX10_setRivals (wsV RX10 189 RX10 yX10_lackOf wsX10_lackOf) := goodIn_app (goodIn_of _ (by decide +kernel)) ggX10_setRivals_X10_lackOf
theorem dX10_setRivals_0 : decode cX10_setRivals 0 = .ok (.bipush (-9), 2) := by decide +kernel
theorem dX10_setRivals_2 : decode cX10_setRivals 2 = .ok (.istore_n 3, 1) := by decide +kernel
theorem dX10_setRivals_3 : decode cX10_setRivals 3 = .ok (.aload_n 0, 1) := by decide +kernel
theorem dX10_setRivals_4 : decode cX10_setRivals 4 = .ok (.iconst 0, 1) := by decide +kernel
theorem dX10_setRivals_5 : decode cX10_setRivals 5 = .ok (.putfield 193, 3) := by decide +kernel
theorem dX10_setRivals_8 : decode cX10_setRivals 8 = .ok (.iconst 0, 1) := by decide +kernel
theorem dX10_setRivals_9 : decode cX10_setRivals 9 = .ok (.istore 4, 2) := by decide +kernel
theorem dX10_setRivals_11 : decode cX10_setRivals 11 = .ok (.iload 4, 2) := by decide +kernel
theorem dX10_setRivals_13 : decode cX10_setRivals 13 = .ok (.aload_n 0, 1) := by decide +kernel
theorem dX10_setRivals_14 : decode cX10_setRivals 14 = .ok (.getfield 141, 3) := by decide +kernel
theorem dX10_setRivals_17 : decode cX10_setRivals 17 = .ok (.if_icmp .ge 130, 3) := by decide +kernel
theorem dX10_setRivals_20 : decode cX10_setRivals 20 = .ok (.iconst 0, 1) := by decide +kernel
theorem dX10_setRivals_21 : decode cX10_setRivals 21 = .ok (.istore 5, 2) := by decide +kernel
theorem dX10_setRivals_23 : decode cX10_setRivals 23 = .ok (.iload 5, 2) := by decide +kernel
theorem dX10_setRivals_25 : decode cX10_setRivals 25 = .ok (.bipush 10, 2) := by decide +kernel
theorem dX10_setRivals_27 : decode cX10_setRivals 27 = .ok (.if_icmp .ge 114, 3) := by decide +kernel
theorem dX10_setRivals_30 : decode cX10_setRivals 30 = .ok (.aload_n 0, 1) := by decide +kernel
theorem dX10_setRivals_31 : decode cX10_setRivals 31 = .ok (.getfield 34, 3) := by decide +kernel
theorem dX10_setRivals_34 : decode cX10_setRivals 34 = .ok (.iload 4, 2) := by decide +kernel
theorem dX10_setRivals_36 : decode cX10_setRivals 36 = .ok (.baload, 1) := by decide +kernel
theorem dX10_setRivals_37 : decode cX10_setRivals 37 = .ok (.ifCond .ne 104, 3) := by decide +kernel
theorem dX10_setRivals_40 : decode cX10_setRivals 40 = .ok (.aload_n 0, 1) := by decide +kernel
theorem dX10_setRivals_41 : decode cX10_setRivals 41 = .ok (.iload 4, 2) := by decide +kernel
theorem dX10_setRivals_43 : decode cX10_setRivals 43 = .ok (.iload 5, 2) := by decide +kernel
theorem dX10_setRivals_45 : decode cX10_setRivals 45 = .ok (.invokevirtual 185, 3) := by decide +kernel
theorem dX10_setRivals_48 : decode cX10_setRivals 48 = .ok (.ifCond .eq 16, 3) := by decide +kernel
theorem dX10_setRivals_51 : decode cX10_setRivals 51 = .ok (.aload_n 0, 1) := by decide +kernel
theorem dX10_setRivals_52 : decode cX10_setRivals 52 = .ok (.iload_n 1, 1) := by decide +kernel
theorem dX10_setRivals_53 : decode cX10_setRivals 53 = .ok (.iload 4, 2) := by decide +kernel
theorem dX10_setRivals_55 : decode cX10_setRivals 55 = .ok (.iload 5, 2) := by decide +kernel
theorem dX10_setRivals_57 : decode cX10_setRivals 57 = .ok (.iload_n 2, 1) := by decide +kernel
theorem dX10_setRivals_58 : decode cX10_setRivals 58 = .ok (.invokevirtual 189, 3) := by decide +kernel
theorem dX10_setRivals_61 : decode cX10_setRivals 61 = .ok (.goto 5, 3) := by decide +kernel
theorem dX10_setRivals_64 : decode cX10_setRivals 64 = .ok (.bipush (-9), 2) := by decide +kernel
theorem dX10_setRivals_66 : decode cX10_setRivals 66 = .ok (.istore 6, 2) := by decide +kernel
theorem dX10_setRivals_68 : decode cX10_setRivals 68 = .ok (.iload 6, 2) := by decide +kernel
theorem dX10_setRivals_70 : decode cX10_setRivals 70 = .ok (.bipush (-9), 2) := by decide +kernel
theorem dX10_setRivals_72 : decode cX10_setRivals 72 = .ok (.if_icmp .eq 63, 3) := by decide +kernel
theorem dX10_setRivals_75 : decode cX10_setRivals 75 = .ok (.iload_n 3, 1) := by decide +kernel
theorem dX10_setRivals_76 : decode cX10_setRivals 76 = .ok (.bipush (-9), 2) := by decide +kernel
theorem dX10_setRivals_78 : decode cX10_setRivals 78 = .ok (.if_icmp .eq 9, 3) := by decide +kernel
theorem dX10_setRivals_81 : decode cX10_setRivals 81 = .ok (.iload 6, 2) := by decide +kernel
theorem dX10_setRivals_83 : decode cX10_setRivals 83 = .ok (.iload_n 3, 1) := by decide +kernel
theorem dX10_setRivals_84 : decode cX10_setRivals 84 = .ok (.if_icmp .gt 51, 3) := by decide +kernel
theorem dX10_setRivals_87 : decode cX10_setRivals 87 = .ok (.aload_n 0, 1) := by decide +kernel
theorem dX10_setRivals_88 : decode cX10_setRivals 88 = .ok (.iload 6, 2) := by decide +kernel
theorem dX10_setRivals_90 : decode cX10_setRivals 90 = .ok (.iload_n 3, 1) := by decide +kernel
theorem dX10_setRivals_91 : decode cX10_setRivals 91 = .ok (.if_icmp .ne 10, 3) := by decide +kernel
theorem dX10_setRivals_94 : decode cX10_setRivals 94 = .ok (.aload_n 0, 1) := by decide +kernel
theorem dX10_setRivals_95 : decode cX10_setRivals 95 = .ok (.getfield 193, 3) := by decide +kernel
theorem dX10_setRivals_98 : decode cX10_setRivals 98 = .ok (.goto 4, 3) := by decide +kernel
theorem dX10_setRivals_101 : decode cX10_setRivals 101 = .ok (.iconst 0, 1) := by decide +kernel
theorem dX10_setRivals_102 : decode cX10_setRivals 102 = .ok (.putfield 193, 3) := by decide +kernel
theorem dX10_setRivals_105 : decode cX10_setRivals 105 = .ok (.iload 6, 2) := by decide +kernel
theorem dX10_setRivals_107 : decode cX10_setRivals 107 = .ok (.istore_n 3, 1) := by decide +kernel
theorem dX10_setRivals_108 : decode cX10_setRivals 108 = .ok (.aload_n 0, 1) := by decide +kernel
theorem dX10_setRivals_109 : decode cX10_setRivals 109 = .ok (.getfield 53, 3) := by decide +kernel
theorem dX10_setRivals_112 : decode cX10_setRivals 112 = .ok (.aload_n 0, 1) := by decide +kernel
theorem dX10_setRivals_113 : decode cX10_setRivals 113 = .ok (.getfield 193, 3) := by decide +kernel
theorem dX10_setRivals_116 : decode cX10_setRivals 116 = .ok (.bipush 10, 2) := by decide +kernel
theorem dX10_setRivals_118 : decode cX10_setRivals 118 = .ok (.iload 4, 2) := by decide +kernel
theorem dX10_setRivals_120 : decode cX10_setRivals 120 = .ok (.imul, 1) := by decide +kernel
theorem dX10_setRivals_121 : decode cX10_setRivals 121 = .ok (.iload 5, 2) := by decide +kernel
theorem dX10_setRivals_123 : decode cX10_setRivals 123 = .ok (.iadd, 1) := by decide +kernel
theorem dX10_setRivals_124 : decode cX10_setRivals 124 = .ok (.iastore, 1) := by decide +kernel
theorem dX10_setRivals_125 : decode cX10_setRivals 125 = .ok (.aload_n 0, 1) := by decide +kernel
theorem dX10_setRivals_126 : decode cX10_setRivals 126 = .ok (.dup, 1) := by decide +kernel
theorem dX10_setRivals_127 : decode cX10_setRivals 127 = .ok (.getfield 193, 3) := by decide +kernel
theorem dX10_setRivals_130 : decode cX10_setRivals 130 = .ok (.iconst 1, 1) := by decide +kernel
theorem dX10_setRivals_131 : decode cX10_setRivals 131 = .ok (.iadd, 1) := by decide +kernel
theorem dX10_setRivals_132 : decode cX10_setRivals 132 = .ok (.putfield 193, 3) := by decide +kernel
theorem dX10_setRivals_135 : decode cX10_setRivals 135 = .ok (.iinc 5 1, 3) := by decide +kernel
theorem dX10_setRivals_138 : decode cX10_setRivals 138 = .ok (.goto (-115), 3) := by decide +kernel
theorem dX10_setRivals_141 : decode cX10_setRivals 141 = .ok (.iinc 4 1, 3) := by decide +kernel
theorem dX10_setRivals_144 : decode cX10_setRivals 144 = .ok (.goto (-133), 3) := by decide +kernel
theorem dX10_setRivals_147 : decode cX10_setRivals 147 = .ok (.return_, 1) := by decide +kernel
set_option maxRecDepth 20000 in
theorem ggX10_reading_X10_isLine : GoodIn wsX10_reading wsX10_isLine := goodIn_r _ [7, 8, 9, 6, 10] (by decide +kernel) (by decide +kernel)
set_option maxRecDepth 20000 in
theorem gX10_reading_X10_isLine : GoodIn wsX10_reading (va_wsS RX10 173 yX10_isLine wsX10_isLine) := goodIn_app (goodIn_of _ (by decide +kernel)) ggX10_reading_X10_isLine
set_option maxRecDepth 20000 in
theorem ggX10_reading_X10_isColour : GoodIn wsX10_reading wsX10_isColour := goodIn_r _ [13, 8, 9, 6, 10] (by decide +kernel) (by decide +kernel)
set_option maxRecDepth 20000 in
theorem gX10_reading_X10_isColour : GoodIn wsX10_reading (va_wsS RX10 182 yX10_isColour wsX10_isColour) := goodIn_app (goodIn_of _ (by decide +kernel)) ggX10_reading_X10_isColour
set_option maxRecDepth 20000 in
theorem ggX10_reading_X10_setRivals : GoodIn wsX10_reading wsX10_setRivals := goodIn_r _ [17, 1, 18, 19, 2, 20, 21, 22, 6, 23, 24, 25, 26, 27, 28, 29, 30, 31, 32, 33, 34, 35, 8, 9, 10, 36, 37, 38, 39, 40, 41, 42, 43, 44, 45, 46, 47, 48, 49, 50, 51, 52, 53, 54, 55, 56, 57, 58, 59, 60, 61, 62, 63, 64, 65, 66, 67, 68, 69, 70, 71, 72, 73, 74, 75, 76, 77, 78, 79] (by decide +kernel) (by decide +kernel)
set_option maxRecDepth 20000 in
theorem gX10_reading_X10_setRivals : GoodIn wsX10_reading (wsV RX10 196 RX10 yX10_setRivals wsX10_setRivals) := goodIn_app (goodIn_of _ (by decide +kernel)) ggX10_reading_X10_setRivals
theorem dX10_reading_0 : decode cX10_reading 0 = .ok (.iload_n 1, 1) := by decide +kernel
theorem dX10_reading_1 : decode cX10_reading 1 = .ok (.invokestatic 173, 3) := by decide +kernel
theorem dX10_reading_4 : decode cX10_reading 4 = .ok (.ifCond .eq 10, 3) := by decide +kernel
theorem dX10_reading_7 : decode cX10_reading 7 = .ok (.iload_n 2, 1) := by decide +kernel
theorem dX10_reading_8 : decode cX10_reading 8 = .ok (.invokestatic 182, 3) := by decide +kernel
theorem dX10_reading_11 : decode cX10_reading 11 = .ok (.ifCond .ne 5, 3) := by decide +kernel
theorem dX10_reading_14 : decode cX10_reading 14 = .ok (.iconst (-1), 1) := by decide +kernel
theorem dX10_reading_15 : decode cX10_reading 15 = .ok (.ireturn, 1) := by decide +kernel
theorem dX10_reading_16 : decode cX10_reading 16 = .ok (.aload_n 0, 1) := by decide +kernel
theorem dX10_reading_17 : decode cX10_reading 17 = .ok (.iload_n 1, 1) := by decide +kernel
theorem dX10_reading_18 : decode cX10_reading 18 = .ok (.iload_n 2, 1) := by decide +kernel
theorem dX10_reading_19 : decode cX10_reading 19 = .ok (.invokevirtual 196, 3) := by decide +kernel
theorem dX10_reading_22 : decode cX10_reading 22 = .ok (.aload_n 0, 1) := by decide +kernel
theorem dX10_reading_23 : decode cX10_reading 23 = .ok (.getfield 193, 3) := by decide +kernel
theorem dX10_reading_26 : decode cX10_reading 26 = .ok (.ifCond .ne 6, 3) := by decide +kernel
theorem dX10_reading_29 : decode cX10_reading 29 = .ok (.bipush (-9), 2) := by decide +kernel
theorem dX10_reading_31 : decode cX10_reading 31 = .ok (.ireturn, 1) := by decide +kernel
theorem dX10_reading_32 : decode cX10_reading 32 = .ok (.aload_n 0, 1) := by decide +kernel
theorem dX10_reading_33 : decode cX10_reading 33 = .ok (.aload_n 0, 1) := by decide +kernel
theorem dX10_reading_34 : decode cX10_reading 34 = .ok (.getfield 53, 3) := by decide +kernel
theorem dX10_reading_37 : decode cX10_reading 37 = .ok (.iconst 0, 1) := by decide +kernel
theorem dX10_reading_38 : decode cX10_reading 38 = .ok (.iaload, 1) := by decide +kernel
theorem dX10_reading_39 : decode cX10_reading 39 = .ok (.bipush 10, 2) := by decide +kernel
theorem dX10_reading_41 : decode cX10_reading 41 = .ok (.irem, 1) := by decide +kernel
theorem dX10_reading_42 : decode cX10_reading 42 = .ok (.putfield 200, 3) := by decide +kernel
theorem dX10_reading_45 : decode cX10_reading 45 = .ok (.aload_n 0, 1) := by decide +kernel
theorem dX10_reading_46 : decode cX10_reading 46 = .ok (.getfield 53, 3) := by decide +kernel
theorem dX10_reading_49 : decode cX10_reading 49 = .ok (.iconst 0, 1) := by decide +kernel
theorem dX10_reading_50 : decode cX10_reading 50 = .ok (.iaload, 1) := by decide +kernel
theorem dX10_reading_51 : decode cX10_reading 51 = .ok (.bipush 10, 2) := by decide +kernel
theorem dX10_reading_53 : decode cX10_reading 53 = .ok (.idiv, 1) := by decide +kernel
theorem dX10_reading_54 : decode cX10_reading 54 = .ok (.ireturn, 1) := by decide +kernel
set_option maxRecDepth 20000 in
theorem ggX10_rivals_X10_isLine : GoodIn wsX10_rivals wsX10_isLine := goodIn_r _ [5, 6, 7, 4, 8] (by decide +kernel) (by decide +kernel)
set_option maxRecDepth 20000 in
theorem gX10_rivals_X10_isLine : GoodIn wsX10_rivals (va_wsS RX10 173 yX10_isLine wsX10_isLine) := goodIn_app (goodIn_of _ (by decide +kernel)) ggX10_rivals_X10_isLine
set_option maxRecDepth 20000 in
theorem ggX10_rivals_X10_isColour : GoodIn wsX10_rivals wsX10_isColour := goodIn_r _ [11, 6, 7, 4, 8] (by decide +kernel) (by decide +kernel)
set_option maxRecDepth 20000 in
theorem gX10_rivals_X10_isColour : GoodIn wsX10_rivals (va_wsS RX10 182 yX10_isColour wsX10_isColour) := goodIn_app (goodIn_of _ (by decide +kernel)) ggX10_rivals_X10_isColour
set_option maxRecDepth 20000 in
theorem ggX10_rivals_X10_setRivals : GoodIn wsX10_rivals wsX10_setRivals := goodIn_r _ [15, 1, 16, 17, 18, 19, 20, 21, 4, 22, 23, 24, 25, 26, 27, 28, 29, 30, 31, 32, 33, 34, 6, 7, 8, 35, 36, 37, 38, 39, 40, 41, 42, 43, 44, 45, 46, 47, 48, 49, 50, 51, 52, 53, 54, 55, 56, 57, 58, 59, 60, 61, 62, 63, 64, 65, 66, 67, 68, 69, 70, 71, 72, 73, 74, 75, 76, 77, 78] (by decide +kernel) (by decide +kernel)
set_option maxRecDepth 20000 in
theorem gX10_rivals_X10_setRivals : GoodIn wsX10_rivals (wsV RX10 196 RX10 yX10_setRivals wsX10_setRivals) := goodIn_app (goodIn_of _ (by decide +kernel)) ggX10_rivals_X10_setRivals
theorem dX10_rivals_0 : decode cX10_rivals 0 = .ok (.iload_n 1, 1) := by decide +kernel
theorem dX10_rivals_1 : decode cX10_rivals 1 = .ok (.invokestatic 173, 3) := by decide +kernel
theorem dX10_rivals_4 : decode cX10_rivals 4 = .ok (.ifCond .eq 10, 3) := by decide +kernel
theorem dX10_rivals_7 : decode cX10_rivals 7 = .ok (.iload_n 2, 1) := by decide +kernel
theorem dX10_rivals_8 : decode cX10_rivals 8 = .ok (.invokestatic 182, 3) := by decide +kernel
theorem dX10_rivals_11 : decode cX10_rivals 11 = .ok (.ifCond .ne 5, 3) := by decide +kernel
theorem dX10_rivals_14 : decode cX10_rivals 14 = .ok (.iconst (-1), 1) := by decide +kernel
theorem dX10_rivals_15 : decode cX10_rivals 15 = .ok (.ireturn, 1) := by decide +kernel
theorem dX10_rivals_16 : decode cX10_rivals 16 = .ok (.aload_n 0, 1) := by decide +kernel
theorem dX10_rivals_17 : decode cX10_rivals 17 = .ok (.iload_n 1, 1) := by decide +kernel
theorem dX10_rivals_18 : decode cX10_rivals 18 = .ok (.iload_n 2, 1) := by decide +kernel
theorem dX10_rivals_19 : decode cX10_rivals 19 = .ok (.invokevirtual 196, 3) := by decide +kernel
theorem dX10_rivals_22 : decode cX10_rivals 22 = .ok (.aload_n 0, 1) := by decide +kernel
theorem dX10_rivals_23 : decode cX10_rivals 23 = .ok (.getfield 193, 3) := by decide +kernel
theorem dX10_rivals_26 : decode cX10_rivals 26 = .ok (.ireturn, 1) := by decide +kernel
set_option maxRecDepth 20000 in
theorem ggX10_layer_X10_isLine : GoodIn wsX10_layer wsX10_isLine := goodIn_r _ [7, 8, 9, 6, 10] (by decide +kernel) (by decide +kernel)
set_option maxRecDepth 20000 in
theorem gX10_layer_X10_isLine : GoodIn wsX10_layer (va_wsS RX10 173 yX10_isLine wsX10_isLine) := goodIn_app (goodIn_of _ (by decide +kernel)) ggX10_layer_X10_isLine
set_option maxRecDepth 20000 in
theorem ggX10_layer_X10_isColour : GoodIn wsX10_layer wsX10_isColour := goodIn_r _ [13, 8, 9, 6, 10] (by decide +kernel) (by decide +kernel)
set_option maxRecDepth 20000 in
theorem gX10_layer_X10_isColour : GoodIn wsX10_layer (va_wsS RX10 182 yX10_isColour wsX10_isColour) := goodIn_app (goodIn_of _ (by decide +kernel)) ggX10_layer_X10_isColour
set_option maxRecDepth 20000 in
theorem ggX10_layer_X10_isWord : GoodIn wsX10_layer wsX10_isWord := goodIn_r _ [17, 18, 8, 9, 6, 10, 36, 37, 38, 39, 40, 41, 42, 43, 44, 45, 46, 47, 48, 49, 50, 51, 52, 53, 54, 55, 56, 57, 58, 59, 60, 61, 62, 63, 64, 65, 66, 67, 68, 69, 70, 71, 72, 73, 74, 75, 76, 77, 78, 79] (by decide +kernel) (by decide +kernel)
set_option maxRecDepth 20000 in
theorem gX10_layer_X10_isWord : GoodIn wsX10_layer (wsV RX10 154 RX10 yX10_isWord wsX10_isWord) := goodIn_app (goodIn_of _ (by decide +kernel)) ggX10_layer_X10_isWord
set_option maxRecDepth 20000 in
theorem ggX10_layer_X10_meets : GoodIn wsX10_layer wsX10_meets := goodIn_r _ [22, 23, 24, 36, 37, 38, 39, 40, 41, 42, 43, 44, 45, 46, 47, 48, 49, 50, 51, 52, 53, 54, 55, 56, 57, 58, 59, 60, 61, 62, 63, 64, 65, 66, 67, 68, 69, 70, 71, 72, 73, 74, 75, 76, 77, 78, 79] (by decide +kernel) (by decide +kernel)
set_option maxRecDepth 20000 in
theorem gX10_layer_X10_meets : GoodIn wsX10_layer (wsV RX10 131 RX10 yX10_meets wsX10_meets) := goodIn_app (goodIn_of _ (by decide +kernel)) ggX10_layer_X10_meets
set_option maxRecDepth 20000 in
theorem ggX10_layer_X10_isOn : GoodIn wsX10_layer wsX10_isOn := goodIn_r _ [28, 29, 36, 37, 38, 39, 40, 41, 42, 43, 44, 45, 46, 47, 48, 49, 50, 51, 52, 53, 54, 55, 56, 57, 58, 59, 60, 61, 62, 63, 64, 65, 66, 67, 68, 69, 70, 71, 72, 73, 74, 75, 76, 77, 78, 79] (by decide +kernel) (by decide +kernel)
set_option maxRecDepth 20000 in
theorem gX10_layer_X10_isOn : GoodIn wsX10_layer (wsV RX10 185 RX10 yX10_isOn wsX10_isOn) := goodIn_app (goodIn_of _ (by decide +kernel)) ggX10_layer_X10_isOn
set_option maxRecDepth 20000 in
theorem ggX10_layer_X10_lays : GoodIn wsX10_layer wsX10_lays := goodIn_r _ [33, 1, 34, 35, 2, 36, 37, 38, 39, 40, 41, 42, 43, 44, 45, 46, 47, 48, 49, 50, 51, 52, 53, 54, 55, 56, 57, 58, 59, 60, 61, 62, 63, 64, 65, 66, 67, 68, 69, 70, 71, 72, 73, 74, 75, 76, 77, 78, 79] (by decide +kernel) (by decide +kernel)
set_option maxRecDepth 20000 in
theorem gX10_layer_X10_lays : GoodIn wsX10_layer (wsV RX10 203 RX10 yX10_lays wsX10_lays) := goodIn_app (goodIn_of _ (by decide +kernel)) ggX10_layer_X10_lays
theorem dX10_layer_0 : decode cX10_layer 0 = .ok (.iload_n 1, 1) := by decide +kernel
theorem dX10_layer_1 : decode cX10_layer 1 = .ok (.invokestatic 173, 3) := by decide +kernel
theorem dX10_layer_4 : decode cX10_layer 4 = .ok (.ifCond .eq 19, 3) := by decide +kernel
theorem dX10_layer_7 : decode cX10_layer 7 = .ok (.iload 4, 2) := by decide +kernel
theorem dX10_layer_9 : decode cX10_layer 9 = .ok (.invokestatic 182, 3) := by decide +kernel
theorem dX10_layer_12 : decode cX10_layer 12 = .ok (.ifCond .eq 11, 3) := by decide +kernel
theorem dX10_layer_15 : decode cX10_layer 15 = .ok (.aload_n 0, 1) := by decide +kernel
theorem dX10_layer_16 : decode cX10_layer 16 = .ok (.iload_n 2, 1) := by decide +kernel
theorem dX10_layer_17 : decode cX10_layer 17 = .ok (.invokevirtual 154, 3) := by decide +kernel
theorem dX10_layer_20 : decode cX10_layer 20 = .ok (.ifCond .ne 5, 3) := by decide +kernel
theorem dX10_layer_23 : decode cX10_layer 23 = .ok (.iconst (-1), 1) := by decide +kernel
theorem dX10_layer_24 : decode cX10_layer 24 = .ok (.ireturn, 1) := by decide +kernel
theorem dX10_layer_25 : decode cX10_layer 25 = .ok (.aload_n 0, 1) := by decide +kernel
theorem dX10_layer_26 : decode cX10_layer 26 = .ok (.getfield 56, 3) := by decide +kernel
theorem dX10_layer_29 : decode cX10_layer 29 = .ok (.iload_n 1, 1) := by decide +kernel
theorem dX10_layer_30 : decode cX10_layer 30 = .ok (.iaload, 1) := by decide +kernel
theorem dX10_layer_31 : decode cX10_layer 31 = .ok (.iconst 3, 1) := by decide +kernel
theorem dX10_layer_32 : decode cX10_layer 32 = .ok (.if_icmp .ne 6, 3) := by decide +kernel
theorem dX10_layer_35 : decode cX10_layer 35 = .ok (.bipush (-2), 2) := by decide +kernel
theorem dX10_layer_37 : decode cX10_layer 37 = .ok (.ireturn, 1) := by decide +kernel
theorem dX10_layer_38 : decode cX10_layer 38 = .ok (.iconst 0, 1) := by decide +kernel
theorem dX10_layer_39 : decode cX10_layer 39 = .ok (.istore 5, 2) := by decide +kernel
theorem dX10_layer_41 : decode cX10_layer 41 = .ok (.iload 5, 2) := by decide +kernel
theorem dX10_layer_43 : decode cX10_layer 43 = .ok (.aload_n 0, 1) := by decide +kernel
theorem dX10_layer_44 : decode cX10_layer 44 = .ok (.getfield 56, 3) := by decide +kernel
theorem dX10_layer_47 : decode cX10_layer 47 = .ok (.iload_n 1, 1) := by decide +kernel
theorem dX10_layer_48 : decode cX10_layer 48 = .ok (.iaload, 1) := by decide +kernel
theorem dX10_layer_49 : decode cX10_layer 49 = .ok (.if_icmp .ge 28, 3) := by decide +kernel
theorem dX10_layer_52 : decode cX10_layer 52 = .ok (.aload_n 0, 1) := by decide +kernel
theorem dX10_layer_53 : decode cX10_layer 53 = .ok (.getfield 65, 3) := by decide +kernel
theorem dX10_layer_56 : decode cX10_layer 56 = .ok (.iconst 3, 1) := by decide +kernel
theorem dX10_layer_57 : decode cX10_layer 57 = .ok (.iload_n 1, 1) := by decide +kernel
theorem dX10_layer_58 : decode cX10_layer 58 = .ok (.imul, 1) := by decide +kernel
theorem dX10_layer_59 : decode cX10_layer 59 = .ok (.iload 5, 2) := by decide +kernel
theorem dX10_layer_61 : decode cX10_layer 61 = .ok (.iadd, 1) := by decide +kernel
theorem dX10_layer_62 : decode cX10_layer 62 = .ok (.iaload, 1) := by decide +kernel
theorem dX10_layer_63 : decode cX10_layer 63 = .ok (.iload 4, 2) := by decide +kernel
theorem dX10_layer_65 : decode cX10_layer 65 = .ok (.if_icmp .ne 6, 3) := by decide +kernel
theorem dX10_layer_68 : decode cX10_layer 68 = .ok (.bipush (-4), 2) := by decide +kernel
theorem dX10_layer_70 : decode cX10_layer 70 = .ok (.ireturn, 1) := by decide +kernel
theorem dX10_layer_71 : decode cX10_layer 71 = .ok (.iinc 5 1, 3) := by decide +kernel
theorem dX10_layer_74 : decode cX10_layer 74 = .ok (.goto (-33), 3) := by decide +kernel
theorem dX10_layer_77 : decode cX10_layer 77 = .ok (.aload_n 0, 1) := by decide +kernel
theorem dX10_layer_78 : decode cX10_layer 78 = .ok (.getfield 34, 3) := by decide +kernel
theorem dX10_layer_81 : decode cX10_layer 81 = .ok (.iload_n 2, 1) := by decide +kernel
theorem dX10_layer_82 : decode cX10_layer 82 = .ok (.baload, 1) := by decide +kernel
theorem dX10_layer_83 : decode cX10_layer 83 = .ok (.ifCond .eq 9, 3) := by decide +kernel
theorem dX10_layer_86 : decode cX10_layer 86 = .ok (.aload_n 0, 1) := by decide +kernel
theorem dX10_layer_87 : decode cX10_layer 87 = .ok (.iconst 1, 1) := by decide +kernel
theorem dX10_layer_88 : decode cX10_layer 88 = .ok (.invokevirtual 131, 3) := by decide +kernel
theorem dX10_layer_91 : decode cX10_layer 91 = .ok (.ireturn, 1) := by decide +kernel
theorem dX10_layer_92 : decode cX10_layer 92 = .ok (.aload_n 0, 1) := by decide +kernel
theorem dX10_layer_93 : decode cX10_layer 93 = .ok (.iload_n 2, 1) := by decide +kernel
theorem dX10_layer_94 : decode cX10_layer 94 = .ok (.iload_n 3, 1) := by decide +kernel
theorem dX10_layer_95 : decode cX10_layer 95 = .ok (.invokevirtual 185, 3) := by decide +kernel
theorem dX10_layer_98 : decode cX10_layer 98 = .ok (.ifCond .ne 9, 3) := by decide +kernel
theorem dX10_layer_101 : decode cX10_layer 101 = .ok (.aload_n 0, 1) := by decide +kernel
theorem dX10_layer_102 : decode cX10_layer 102 = .ok (.iconst 2, 1) := by decide +kernel
theorem dX10_layer_103 : decode cX10_layer 103 = .ok (.invokevirtual 131, 3) := by decide +kernel
theorem dX10_layer_106 : decode cX10_layer 106 = .ok (.ireturn, 1) := by decide +kernel
theorem dX10_layer_107 : decode cX10_layer 107 = .ok (.aload_n 0, 1) := by decide +kernel
theorem dX10_layer_108 : decode cX10_layer 108 = .ok (.iload_n 1, 1) := by decide +kernel
theorem dX10_layer_109 : decode cX10_layer 109 = .ok (.iload_n 2, 1) := by decide +kernel
theorem dX10_layer_110 : decode cX10_layer 110 = .ok (.iload_n 3, 1) := by decide +kernel
theorem dX10_layer_111 : decode cX10_layer 111 = .ok (.iload 4, 2) := by decide +kernel
theorem dX10_layer_113 : decode cX10_layer 113 = .ok (.invokevirtual 203, 3) := by decide +kernel
theorem dX10_layer_116 : decode cX10_layer 116 = .ok (.aload_n 0, 1) := by decide +kernel
theorem dX10_layer_117 : decode cX10_layer 117 = .ok (.getfield 56, 3) := by decide +kernel
theorem dX10_layer_120 : decode cX10_layer 120 = .ok (.iload_n 1, 1) := by decide +kernel
theorem dX10_layer_121 : decode cX10_layer 121 = .ok (.iaload, 1) := by decide +kernel
theorem dX10_layer_122 : decode cX10_layer 122 = .ok (.ireturn, 1) := by decide +kernel
theorem dX10_lays_0 : decode cX10_lays 0 = .ok (.iconst 3, 1) := by decide +kernel
theorem dX10_lays_1 : decode cX10_lays 1 = .ok (.iload_n 1, 1) := by decide +kernel
theorem dX10_lays_2 : decode cX10_lays 2 = .ok (.imul, 1) := by decide +kernel
theorem dX10_lays_3 : decode cX10_lays 3 = .ok (.aload_n 0, 1) := by decide +kernel
theorem dX10_lays_4 : decode cX10_lays 4 = .ok (.getfield 56, 3) := by decide +kernel
theorem dX10_lays_7 : decode cX10_lays 7 = .ok (.iload_n 1, 1) := by decide +kernel
theorem dX10_lays_8 : decode cX10_lays 8 = .ok (.iaload, 1) := by decide +kernel
theorem dX10_lays_9 : decode cX10_lays 9 = .ok (.iadd, 1) := by decide +kernel
theorem dX10_lays_10 : decode cX10_lays 10 = .ok (.istore 5, 2) := by decide +kernel
theorem dX10_lays_12 : decode cX10_lays 12 = .ok (.aload_n 0, 1) := by decide +kernel
theorem dX10_lays_13 : decode cX10_lays 13 = .ok (.getfield 59, 3) := by decide +kernel
theorem dX10_lays_16 : decode cX10_lays 16 = .ok (.iload 5, 2) := by decide +kernel
theorem dX10_lays_18 : decode cX10_lays 18 = .ok (.iload_n 2, 1) := by decide +kernel
theorem dX10_lays_19 : decode cX10_lays 19 = .ok (.iastore, 1) := by decide +kernel
theorem dX10_lays_20 : decode cX10_lays 20 = .ok (.aload_n 0, 1) := by decide +kernel
theorem dX10_lays_21 : decode cX10_lays 21 = .ok (.getfield 62, 3) := by decide +kernel
theorem dX10_lays_24 : decode cX10_lays 24 = .ok (.iload 5, 2) := by decide +kernel
theorem dX10_lays_26 : decode cX10_lays 26 = .ok (.iload_n 3, 1) := by decide +kernel
theorem dX10_lays_27 : decode cX10_lays 27 = .ok (.iastore, 1) := by decide +kernel
theorem dX10_lays_28 : decode cX10_lays 28 = .ok (.aload_n 0, 1) := by decide +kernel
theorem dX10_lays_29 : decode cX10_lays 29 = .ok (.getfield 65, 3) := by decide +kernel
theorem dX10_lays_32 : decode cX10_lays 32 = .ok (.iload 5, 2) := by decide +kernel
theorem dX10_lays_34 : decode cX10_lays 34 = .ok (.iload 4, 2) := by decide +kernel
theorem dX10_lays_36 : decode cX10_lays 36 = .ok (.iastore, 1) := by decide +kernel
theorem dX10_lays_37 : decode cX10_lays 37 = .ok (.aload_n 0, 1) := by decide +kernel
theorem dX10_lays_38 : decode cX10_lays 38 = .ok (.getfield 56, 3) := by decide +kernel
theorem dX10_lays_41 : decode cX10_lays 41 = .ok (.iload_n 1, 1) := by decide +kernel
theorem dX10_lays_42 : decode cX10_lays 42 = .ok (.dup2, 1) := by decide +kernel
theorem dX10_lays_43 : decode cX10_lays 43 = .ok (.iaload, 1) := by decide +kernel
theorem dX10_lays_44 : decode cX10_lays 44 = .ok (.iconst 1, 1) := by decide +kernel
theorem dX10_lays_45 : decode cX10_lays 45 = .ok (.iadd, 1) := by decide +kernel
theorem dX10_lays_46 : decode cX10_lays 46 = .ok (.iastore, 1) := by decide +kernel
theorem dX10_lays_47 : decode cX10_lays 47 = .ok (.return_, 1) := by decide +kernel
set_option maxRecDepth 20000 in
theorem ggX10_bare_X10_isLine : GoodIn wsX10_bare wsX10_isLine := goodIn_r _ [5, 6, 7, 4, 8] (by decide +kernel) (by decide +kernel)
set_option maxRecDepth 20000 in
theorem gX10_bare_X10_isLine : GoodIn wsX10_bare (va_wsS RX10 173 yX10_isLine wsX10_isLine) := goodIn_app (goodIn_of _ (by decide +kernel)) ggX10_bare_X10_isLine
theorem dX10_bare_0 : decode cX10_bare 0 = .ok (.iload_n 1, 1) := by decide +kernel
theorem dX10_bare_1 : decode cX10_bare 1 = .ok (.invokestatic 173, 3) := by decide +kernel
theorem dX10_bare_4 : decode cX10_bare 4 = .ok (.ifCond .ne 5, 3) := by decide +kernel
theorem dX10_bare_7 : decode cX10_bare 7 = .ok (.iconst (-1), 1) := by decide +kernel
theorem dX10_bare_8 : decode cX10_bare 8 = .ok (.ireturn, 1) := by decide +kernel
theorem dX10_bare_9 : decode cX10_bare 9 = .ok (.aload_n 0, 1) := by decide +kernel
theorem dX10_bare_10 : decode cX10_bare 10 = .ok (.getfield 56, 3) := by decide +kernel
theorem dX10_bare_13 : decode cX10_bare 13 = .ok (.iload_n 1, 1) := by decide +kernel
theorem dX10_bare_14 : decode cX10_bare 14 = .ok (.iaload, 1) := by decide +kernel
theorem dX10_bare_15 : decode cX10_bare 15 = .ok (.istore_n 2, 1) := by decide +kernel
theorem dX10_bare_16 : decode cX10_bare 16 = .ok (.aload_n 0, 1) := by decide +kernel
theorem dX10_bare_17 : decode cX10_bare 17 = .ok (.getfield 56, 3) := by decide +kernel
theorem dX10_bare_20 : decode cX10_bare 20 = .ok (.iload_n 1, 1) := by decide +kernel
theorem dX10_bare_21 : decode cX10_bare 21 = .ok (.iconst 0, 1) := by decide +kernel
theorem dX10_bare_22 : decode cX10_bare 22 = .ok (.iastore, 1) := by decide +kernel
