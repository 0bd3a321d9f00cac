theorem dX9_two_101 : decode cX9_two 101 = .ok (.iload_n 3, 1) := by decide +kernel
theorem dX9_two_102 : decode cX9_two 102 = .ok (.isub, 1) := by decide +kernel
theorem dX9_two_103 : decode cX9_two 103 = .ok (.istore 6, 2) := by decide +kernel
theorem dX9_two_105 : decode cX9_two 105 = .ok (.aload 5, 2) := by decide +kernel
theorem dX9_two_107 : decode cX9_two 107 = .ok (.iload 6, 2) := by decide +kernel
theorem dX9_two_109 : decode cX9_two 109 = .ok (.invokevirtual 254, 3) := by decide +kernel
theorem dX9_two_112 : decode cX9_two 112 = .ok (.ifCond .ne 21, 3) := by decide +kernel
theorem dX9_two_115 : decode cX9_two 115 = .ok (.aload_n 0, 1) := by decide +kernel
theorem dX9_two_116 : decode cX9_two 116 = .ok (.getfield 71, 3) := by decide +kernel
theorem dX9_two_119 : decode cX9_two 119 = .ok (.aload_n 0, 1) := by decide +kernel
theorem dX9_two_120 : decode cX9_two 120 = .ok (.getfield 61, 3) := by decide +kernel
theorem dX9_two_123 : decode cX9_two 123 = .ok (.aload_n 0, 1) := by decide +kernel
theorem dX9_two_124 : decode cX9_two 124 = .ok (.getfield 65, 3) := by decide +kernel
theorem dX9_two_127 : decode cX9_two 127 = .ok (.invokevirtual 257, 3) := by decide +kernel
theorem dX9_two_130 : decode cX9_two 130 = .ok (.ifCond .ne 6, 3) := by decide +kernel
theorem dX9_two_133 : decode cX9_two 133 = .ok (.bipush (-9), 2) := by decide +kernel
theorem dX9_two_135 : decode cX9_two 135 = .ok (.ireturn, 1) := by decide +kernel
theorem dX9_two_136 : decode cX9_two 136 = .ok (.aload 5, 2) := by decide +kernel
theorem dX9_two_138 : decode cX9_two 138 = .ok (.iconst 0, 1) := by decide +kernel
theorem dX9_two_139 : decode cX9_two 139 = .ok (.putfield 238, 3) := by decide +kernel
theorem dX9_two_142 : decode cX9_two 142 = .ok (.aload_n 0, 1) := by decide +kernel
theorem dX9_two_143 : decode cX9_two 143 = .ok (.getfield 71, 3) := by decide +kernel
theorem dX9_two_146 : decode cX9_two 146 = .ok (.getfield 261, 3) := by decide +kernel
theorem dX9_two_149 : decode cX9_two 149 = .ok (.ifCond .eq 40, 3) := by decide +kernel
theorem dX9_two_152 : decode cX9_two 152 = .ok (.aload 5, 2) := by decide +kernel
theorem dX9_two_154 : decode cX9_two 154 = .ok (.aload_n 0, 1) := by decide +kernel
theorem dX9_two_155 : decode cX9_two 155 = .ok (.getfield 61, 3) := by decide +kernel
theorem dX9_two_158 : decode cX9_two 158 = .ok (.aload_n 0, 1) := by decide +kernel
theorem dX9_two_159 : decode cX9_two 159 = .ok (.getfield 71, 3) := by decide +kernel
theorem dX9_two_162 : decode cX9_two 162 = .ok (.getfield 265, 3) := by decide +kernel
theorem dX9_two_165 : decode cX9_two 165 = .ok (.iload_n 2, 1) := by decide +kernel
theorem dX9_two_166 : decode cX9_two 166 = .ok (.invokestatic 268, 3) := by decide +kernel
theorem dX9_two_169 : decode cX9_two 169 = .ok (.aload 5, 2) := by decide +kernel
theorem dX9_two_171 : decode cX9_two 171 = .ok (.aload_n 0, 1) := by decide +kernel
theorem dX9_two_172 : decode cX9_two 172 = .ok (.getfield 65, 3) := by decide +kernel
theorem dX9_two_175 : decode cX9_two 175 = .ok (.aload_n 0, 1) := by decide +kernel
theorem dX9_two_176 : decode cX9_two 176 = .ok (.getfield 71, 3) := by decide +kernel
theorem dX9_two_179 : decode cX9_two 179 = .ok (.getfield 272, 3) := by decide +kernel
theorem dX9_two_182 : decode cX9_two 182 = .ok (.iload_n 3, 1) := by decide +kernel
theorem dX9_two_183 : decode cX9_two 183 = .ok (.invokestatic 268, 3) := by decide +kernel
theorem dX9_two_186 : decode cX9_two 186 = .ok (.goto 37, 3) := by decide +kernel
theorem dX9_two_189 : decode cX9_two 189 = .ok (.aload 5, 2) := by decide +kernel
theorem dX9_two_191 : decode cX9_two 191 = .ok (.aload_n 0, 1) := by decide +kernel
theorem dX9_two_192 : decode cX9_two 192 = .ok (.getfield 65, 3) := by decide +kernel
theorem dX9_two_195 : decode cX9_two 195 = .ok (.aload_n 0, 1) := by decide +kernel
theorem dX9_two_196 : decode cX9_two 196 = .ok (.getfield 71, 3) := by decide +kernel
theorem dX9_two_199 : decode cX9_two 199 = .ok (.getfield 272, 3) := by decide +kernel
theorem dX9_two_202 : decode cX9_two 202 = .ok (.iload_n 3, 1) := by decide +kernel
theorem dX9_two_203 : decode cX9_two 203 = .ok (.invokestatic 268, 3) := by decide +kernel
theorem dX9_two_206 : decode cX9_two 206 = .ok (.aload 5, 2) := by decide +kernel
theorem dX9_two_208 : decode cX9_two 208 = .ok (.aload_n 0, 1) := by decide +kernel
theorem dX9_two_209 : decode cX9_two 209 = .ok (.getfield 61, 3) := by decide +kernel
theorem dX9_two_212 : decode cX9_two 212 = .ok (.aload_n 0, 1) := by decide +kernel
theorem dX9_two_213 : decode cX9_two 213 = .ok (.getfield 71, 3) := by decide +kernel
theorem dX9_two_216 : decode cX9_two 216 = .ok (.getfield 265, 3) := by decide +kernel
theorem dX9_two_219 : decode cX9_two 219 = .ok (.iload_n 2, 1) := by decide +kernel
theorem dX9_two_220 : decode cX9_two 220 = .ok (.invokestatic 268, 3) := by decide +kernel
theorem dX9_two_223 : decode cX9_two 223 = .ok (.aload_n 0, 1) := by decide +kernel
theorem dX9_two_224 : decode cX9_two 224 = .ok (.getfield 71, 3) := by decide +kernel
theorem dX9_two_227 : decode cX9_two 227 = .ok (.getfield 275, 3) := by decide +kernel
theorem dX9_two_230 : decode cX9_two 230 = .ok (.ireturn, 1) := by decide +kernel
set_option maxRecDepth 20000 in
theorem ggX9_renumber_X6_isYear : GoodIn wsX9_renumber wsX6_isYear := goodIn_r _ [6] (by decide +kernel) (by decide +kernel)
set_option maxRecDepth 20000 in
theorem gX9_renumber_X6_isYear : GoodIn wsX9_renumber (va_wsS RX9 143 yX6_isYear wsX6_isYear) := goodIn_app (goodIn_of _ (by decide +kernel)) ggX9_renumber_X6_isYear
set_option maxRecDepth 20000 in
theorem ggX9_renumber_X6_latestYear : GoodIn wsX9_renumber wsX6_latestYear := goodIn_r _ [10, 11, 12, 37, 38, 39, 40, 41, 42] (by decide +kernel) (by decide +kernel)
set_option maxRecDepth 20000 in
theorem gX9_renumber_X6_latestYear : GoodIn wsX9_renumber (wsV RX9 278 RX6 yX6_latestYear wsX6_latestYear) := goodIn_app (goodIn_of _ (by decide +kernel)) ggX9_renumber_X6_latestYear
set_option maxRecDepth 20000 in
theorem ggX9_renumber_X6_isFull : GoodIn wsX9_renumber wsX6_isFull := goodIn_r _ [16, 11, 37, 38, 39, 40, 41, 42] (by decide +kernel) (by decide +kernel)
set_option maxRecDepth 20000 in
theorem gX9_renumber_X6_isFull : GoodIn wsX9_renumber (wsV RX9 281 RX6 yX6_isFull wsX6_isFull) := goodIn_app (goodIn_of _ (by decide +kernel)) ggX9_renumber_X6_isFull
set_option maxRecDepth 20000 in
theorem ggX9_renumber_X6_add : GoodIn wsX9_renumber wsX6_add := goodIn_r _ [20, 12, 11, 21, 22, 37, 38, 39, 40, 41, 42] (by decide +kernel) (by decide +kernel)
set_option maxRecDepth 20000 in
theorem gX9_renumber_X6_add : GoodIn wsX9_renumber (wsV RX9 282 RX6 yX6_add wsX6_add) := goodIn_app (goodIn_of _ (by decide +kernel)) ggX9_renumber_X6_add
theorem dX9_renumber_0 : decode cX9_renumber 0 = .ok (.iload_n 1, 1) := by decide +kernel
theorem dX9_renumber_1 : decode cX9_renumber 1 = .ok (.invokestatic 143, 3) := by decide +kernel
theorem dX9_renumber_4 : decode cX9_renumber 4 = .ok (.ifCond .eq 25, 3) := by decide +kernel
theorem dX9_renumber_7 : decode cX9_renumber 7 = .ok (.iload_n 2, 1) := by decide +kernel
theorem dX9_renumber_8 : decode cX9_renumber 8 = .ok (.iconst 1, 1) := by decide +kernel
theorem dX9_renumber_9 : decode cX9_renumber 9 = .ok (.if_icmp .lt 20, 3) := by decide +kernel
theorem dX9_renumber_12 : decode cX9_renumber 12 = .ok (.iload_n 2, 1) := by decide +kernel
theorem dX9_renumber_13 : decode cX9_renumber 13 = .ok (.iconst 3, 1) := by decide +kernel
theorem dX9_renumber_14 : decode cX9_renumber 14 = .ok (.if_icmp .gt 15, 3) := by decide +kernel
theorem dX9_renumber_17 : decode cX9_renumber 17 = .ok (.iload_n 3, 1) := by decide +kernel
theorem dX9_renumber_18 : decode cX9_renumber 18 = .ok (.bipush (-100), 2) := by decide +kernel
theorem dX9_renumber_20 : decode cX9_renumber 20 = .ok (.if_icmp .lt 9, 3) := by decide +kernel
theorem dX9_renumber_23 : decode cX9_renumber 23 = .ok (.iload_n 3, 1) := by decide +kernel
theorem dX9_renumber_24 : decode cX9_renumber 24 = .ok (.bipush 100, 2) := by decide +kernel
theorem dX9_renumber_26 : decode cX9_renumber 26 = .ok (.if_icmp .le 5, 3) := by decide +kernel
theorem dX9_renumber_29 : decode cX9_renumber 29 = .ok (.iconst (-1), 1) := by decide +kernel
theorem dX9_renumber_30 : decode cX9_renumber 30 = .ok (.ireturn, 1) := by decide +kernel
theorem dX9_renumber_31 : decode cX9_renumber 31 = .ok (.iload_n 1, 1) := by decide +kernel
theorem dX9_renumber_32 : decode cX9_renumber 32 = .ok (.aload_n 0, 1) := by decide +kernel
theorem dX9_renumber_33 : decode cX9_renumber 33 = .ok (.getfield 33, 3) := by decide +kernel
theorem dX9_renumber_36 : decode cX9_renumber 36 = .ok (.invokevirtual 278, 3) := by decide +kernel
theorem dX9_renumber_39 : decode cX9_renumber 39 = .ok (.if_icmp .gt 5, 3) := by decide +kernel
theorem dX9_renumber_42 : decode cX9_renumber 42 = .ok (.iconst (-1), 1) := by decide +kernel
theorem dX9_renumber_43 : decode cX9_renumber 43 = .ok (.ireturn, 1) := by decide +kernel
theorem dX9_renumber_44 : decode cX9_renumber 44 = .ok (.aload_n 0, 1) := by decide +kernel
theorem dX9_renumber_45 : decode cX9_renumber 45 = .ok (.getfield 33, 3) := by decide +kernel
theorem dX9_renumber_48 : decode cX9_renumber 48 = .ok (.invokevirtual 281, 3) := by decide +kernel
theorem dX9_renumber_51 : decode cX9_renumber 51 = .ok (.ifCond .eq 6, 3) := by decide +kernel
theorem dX9_renumber_54 : decode cX9_renumber 54 = .ok (.bipush (-2), 2) := by decide +kernel
theorem dX9_renumber_56 : decode cX9_renumber 56 = .ok (.ireturn, 1) := by decide +kernel
theorem dX9_renumber_57 : decode cX9_renumber 57 = .ok (.aload_n 0, 1) := by decide +kernel
theorem dX9_renumber_58 : decode cX9_renumber 58 = .ok (.getfield 33, 3) := by decide +kernel
theorem dX9_renumber_61 : decode cX9_renumber 61 = .ok (.iload_n 1, 1) := by decide +kernel
theorem dX9_renumber_62 : decode cX9_renumber 62 = .ok (.iload_n 2, 1) := by decide +kernel
theorem dX9_renumber_63 : decode cX9_renumber 63 = .ok (.iload_n 3, 1) := by decide +kernel
theorem dX9_renumber_64 : decode cX9_renumber 64 = .ok (.invokevirtual 282, 3) := by decide +kernel
theorem dX9_renumber_67 : decode cX9_renumber 67 = .ok (.aload_n 0, 1) := by decide +kernel
theorem dX9_renumber_68 : decode cX9_renumber 68 = .ok (.getfield 33, 3) := by decide +kernel
theorem dX9_renumber_71 : decode cX9_renumber 71 = .ok (.getfield 284, 3) := by decide +kernel
theorem dX9_renumber_74 : decode cX9_renumber 74 = .ok (.ireturn, 1) := by decide +kernel
set_option maxRecDepth 20000 in
theorem ggX9_number_X6_isNumber : GoodIn wsX9_number wsX6_isNumber := goodIn_r _ [5] (by decide +kernel) (by decide +kernel)
set_option maxRecDepth 20000 in
theorem gX9_number_X6_isNumber : GoodIn wsX9_number (va_wsS RX9 141 yX6_isNumber wsX6_isNumber) := goodIn_app (goodIn_of _ (by decide +kernel)) ggX9_number_X6_isNumber
set_option maxRecDepth 20000 in
theorem ggX9_number_X6_isYear : GoodIn wsX9_number wsX6_isYear := goodIn_r _ [8] (by decide +kernel) (by decide +kernel)
set_option maxRecDepth 20000 in
theorem gX9_number_X6_isYear : GoodIn wsX9_number (va_wsS RX9 143 yX6_isYear wsX6_isYear) := goodIn_app (goodIn_of _ (by decide +kernel)) ggX9_number_X6_isYear
set_option maxRecDepth 20000 in
theorem ggX9_number_X6_became : GoodIn wsX9_number wsX6_became := goodIn_r _ [12, 13, 14, 15, 16, 17, 18, 19, 20, 21, 22, 23, 38, 39, 40, 41, 42, 43] (by decide +kernel) (by decide +kernel)
set_option maxRecDepth 20000 in
theorem gX9_number_X6_became : GoodIn wsX9_number (wsV RX9 287 RX6 yX6_became wsX6_became) := goodIn_app (goodIn_of _ (by decide +kernel)) ggX9_number_X6_became
theorem dX9_number_0 : decode cX9_number 0 = .ok (.iload_n 1, 1) := by decide +kernel
theorem dX9_number_1 : decode cX9_number 1 = .ok (.invokestatic 141, 3) := by decide +kernel
theorem dX9_number_4 : decode cX9_number 4 = .ok (.ifCond .eq 17, 3) := by decide +kernel
theorem dX9_number_7 : decode cX9_number 7 = .ok (.iload_n 2, 1) := by decide +kernel
theorem dX9_number_8 : decode cX9_number 8 = .ok (.invokestatic 143, 3) := by decide +kernel
theorem dX9_number_11 : decode cX9_number 11 = .ok (.ifCond .eq 10, 3) := by decide +kernel
theorem dX9_number_14 : decode cX9_number 14 = .ok (.iload_n 3, 1) := by decide +kernel
theorem dX9_number_15 : decode cX9_number 15 = .ok (.invokestatic 143, 3) := by decide +kernel
theorem dX9_number_18 : decode cX9_number 18 = .ok (.ifCond .ne 5, 3) := by decide +kernel
theorem dX9_number_21 : decode cX9_number 21 = .ok (.iconst (-1), 1) := by decide +kernel
theorem dX9_number_22 : decode cX9_number 22 = .ok (.ireturn, 1) := by decide +kernel
theorem dX9_number_23 : decode cX9_number 23 = .ok (.aload_n 0, 1) := by decide +kernel
theorem dX9_number_24 : decode cX9_number 24 = .ok (.getfield 33, 3) := by decide +kernel
theorem dX9_number_27 : decode cX9_number 27 = .ok (.iload_n 1, 1) := by decide +kernel
theorem dX9_number_28 : decode cX9_number 28 = .ok (.iload_n 2, 1) := by decide +kernel
theorem dX9_number_29 : decode cX9_number 29 = .ok (.iload_n 3, 1) := by decide +kernel
theorem dX9_number_30 : decode cX9_number 30 = .ok (.invokevirtual 287, 3) := by decide +kernel
theorem dX9_number_33 : decode cX9_number 33 = .ok (.ireturn, 1) := by decide +kernel
set_option maxRecDepth 20000 in
theorem ggX9_address_X6_isNumber : GoodIn wsX9_address wsX6_isNumber := goodIn_r _ [7] (by decide +kernel) (by decide +kernel)
set_option maxRecDepth 20000 in
theorem gX9_address_X6_isNumber : GoodIn wsX9_address (va_wsS RX9 141 yX6_isNumber wsX6_isNumber) := goodIn_app (goodIn_of _ (by decide +kernel)) ggX9_address_X6_isNumber
set_option maxRecDepth 20000 in
theorem ggX9_address_X6_isYear : GoodIn wsX9_address wsX6_isYear := goodIn_r _ [10] (by decide +kernel) (by decide +kernel)
set_option maxRecDepth 20000 in
theorem gX9_address_X6_isYear : GoodIn wsX9_address (va_wsS RX9 143 yX6_isYear wsX6_isYear) := goodIn_app (goodIn_of _ (by decide +kernel)) ggX9_address_X6_isYear
theorem dX9_address_0 : decode cX9_address 0 = .ok (.iload_n 1, 1) := by decide +kernel
theorem dX9_address_1 : decode cX9_address 1 = .ok (.invokestatic 141, 3) := by decide +kernel
theorem dX9_address_4 : decode cX9_address 4 = .ok (.ifCond .eq 10, 3) := by decide +kernel
theorem dX9_address_7 : decode cX9_address 7 = .ok (.iload_n 2, 1) := by decide +kernel
theorem dX9_address_8 : decode cX9_address 8 = .ok (.invokestatic 143, 3) := by decide +kernel
theorem dX9_address_11 : decode cX9_address 11 = .ok (.ifCond .ne 5, 3) := by decide +kernel
theorem dX9_address_14 : decode cX9_address 14 = .ok (.iconst (-1), 1) := by decide +kernel
theorem dX9_address_15 : decode cX9_address 15 = .ok (.ireturn, 1) := by decide +kernel
theorem dX9_address_16 : decode cX9_address 16 = .ok (.aload_n 0, 1) := by decide +kernel
theorem dX9_address_17 : decode cX9_address 17 = .ok (.getfield 33, 3) := by decide +kernel
theorem dX9_address_20 : decode cX9_address 20 = .ok (.iload_n 1, 1) := by decide +kernel
theorem dX9_address_21 : decode cX9_address 21 = .ok (.putfield 290, 3) := by decide +kernel
theorem dX9_address_24 : decode cX9_address 24 = .ok (.aload_n 0, 1) := by decide +kernel
theorem dX9_address_25 : decode cX9_address 25 = .ok (.getfield 33, 3) := by decide +kernel
theorem dX9_address_28 : decode cX9_address 28 = .ok (.iload_n 2, 1) := by decide +kernel
theorem dX9_address_29 : decode cX9_address 29 = .ok (.putfield 293, 3) := by decide +kernel
theorem dX9_address_32 : decode cX9_address 32 = .ok (.iconst 1, 1) := by decide +kernel
theorem dX9_address_33 : decode cX9_address 33 = .ok (.ireturn, 1) := by decide +kernel
set_option maxRecDepth 20000 in
theorem ggX9_span_X8_isNumber : GoodIn wsX9_span wsX8_isNumber := goodIn_r _ [7, 8, 65, 66, 67, 68, 69, 70, 71, 72, 73, 74] (by decide +kernel) (by decide +kernel)
set_option maxRecDepth 20000 in
theorem gX9_span_X8_isNumber : GoodIn wsX9_span (wsV RX9 142 RX8 yX8_isNumber wsX8_isNumber) := goodIn_app (goodIn_of _ (by decide +kernel)) ggX9_span_X8_isNumber
set_option maxRecDepth 20000 in
theorem ggX9_span_X9_refuse : GoodIn wsX9_span wsX9_refuse := goodIn_r _ [13, 14, 15, 51, 52, 53, 54, 55, 56, 57, 58, 59, 60, 61, 62, 63, 64] (by decide +kernel) (by decide +kernel)
set_option maxRecDepth 20000 in
theorem gX9_span_X9_refuse : GoodIn wsX9_span (wsV RX9 96 RX9 yX9_refuse wsX9_refuse) := goodIn_app (goodIn_of _ (by decide +kernel)) ggX9_span_X9_refuse
set_option maxRecDepth 20000 in
theorem ggX9_span_X9_hasSpan : GoodIn wsX9_span wsX9_hasSpan := goodIn_r _ [19, 1, 20, 21, 22, 23, 24, 25, 26, 27, 28, 29, 30, 31, 32, 33, 34, 35, 36, 37, 38, 39, 40, 41, 42, 51, 52, 53, 54, 55, 56, 57, 58, 59, 60, 61, 62, 63, 64, 65, 66, 67, 68, 69, 70, 71, 72, 73, 74, 75, 76, 77, 78, 79, 80] (by decide +kernel) (by decide +kernel)
set_option maxRecDepth 20000 in
theorem gX9_span_X9_hasSpan : GoodIn wsX9_span (wsV RX9 296 RX9 yX9_hasSpan wsX9_hasSpan) := goodIn_app (goodIn_of _ (by decide +kernel)) ggX9_span_X9_hasSpan
set_option maxRecDepth 20000 in
theorem ggX9_span_X9_lastYear : GoodIn wsX9_span wsX9_lastYear := goodIn_r _ [46, 1, 20, 21, 51, 52, 53, 54, 55, 56, 57, 58, 59, 60, 61, 62, 63, 64, 65, 66, 67, 68, 69, 70, 71, 72, 73, 74] (by decide +kernel) (by decide +kernel)
set_option maxRecDepth 20000 in
theorem gX9_span_X9_lastYear : GoodIn wsX9_span (wsV RX9 299 RX9 yX9_lastYear wsX9_lastYear) := goodIn_app (goodIn_of _ (by decide +kernel)) ggX9_span_X9_lastYear
set_option maxRecDepth 20000 in
theorem ggX9_span_X9_firstYear : GoodIn wsX9_span wsX9_firstYear := goodIn_r _ [50, 1, 20, 26, 51, 52, 53, 54, 55, 56, 57, 58, 59, 60, 61, 62, 63, 64, 65, 66, 67, 68, 69, 70, 71, 72, 73, 74] (by decide +kernel) (by decide +kernel)
set_option maxRecDepth 20000 in
theorem gX9_span_X9_firstYear : GoodIn wsX9_span (wsV RX9 302 RX9 yX9_firstYear wsX9_firstYear) := goodIn_app (goodIn_of _ (by decide +kernel)) ggX9_span_X9_firstYear
theorem dX9_span_0 : decode cX9_span 0 = .ok (.aload_n 0, 1) := by decide +kernel
theorem dX9_span_1 : decode cX9_span 1 = .ok (.getfield 19, 3) := by decide +kernel
theorem dX9_span_4 : decode cX9_span 4 = .ok (.iload_n 1, 1) := by decide +kernel
theorem dX9_span_5 : decode cX9_span 5 = .ok (.invokevirtual 142, 3) := by decide +kernel
theorem dX9_span_8 : decode cX9_span 8 = .ok (.ifCond .ne 5, 3) := by decide +kernel
theorem dX9_span_11 : decode cX9_span 11 = .ok (.iconst (-1), 1) := by decide +kernel
theorem dX9_span_12 : decode cX9_span 12 = .ok (.ireturn, 1) := by decide +kernel
theorem dX9_span_13 : decode cX9_span 13 = .ok (.aload_n 0, 1) := by decide +kernel
theorem dX9_span_14 : decode cX9_span 14 = .ok (.getfield 19, 3) := by decide +kernel
theorem dX9_span_17 : decode cX9_span 17 = .ok (.getfield 146, 3) := by decide +kernel
theorem dX9_span_20 : decode cX9_span 20 = .ok (.iload_n 1, 1) := by decide +kernel
theorem dX9_span_21 : decode cX9_span 21 = .ok (.baload, 1) := by decide +kernel
theorem dX9_span_22 : decode cX9_span 22 = .ok (.ifCond .eq 9, 3) := by decide +kernel
theorem dX9_span_25 : decode cX9_span 25 = .ok (.aload_n 0, 1) := by decide +kernel
theorem dX9_span_26 : decode cX9_span 26 = .ok (.iconst 1, 1) := by decide +kernel
theorem dX9_span_27 : decode cX9_span 27 = .ok (.invokevirtual 96, 3) := by decide +kernel
theorem dX9_span_30 : decode cX9_span 30 = .ok (.ireturn, 1) := by decide +kernel
theorem dX9_span_31 : decode cX9_span 31 = .ok (.aload_n 0, 1) := by decide +kernel
theorem dX9_span_32 : decode cX9_span 32 = .ok (.iload_n 1, 1) := by decide +kernel
theorem dX9_span_33 : decode cX9_span 33 = .ok (.invokevirtual 296, 3) := by decide +kernel
theorem dX9_span_36 : decode cX9_span 36 = .ok (.ifCond .ne 6, 3) := by decide +kernel
theorem dX9_span_39 : decode cX9_span 39 = .ok (.bipush (-9), 2) := by decide +kernel
theorem dX9_span_41 : decode cX9_span 41 = .ok (.ireturn, 1) := by decide +kernel
theorem dX9_span_42 : decode cX9_span 42 = .ok (.iload_n 2, 1) := by decide +kernel
theorem dX9_span_43 : decode cX9_span 43 = .ok (.ifCond .eq 11, 3) := by decide +kernel
theorem dX9_span_46 : decode cX9_span 46 = .ok (.aload_n 0, 1) := by decide +kernel
theorem dX9_span_47 : decode cX9_span 47 = .ok (.iload_n 1, 1) := by decide +kernel
theorem dX9_span_48 : decode cX9_span 48 = .ok (.invokevirtual 299, 3) := by decide +kernel
theorem dX9_span_51 : decode cX9_span 51 = .ok (.goto 8, 3) := by decide +kernel
theorem dX9_span_54 : decode cX9_span 54 = .ok (.aload_n 0, 1) := by decide +kernel
theorem dX9_span_55 : decode cX9_span 55 = .ok (.iload_n 1, 1) := by decide +kernel
theorem dX9_span_56 : decode cX9_span 56 = .ok (.invokevirtual 302, 3) := by decide +kernel
theorem dX9_span_59 : decode cX9_span 59 = .ok (.ireturn, 1) := by decide +kernel
set_option maxRecDepth 20000 in
theorem ggX9_agrees_X9_isLine : GoodIn wsX9_agrees wsX9_isLine := goodIn_r _ [11] (by decide +kernel) (by decide +kernel)
set_option maxRecDepth 20000 in
theorem gX9_agrees_X9_isLine : GoodIn wsX9_agrees (va_wsS RX9 189 yX9_isLine wsX9_isLine) := goodIn_app (goodIn_of _ (by decide +kernel)) ggX9_agrees_X9_isLine
set_option maxRecDepth 20000 in
theorem ggX9_agrees_X9_firstYear : GoodIn wsX9_agrees wsX9_firstYear := goodIn_r _ [15, 16, 17, 18, 45, 46, 47, 48, 49, 50, 51, 52, 53, 54, 55, 56, 57, 58, 64, 65, 66, 67, 68, 69, 70, 71, 72, 73] (by decide +kernel) (by decide +kernel)
set_option maxRecDepth 20000 in
theorem gX9_agrees_X9_firstYear : GoodIn wsX9_agrees (wsV RX9 302 RX9 yX9_firstYear wsX9_firstYear) := goodIn_app (goodIn_of _ (by decide +kernel)) ggX9_agrees_X9_firstYear
set_option maxRecDepth 20000 in
theorem ggX9_agrees_X9_hasSpan : GoodIn wsX9_agrees wsX9_hasSpan := goodIn_r _ [22, 16, 17, 23, 24, 25, 26, 27, 18, 28, 29, 30, 31, 32, 33, 34, 35, 36, 37, 5, 6, 7, 38, 39, 40, 45, 46, 47, 48, 49, 50, 51, 52, 53, 54, 55, 56, 57, 58, 64, 65, 66, 67, 68, 69, 70, 71, 72, 73, 74, 75, 76, 77, 78, 79] (by decide +kernel) (by decide +kernel)
set_option maxRecDepth 20000 in
theorem gX9_agrees_X9_hasSpan : GoodIn wsX9_agrees (wsV RX9 296 RX9 yX9_hasSpan wsX9_hasSpan) := goodIn_app (goodIn_of _ (by decide +kernel)) ggX9_agrees_X9_hasSpan
set_option maxRecDepth 20000 in
theorem ggX9_agrees_X9_lastYear : GoodIn wsX9_agrees wsX9_lastYear := goodIn_r _ [44, 16, 17, 23, 45, 46, 47, 48, 49, 50, 51, 52, 53, 54, 55, 56, 57, 58, 64, 65, 66, 67, 68, 69, 70, 71, 72, 73] (by decide +kernel) (by decide +kernel)
set_option maxRecDepth 20000 in
theorem gX9_agrees_X9_lastYear : GoodIn wsX9_agrees (wsV RX9 299 RX9 yX9_lastYear wsX9_lastYear) := goodIn_app (goodIn_of _ (by decide +kernel)) ggX9_agrees_X9_lastYear
theorem dX9_agrees_0 : decode cX9_agrees 0 = .ok (.iload_n 1, 1) := by decide +kernel
theorem dX9_agrees_1 : decode cX9_agrees 1 = .ok (.invokestatic 189, 3) := by decide +kernel
theorem dX9_agrees_4 : decode cX9_agrees 4 = .ok (.ifCond .ne 5, 3) := by decide +kernel
theorem dX9_agrees_7 : decode cX9_agrees 7 = .ok (.iconst (-1), 1) := by decide +kernel
theorem dX9_agrees_8 : decode cX9_agrees 8 = .ok (.ireturn, 1) := by decide +kernel
theorem dX9_agrees_9 : decode cX9_agrees 9 = .ok (.aload_n 0, 1) := by decide +kernel
theorem dX9_agrees_10 : decode cX9_agrees 10 = .ok (.getfield 25, 3) := by decide +kernel
theorem dX9_agrees_13 : decode cX9_agrees 13 = .ok (.iload_n 1, 1) := by decide +kernel
theorem dX9_agrees_14 : decode cX9_agrees 14 = .ok (.aaload, 1) := by decide +kernel
theorem dX9_agrees_15 : decode cX9_agrees 15 = .ok (.astore_n 2, 1) := by decide +kernel
theorem dX9_agrees_16 : decode cX9_agrees 16 = .ok (.aload_n 2, 1) := by decide +kernel
theorem dX9_agrees_17 : decode cX9_agrees 17 = .ok (.getfield 238, 3) := by decide +kernel
theorem dX9_agrees_20 : decode cX9_agrees 20 = .ok (.ifCond .ne 6, 3) := by decide +kernel
theorem dX9_agrees_23 : decode cX9_agrees 23 = .ok (.bipush (-4), 2) := by decide +kernel
theorem dX9_agrees_25 : decode cX9_agrees 25 = .ok (.ireturn, 1) := by decide +kernel
theorem dX9_agrees_26 : decode cX9_agrees 26 = .ok (.sipush 1700, 3) := by decide +kernel
theorem dX9_agrees_29 : decode cX9_agrees 29 = .ok (.istore_n 3, 1) := by decide +kernel
theorem dX9_agrees_30 : decode cX9_agrees 30 = .ok (.iconst 0, 1) := by decide +kernel
theorem dX9_agrees_31 : decode cX9_agrees 31 = .ok (.istore 4, 2) := by decide +kernel
theorem dX9_agrees_33 : decode cX9_agrees 33 = .ok (.iload 4, 2) := by decide +kernel
theorem dX9_agrees_35 : decode cX9_agrees 35 = .ok (.aload_n 2, 1) := by decide +kernel
theorem dX9_agrees_36 : decode cX9_agrees 36 = .ok (.getfield 238, 3) := by decide +kernel
theorem dX9_agrees_39 : decode cX9_agrees 39 = .ok (.if_icmp .ge 51, 3) := by decide +kernel
theorem dX9_agrees_42 : decode cX9_agrees 42 = .ok (.aload_n 2, 1) := by decide +kernel
theorem dX9_agrees_43 : decode cX9_agrees 43 = .ok (.getfield 305, 3) := by decide +kernel
theorem dX9_agrees_46 : decode cX9_agrees 46 = .ok (.iload 4, 2) := by decide +kernel
theorem dX9_agrees_48 : decode cX9_agrees 48 = .ok (.iaload, 1) := by decide +kernel
theorem dX9_agrees_49 : decode cX9_agrees 49 = .ok (.istore 5, 2) := by decide +kernel
theorem dX9_agrees_51 : decode cX9_agrees 51 = .ok (.iload_n 3, 1) := by decide +kernel
theorem dX9_agrees_52 : decode cX9_agrees 52 = .ok (.aload_n 0, 1) := by decide +kernel
theorem dX9_agrees_53 : decode cX9_agrees 53 = .ok (.iload 5, 2) := by decide +kernel
theorem dX9_agrees_55 : decode cX9_agrees 55 = .ok (.invokevirtual 302, 3) := by decide +kernel
theorem dX9_agrees_58 : decode cX9_agrees 58 = .ok (.invokestatic 308, 3) := by decide +kernel
theorem dX9_agrees_61 : decode cX9_agrees 61 = .ok (.istore_n 3, 1) := by decide +kernel
theorem dX9_agrees_62 : decode cX9_agrees 62 = .ok (.aload_n 0, 1) := by decide +kernel
theorem dX9_agrees_63 : decode cX9_agrees 63 = .ok (.iload 5, 2) := by decide +kernel
theorem dX9_agrees_65 : decode cX9_agrees 65 = .ok (.invokevirtual 296, 3) := by decide +kernel
theorem dX9_agrees_68 : decode cX9_agrees 68 = .ok (.ifCond .eq 13, 3) := by decide +kernel
theorem dX9_agrees_71 : decode cX9_agrees 71 = .ok (.iload_n 3, 1) := by decide +kernel
theorem dX9_agrees_72 : decode cX9_agrees 72 = .ok (.aload_n 0, 1) := by decide +kernel
theorem dX9_agrees_73 : decode cX9_agrees 73 = .ok (.iload 5, 2) := by decide +kernel
theorem dX9_agrees_75 : decode cX9_agrees 75 = .ok (.invokevirtual 299, 3) := by decide +kernel
theorem dX9_agrees_78 : decode cX9_agrees 78 = .ok (.if_icmp .le 6, 3) := by decide +kernel
theorem dX9_agrees_81 : decode cX9_agrees 81 = .ok (.bipush (-9), 2) := by decide +kernel
theorem dX9_agrees_83 : decode cX9_agrees 83 = .ok (.ireturn, 1) := by decide +kernel
theorem dX9_agrees_84 : decode cX9_agrees 84 = .ok (.iinc 4 1, 3) := by decide +kernel
theorem dX9_agrees_87 : decode cX9_agrees 87 = .ok (.goto (-54), 3) := by decide +kernel
theorem dX9_agrees_90 : decode cX9_agrees 90 = .ok (.iload_n 3, 1) := by decide +kernel
theorem dX9_agrees_91 : decode cX9_agrees 91 = .ok (.ireturn, 1) := by decide +kernel
set_option maxRecDepth 20000 in
theorem ggX9_light_X1_isNumber : GoodIn wsX9_light wsX1_isNumber := goodIn_r _ [6] (by decide +kernel) (by decide +kernel)
set_option maxRecDepth 20000 in
theorem gX9_light_X1_isNumber : GoodIn wsX9_light (va_wsS RX9 313 yX1_isNumber wsX1_isNumber) := goodIn_app (goodIn_of _ (by decide +kernel)) ggX9_light_X1_isNumber
set_option maxRecDepth 20000 in
theorem ggX9_light_X9_isLine : GoodIn wsX9_light wsX9_isLine := goodIn_r _ [10] (by decide +kernel) (by decide +kernel)
set_option maxRecDepth 20000 in
theorem gX9_light_X9_isLine : GoodIn wsX9_light (va_wsS RX9 189 yX9_isLine wsX9_isLine) := goodIn_app (goodIn_of _ (by decide +kernel)) ggX9_light_X9_isLine
set_option maxRecDepth 20000 in
theorem ggX9_light_X9_isCells : GoodIn wsX9_light wsX9_isCells := goodIn_r _ [13] (by decide +kernel) (by decide +kernel)
set_option maxRecDepth 20000 in
theorem gX9_light_X9_isCells : GoodIn wsX9_light (va_wsS RX9 86 yX9_isCells wsX9_isCells) := goodIn_app (goodIn_of _ (by decide +kernel)) ggX9_light_X9_isCells
set_option maxRecDepth 20000 in
theorem ggX9_light_X1_isFull : GoodIn wsX9_light wsX1_isFull := goodIn_r _ [17, 18, 50, 51, 52, 53, 54] (by decide +kernel) (by decide +kernel)
set_option maxRecDepth 20000 in
theorem gX9_light_X1_isFull : GoodIn wsX9_light (wsV RX9 314 RX1 yX1_isFull wsX1_isFull) := goodIn_app (goodIn_of _ (by decide +kernel)) ggX9_light_X1_isFull
set_option maxRecDepth 20000 in
theorem ggX9_light_X9_isSlot : GoodIn wsX9_light wsX9_isSlot := goodIn_r _ [21] (by decide +kernel) (by decide +kernel)
set_option maxRecDepth 20000 in
theorem gX9_light_X9_isSlot : GoodIn wsX9_light (va_wsS RX9 192 yX9_isSlot wsX9_isSlot) := goodIn_app (goodIn_of _ (by decide +kernel)) ggX9_light_X9_isSlot
set_option maxRecDepth 20000 in
theorem ggX9_light_X9_refuse : GoodIn wsX9_light wsX9_refuse := goodIn_r _ [25, 26, 27, 36, 37, 38, 39, 40, 41, 42, 43, 44, 45, 46, 47, 48, 49] (by decide +kernel) (by decide +kernel)
set_option maxRecDepth 20000 in
theorem gX9_light_X9_refuse : GoodIn wsX9_light (wsV RX9 96 RX9 yX9_refuse wsX9_refuse) := goodIn_app (goodIn_of _ (by decide +kernel)) ggX9_light_X9_refuse
set_option maxRecDepth 20000 in
theorem ggX9_light_X1_add : GoodIn wsX9_light wsX1_add := goodIn_r _ [31, 32, 18, 33, 34, 35, 50, 51, 52, 53, 54] (by decide +kernel) (by decide +kernel)
set_option maxRecDepth 20000 in
theorem gX9_light_X1_add : GoodIn wsX9_light (wsV RX9 315 RX1 yX1_add wsX1_add) := goodIn_app (goodIn_of _ (by decide +kernel)) ggX9_light_X1_add
theorem dX9_light_0 : decode cX9_light 0 = .ok (.iload_n 1, 1) := by decide +kernel
theorem dX9_light_1 : decode cX9_light 1 = .ok (.invokestatic 313, 3) := by decide +kernel
theorem dX9_light_4 : decode cX9_light 4 = .ok (.ifCond .eq 18, 3) := by decide +kernel
theorem dX9_light_7 : decode cX9_light 7 = .ok (.iload_n 2, 1) := by decide +kernel
theorem dX9_light_8 : decode cX9_light 8 = .ok (.invokestatic 189, 3) := by decide +kernel
theorem dX9_light_11 : decode cX9_light 11 = .ok (.ifCond .eq 11, 3) := by decide +kernel
theorem dX9_light_14 : decode cX9_light 14 = .ok (.iload 4, 2) := by decide +kernel
theorem dX9_light_16 : decode cX9_light 16 = .ok (.invokestatic 86, 3) := by decide +kernel
theorem dX9_light_19 : decode cX9_light 19 = .ok (.ifCond .ne 5, 3) := by decide +kernel
theorem dX9_light_22 : decode cX9_light 22 = .ok (.iconst (-1), 1) := by decide +kernel
theorem dX9_light_23 : decode cX9_light 23 = .ok (.ireturn, 1) := by decide +kernel
theorem dX9_light_24 : decode cX9_light 24 = .ok (.aload_n 0, 1) := by decide +kernel
theorem dX9_light_25 : decode cX9_light 25 = .ok (.getfield 40, 3) := by decide +kernel
theorem dX9_light_28 : decode cX9_light 28 = .ok (.invokevirtual 314, 3) := by decide +kernel
theorem dX9_light_31 : decode cX9_light 31 = .ok (.ifCond .eq 6, 3) := by decide +kernel
theorem dX9_light_34 : decode cX9_light 34 = .ok (.bipush (-2), 2) := by decide +kernel
theorem dX9_light_36 : decode cX9_light 36 = .ok (.ireturn, 1) := by decide +kernel
theorem dX9_light_37 : decode cX9_light 37 = .ok (.iload_n 3, 1) := by decide +kernel
theorem dX9_light_38 : decode cX9_light 38 = .ok (.invokestatic 192, 3) := by decide +kernel
theorem dX9_light_41 : decode cX9_light 41 = .ok (.ifCond .ne 9, 3) := by decide +kernel
theorem dX9_light_44 : decode cX9_light 44 = .ok (.aload_n 0, 1) := by decide +kernel
theorem dX9_light_45 : decode cX9_light 45 = .ok (.iconst 2, 1) := by decide +kernel
theorem dX9_light_46 : decode cX9_light 46 = .ok (.invokevirtual 96, 3) := by decide +kernel
theorem dX9_light_49 : decode cX9_light 49 = .ok (.ireturn, 1) := by decide +kernel
theorem dX9_light_50 : decode cX9_light 50 = .ok (.aload_n 0, 1) := by decide +kernel
theorem dX9_light_51 : decode cX9_light 51 = .ok (.getfield 40, 3) := by decide +kernel
theorem dX9_light_54 : decode cX9_light 54 = .ok (.iload_n 1, 1) := by decide +kernel
theorem dX9_light_55 : decode cX9_light 55 = .ok (.iload_n 2, 1) := by decide +kernel
theorem dX9_light_56 : decode cX9_light 56 = .ok (.iload_n 3, 1) := by decide +kernel
theorem dX9_light_57 : decode cX9_light 57 = .ok (.iload 4, 2) := by decide +kernel
theorem dX9_light_59 : decode cX9_light 59 = .ok (.invokevirtual 315, 3) := by decide +kernel
theorem dX9_light_62 : decode cX9_light 62 = .ok (.aload_n 0, 1) := by decide +kernel
theorem dX9_light_63 : decode cX9_light 63 = .ok (.getfield 40, 3) := by decide +kernel
theorem dX9_light_66 : decode cX9_light 66 = .ok (.getfield 317, 3) := by decide +kernel
theorem dX9_light_69 : decode cX9_light 69 = .ok (.ireturn, 1) := by decide +kernel
set_option maxRecDepth 20000 in
theorem ggX9_gain_X1_isNumber : GoodIn wsX9_gain wsX1_isNumber := goodIn_r _ [5] (by decide +kernel) (by decide +kernel)
set_option maxRecDepth 20000 in
theorem gX9_gain_X1_isNumber : GoodIn wsX9_gain (va_wsS RX9 313 yX1_isNumber wsX1_isNumber) := goodIn_app (goodIn_of _ (by decide +kernel)) ggX9_gain_X1_isNumber
set_option maxRecDepth 20000 in
theorem ggX9_gain_X9_isLine : GoodIn wsX9_gain wsX9_isLine := goodIn_r _ [9] (by decide +kernel) (by decide +kernel)
set_option maxRecDepth 20000 in
theorem gX9_gain_X9_isLine : GoodIn wsX9_gain (va_wsS RX9 189 yX9_isLine wsX9_isLine) := goodIn_app (goodIn_of _ (by decide +kernel)) ggX9_gain_X9_isLine
set_option maxRecDepth 20000 in
theorem ggX9_gain_X9_isColour : GoodIn wsX9_gain wsX9_isColour := goodIn_r _ [12] (by decide +kernel) (by decide +kernel)
set_option maxRecDepth 20000 in
theorem gX9_gain_X9_isColour : GoodIn wsX9_gain (va_wsS RX9 201 yX9_isColour wsX9_isColour) := goodIn_app (goodIn_of _ (by decide +kernel)) ggX9_gain_X9_isColour
set_option maxRecDepth 20000 in
theorem ggX9_gain_X9_splitRivals : GoodIn wsX9_gain wsX9_splitRivals := goodIn_r _ [16, 17, 18, 19, 20, 21, 22, 23, 24, 25, 26, 8, 27, 28, 29, 30, 31, 32, 33, 34, 35, 36, 37, 38, 39, 40, 41, 42, 43, 44, 45, 46, 47, 48, 49, 50, 51, 52, 53, 54, 55, 56, 57, 58, 59, 60, 61, 62, 63, 64, 65, 66, 67, 68, 69, 70, 71, 72, 73, 74, 75, 76, 77, 78, 79, 80, 81, 82, 83, 84, 85, 86, 87, 88, 89, 90, 105, 106, 107, 108, 109, 110, 111, 112, 113, 114, 115, 116, 117, 118, 119, 120, 121, 122, 123, 124, 125, 126, 127, 128, 129, 130, 131, 132, 133, 134, 135, 136, 137, 138] (by decide +kernel) (by decide +kernel)
set_option maxRecDepth 20000 in
theorem gX9_gain_X9_splitRivals : GoodIn wsX9_gain (wsV RX9 320 RX9 yX9_splitRivals wsX9_splitRivals) := goodIn_app (goodIn_of _ (by decide +kernel)) ggX9_gain_X9_splitRivals
set_option maxRecDepth 20000 in
theorem ggX9_gain_X9_gainOf : GoodIn wsX9_gain wsX9_gainOf := goodIn_r _ [94, 95, 1, 23, 96, 97, 98, 4, 99, 100, 101, 102, 103, 104, 56, 57, 58, 59, 60, 61, 62, 63, 64, 65, 66, 67, 68, 105, 106, 107, 108, 109, 110, 111, 112, 113, 114, 115, 116, 117, 118, 139, 140, 141, 142, 143, 134, 135, 136, 137, 138] (by decide +kernel) (by decide +kernel)
set_option maxRecDepth 20000 in
theorem gX9_gain_X9_gainOf : GoodIn wsX9_gain (wsV RX9 324 RX9 yX9_gainOf wsX9_gainOf) := goodIn_app (goodIn_of _ (by decide +kernel)) ggX9_gain_X9_gainOf
theorem dX9_gain_0 : decode cX9_gain 0 = .ok (.iload_n 1, 1) := by decide +kernel
theorem dX9_gain_1 : decode cX9_gain 1 = .ok (.invokestatic 313, 3) := by decide +kernel
theorem dX9_gain_4 : decode cX9_gain 4 = .ok (.ifCond .eq 17, 3) := by decide +kernel
theorem dX9_gain_7 : decode cX9_gain 7 = .ok (.iload_n 2, 1) := by decide +kernel
theorem dX9_gain_8 : decode cX9_gain 8 = .ok (.invokestatic 189, 3) := by decide +kernel
theorem dX9_gain_11 : decode cX9_gain 11 = .ok (.ifCond .eq 10, 3) := by decide +kernel
theorem dX9_gain_14 : decode cX9_gain 14 = .ok (.iload_n 3, 1) := by decide +kernel
theorem dX9_gain_15 : decode cX9_gain 15 = .ok (.invokestatic 201, 3) := by decide +kernel
theorem dX9_gain_18 : decode cX9_gain 18 = .ok (.ifCond .ne 5, 3) := by decide +kernel
theorem dX9_gain_21 : decode cX9_gain 21 = .ok (.iconst (-1), 1) := by decide +kernel
theorem dX9_gain_22 : decode cX9_gain 22 = .ok (.ireturn, 1) := by decide +kernel
theorem dX9_gain_23 : decode cX9_gain 23 = .ok (.aload_n 0, 1) := by decide +kernel
theorem dX9_gain_24 : decode cX9_gain 24 = .ok (.aload_n 0, 1) := by decide +kernel
theorem dX9_gain_25 : decode cX9_gain 25 = .ok (.getfield 25, 3) := by decide +kernel
theorem dX9_gain_28 : decode cX9_gain 28 = .ok (.iload_n 2, 1) := by decide +kernel
theorem dX9_gain_29 : decode cX9_gain 29 = .ok (.aaload, 1) := by decide +kernel
theorem dX9_gain_30 : decode cX9_gain 30 = .ok (.iload_n 3, 1) := by decide +kernel
theorem dX9_gain_31 : decode cX9_gain 31 = .ok (.invokevirtual 320, 3) := by decide +kernel
theorem dX9_gain_34 : decode cX9_gain 34 = .ok (.aload_n 0, 1) := by decide +kernel
theorem dX9_gain_35 : decode cX9_gain 35 = .ok (.iload_n 1, 1) := by decide +kernel
theorem dX9_gain_36 : decode cX9_gain 36 = .ok (.iload_n 2, 1) := by decide +kernel
theorem dX9_gain_37 : decode cX9_gain 37 = .ok (.invokevirtual 324, 3) := by decide +kernel
theorem dX9_gain_40 : decode cX9_gain 40 = .ok (.ireturn, 1) := by decide +kernel
set_option maxRecDepth 20000 in
theorem ggX9_next_X9_isLine : GoodIn wsX9_next wsX9_isLine := goodIn_r _ [5] (by decide +kernel) (by decide +kernel)
set_option maxRecDepth 20000 in
theorem gX9_next_X9_isLine : GoodIn wsX9_next (va_wsS RX9 189 yX9_isLine wsX9_isLine) := goodIn_app (goodIn_of _ (by decide +kernel)) ggX9_next_X9_isLine
set_option maxRecDepth 20000 in
theorem ggX9_next_X9_isColour : GoodIn wsX9_next wsX9_isColour := goodIn_r _ [8] (by decide +kernel) (by decide +kernel)
set_option maxRecDepth 20000 in
theorem gX9_next_X9_isColour : GoodIn wsX9_next (va_wsS RX9 201 yX9_isColour wsX9_isColour) := goodIn_app (goodIn_of _ (by decide +kernel)) ggX9_next_X9_isColour
set_option maxRecDepth 20000 in
theorem ggX9_next_X9_splitRivals : GoodIn wsX9_next wsX9_splitRivals := goodIn_r _ [12, 13, 14, 15, 16, 17, 18, 19, 20, 21, 22, 4, 23, 24, 25, 26, 27, 28, 29, 30, 31, 32, 33, 34, 35, 36, 37, 38, 39, 40, 41, 42, 43, 44, 45, 46, 47, 48, 49, 50, 51, 52, 53, 54, 55, 56, 57, 58, 59, 60, 61, 62, 63, 64, 65, 66, 67, 68, 69, 70, 71, 72, 73, 74, 75, 76, 77, 78, 79, 80, 81, 82, 83, 84, 85, 86, 102, 103, 104, 105, 106, 107, 108, 109, 110, 111, 112, 113, 114, 115, 116, 117, 118, 119, 120, 121, 122, 123, 124, 125, 126, 127, 128, 129, 130, 131, 132, 133, 134, 135] (by decide +kernel) (by decide +kernel)
set_option maxRecDepth 20000 in
theorem gX9_next_X9_splitRivals : GoodIn wsX9_next (wsV RX9 320 RX9 yX9_splitRivals wsX9_splitRivals) := goodIn_app (goodIn_of _ (by decide +kernel)) ggX9_next_X9_splitRivals
set_option maxRecDepth 20000 in
theorem ggX9_next_X9_gainOf : GoodIn wsX9_next wsX9_gainOf := goodIn_r _ [90, 91, 1, 19, 92, 93, 94, 95, 96, 97, 98, 99, 100, 101, 52, 53, 54, 55, 56, 57, 58, 59, 60, 61, 62, 63, 64, 102, 103, 104, 105, 106, 107, 108, 109, 110, 111, 112, 113, 114, 115, 136, 137, 138, 139, 140, 131, 132, 133, 134, 135] (by decide +kernel) (by decide +kernel)
set_option maxRecDepth 20000 in
theorem gX9_next_X9_gainOf : GoodIn wsX9_next (wsV RX9 324 RX9 yX9_gainOf wsX9_gainOf) := goodIn_app (goodIn_of _ (by decide +kernel)) ggX9_next_X9_gainOf
theorem dX9_next_0 : decode cX9_next 0 = .ok (.iload_n 1, 1) := by decide +kernel
theorem dX9_next_1 : decode cX9_next 1 = .ok (.invokestatic 189, 3) := by decide +kernel
theorem dX9_next_4 : decode cX9_next 4 = .ok (.ifCond .eq 10, 3) := by decide +kernel
theorem dX9_next_7 : decode cX9_next 7 = .ok (.iload_n 2, 1) := by decide +kernel
theorem dX9_next_8 : decode cX9_next 8 = .ok (.invokestatic 201, 3) := by decide +kernel
theorem dX9_next_11 : decode cX9_next 11 = .ok (.ifCond .ne 5, 3) := by decide +kernel
theorem dX9_next_14 : decode cX9_next 14 = .ok (.iconst (-1), 1) := by decide +kernel
theorem dX9_next_15 : decode cX9_next 15 = .ok (.ireturn, 1) := by decide +kernel
theorem dX9_next_16 : decode cX9_next 16 = .ok (.aload_n 0, 1) := by decide +kernel
theorem dX9_next_17 : decode cX9_next 17 = .ok (.aload_n 0, 1) := by decide +kernel
theorem dX9_next_18 : decode cX9_next 18 = .ok (.getfield 25, 3) := by decide +kernel
theorem dX9_next_21 : decode cX9_next 21 = .ok (.iload_n 1, 1) := by decide +kernel
theorem dX9_next_22 : decode cX9_next 22 = .ok (.aaload, 1) := by decide +kernel
theorem dX9_next_23 : decode cX9_next 23 = .ok (.iload_n 2, 1) := by decide +kernel
theorem dX9_next_24 : decode cX9_next 24 = .ok (.invokevirtual 320, 3) := by decide +kernel
theorem dX9_next_27 : decode cX9_next 27 = .ok (.bipush (-9), 2) := by decide +kernel
theorem dX9_next_29 : decode cX9_next 29 = .ok (.istore_n 3, 1) := by decide +kernel
theorem dX9_next_30 : decode cX9_next 30 = .ok (.iconst 0, 1) := by decide +kernel
theorem dX9_next_31 : decode cX9_next 31 = .ok (.istore 4, 2) := by decide +kernel
theorem dX9_next_33 : decode cX9_next 33 = .ok (.iconst 0, 1) := by decide +kernel
theorem dX9_next_34 : decode cX9_next 34 = .ok (.istore 5, 2) := by decide +kernel
theorem dX9_next_36 : decode cX9_next 36 = .ok (.iload 5, 2) := by decide +kernel
theorem dX9_next_38 : decode cX9_next 38 = .ok (.bipush 6, 2) := by decide +kernel
theorem dX9_next_40 : decode cX9_next 40 = .ok (.if_icmp .ge 32, 3) := by decide +kernel
theorem dX9_next_43 : decode cX9_next 43 = .ok (.aload_n 0, 1) := by decide +kernel
theorem dX9_next_44 : decode cX9_next 44 = .ok (.iload 5, 2) := by decide +kernel
theorem dX9_next_46 : decode cX9_next 46 = .ok (.iload_n 1, 1) := by decide +kernel
theorem dX9_next_47 : decode cX9_next 47 = .ok (.invokevirtual 324, 3) := by decide +kernel
theorem dX9_next_50 : decode cX9_next 50 = .ok (.istore 6, 2) := by decide +kernel
theorem dX9_next_52 : decode cX9_next 52 = .ok (.iload 6, 2) := by decide +kernel
theorem dX9_next_54 : decode cX9_next 54 = .ok (.iload 4, 2) := by decide +kernel
theorem dX9_next_56 : decode cX9_next 56 = .ok (.if_icmp .le 10, 3) := by decide +kernel
theorem dX9_next_59 : decode cX9_next 59 = .ok (.iload 6, 2) := by decide +kernel
theorem dX9_next_61 : decode cX9_next 61 = .ok (.istore 4, 2) := by decide +kernel
theorem dX9_next_63 : decode cX9_next 63 = .ok (.iload 5, 2) := by decide +kernel
theorem dX9_next_65 : decode cX9_next 65 = .ok (.istore_n 3, 1) := by decide +kernel
theorem dX9_next_66 : decode cX9_next 66 = .ok (.iinc 5 1, 3) := by decide +kernel
theorem dX9_next_69 : decode cX9_next 69 = .ok (.goto (-33), 3) := by decide +kernel
theorem dX9_next_72 : decode cX9_next 72 = .ok (.iload_n 3, 1) := by decide +kernel
theorem dX9_next_73 : decode cX9_next 73 = .ok (.ireturn, 1) := by decide +kernel
set_option maxRecDepth 20000 in
theorem ggX9_read_X9_isLine : GoodIn wsX9_read wsX9_isLine := goodIn_r _ [8] (by decide +kernel) (by decide +kernel)
set_option maxRecDepth 20000 in
theorem gX9_read_X9_isLine : GoodIn wsX9_read (va_wsS RX9 189 yX9_isLine wsX9_isLine) := goodIn_app (goodIn_of _ (by decide +kernel)) ggX9_read_X9_isLine
set_option maxRecDepth 20000 in
theorem ggX9_read_X8_isNumber : GoodIn wsX9_read wsX8_isNumber := goodIn_r _ [13, 14, 47, 48, 49, 50, 51, 52, 53, 54, 55, 56] (by decide +kernel) (by decide +kernel)
set_option maxRecDepth 20000 in
theorem gX9_read_X8_isNumber : GoodIn wsX9_read (wsV RX9 142 RX8 yX8_isNumber wsX8_isNumber) := goodIn_app (goodIn_of _ (by decide +kernel)) ggX9_read_X8_isNumber
set_option maxRecDepth 20000 in
theorem ggX9_read_X0_isFull : GoodIn wsX9_read wsX0_isFull := goodIn_r _ [19, 20, 57, 58, 59] (by decide +kernel) (by decide +kernel)
set_option maxRecDepth 20000 in
theorem gX9_read_X0_isFull : GoodIn wsX9_read (wsV RX9 327 RX0 yX0_isFull wsX0_isFull) := goodIn_app (goodIn_of _ (by decide +kernel)) ggX9_read_X0_isFull
set_option maxRecDepth 20000 in
theorem ggX9_read_X9_refuse : GoodIn wsX9_read wsX9_refuse := goodIn_r _ [24, 25, 26, 33, 34, 35, 36, 37, 38, 39, 40, 41, 42, 43, 44, 45, 46] (by decide +kernel) (by decide +kernel)
set_option maxRecDepth 20000 in
theorem gX9_read_X9_refuse : GoodIn wsX9_read (wsV RX9 96 RX9 yX9_refuse wsX9_refuse) := goodIn_app (goodIn_of _ (by decide +kernel)) ggX9_read_X9_refuse
set_option maxRecDepth 20000 in
theorem ggX9_read_X0_add : GoodIn wsX9_read wsX0_add := goodIn_r _ [30, 31, 20, 32, 57, 58, 59] (by decide +kernel) (by decide +kernel)
set_option maxRecDepth 20000 in
theorem gX9_read_X0_add : GoodIn wsX9_read (wsV RX9 328 RX0 yX0_add wsX0_add) := goodIn_app (goodIn_of _ (by decide +kernel)) ggX9_read_X0_add
theorem dX9_read_0 : decode cX9_read 0 = .ok (.iload_n 1, 1) := by decide +kernel
theorem dX9_read_1 : decode cX9_read 1 = .ok (.invokestatic 189, 3) := by decide +kernel
theorem dX9_read_4 : decode cX9_read 4 = .ok (.ifCond .eq 14, 3) := by decide +kernel
theorem dX9_read_7 : decode cX9_read 7 = .ok (.aload_n 0, 1) := by decide +kernel
theorem dX9_read_8 : decode cX9_read 8 = .ok (.getfield 19, 3) := by decide +kernel
theorem dX9_read_11 : decode cX9_read 11 = .ok (.iload_n 2, 1) := by decide +kernel
theorem dX9_read_12 : decode cX9_read 12 = .ok (.invokevirtual 142, 3) := by decide +kernel
theorem dX9_read_15 : decode cX9_read 15 = .ok (.ifCond .ne 5, 3) := by decide +kernel
theorem dX9_read_18 : decode cX9_read 18 = .ok (.iconst (-1), 1) := by decide +kernel
theorem dX9_read_19 : decode cX9_read 19 = .ok (.ireturn, 1) := by decide +kernel
theorem dX9_read_20 : decode cX9_read 20 = .ok (.aload_n 0, 1) := by decide +kernel
theorem dX9_read_21 : decode cX9_read 21 = .ok (.getfield 47, 3) := by decide +kernel
theorem dX9_read_24 : decode cX9_read 24 = .ok (.invokevirtual 327, 3) := by decide +kernel
theorem dX9_read_27 : decode cX9_read 27 = .ok (.ifCond .eq 6, 3) := by decide +kernel
theorem dX9_read_30 : decode cX9_read 30 = .ok (.bipush (-2), 2) := by decide +kernel
theorem dX9_read_32 : decode cX9_read 32 = .ok (.ireturn, 1) := by decide +kernel
theorem dX9_read_33 : decode cX9_read 33 = .ok (.aload_n 0, 1) := by decide +kernel
theorem dX9_read_34 : decode cX9_read 34 = .ok (.getfield 19, 3) := by decide +kernel
theorem dX9_read_37 : decode cX9_read 37 = .ok (.getfield 146, 3) := by decide +kernel
theorem dX9_read_40 : decode cX9_read 40 = .ok (.iload_n 2, 1) := by decide +kernel
theorem dX9_read_41 : decode cX9_read 41 = .ok (.baload, 1) := by decide +kernel
theorem dX9_read_42 : decode cX9_read 42 = .ok (.ifCond .eq 9, 3) := by decide +kernel
theorem dX9_read_45 : decode cX9_read 45 = .ok (.aload_n 0, 1) := by decide +kernel
theorem dX9_read_46 : decode cX9_read 46 = .ok (.iconst 1, 1) := by decide +kernel
theorem dX9_read_47 : decode cX9_read 47 = .ok (.invokevirtual 96, 3) := by decide +kernel
theorem dX9_read_50 : decode cX9_read 50 = .ok (.ireturn, 1) := by decide +kernel
theorem dX9_read_51 : decode cX9_read 51 = .ok (.aload_n 0, 1) := by decide +kernel
theorem dX9_read_52 : decode cX9_read 52 = .ok (.getfield 47, 3) := by decide +kernel
theorem dX9_read_55 : decode cX9_read 55 = .ok (.iload_n 1, 1) := by decide +kernel
theorem dX9_read_56 : decode cX9_read 56 = .ok (.iload_n 2, 1) := by decide +kernel
theorem dX9_read_57 : decode cX9_read 57 = .ok (.invokevirtual 328, 3) := by decide +kernel
theorem dX9_read_60 : decode cX9_read 60 = .ok (.aload_n 0, 1) := by decide +kernel
theorem dX9_read_61 : decode cX9_read 61 = .ok (.getfield 47, 3) := by decide +kernel
theorem dX9_read_64 : decode cX9_read 64 = .ok (.getfield 330, 3) := by decide +kernel
theorem dX9_read_67 : decode cX9_read 67 = .ok (.ireturn, 1) := by decide +kernel
set_option maxRecDepth 20000 in
theorem ggX9_spread_X9_isLine : GoodIn wsX9_spread wsX9_isLine := goodIn_r _ [8] (by decide +kernel) (by decide +kernel)
set_option maxRecDepth 20000 in
theorem gX9_spread_X9_isLine : GoodIn wsX9_spread (va_wsS RX9 189 yX9_isLine wsX9_isLine) := goodIn_app (goodIn_of _ (by decide +kernel)) ggX9_spread_X9_isLine
set_option maxRecDepth 20000 in
theorem ggX9_spread_X0_timesRead : GoodIn wsX9_spread wsX0_timesRead := goodIn_r _ [13, 14, 15, 16, 41, 42, 43] (by decide +kernel) (by decide +kernel)
set_option maxRecDepth 20000 in
theorem gX9_spread_X0_timesRead : GoodIn wsX9_spread (wsV RX9 334 RX0 yX0_timesRead wsX0_timesRead) := goodIn_app (goodIn_of _ (by decide +kernel)) ggX9_spread_X0_timesRead
theorem dX9_spread_0 : decode cX9_spread 0 = .ok (.iload_n 1, 1) := by decide +kernel
theorem dX9_spread_1 : decode cX9_spread 1 = .ok (.invokestatic 189, 3) := by decide +kernel
theorem dX9_spread_4 : decode cX9_spread 4 = .ok (.ifCond .ne 5, 3) := by decide +kernel
theorem dX9_spread_7 : decode cX9_spread 7 = .ok (.iconst (-1), 1) := by decide +kernel
theorem dX9_spread_8 : decode cX9_spread 8 = .ok (.ireturn, 1) := by decide +kernel
theorem dX9_spread_9 : decode cX9_spread 9 = .ok (.iconst 0, 1) := by decide +kernel
theorem dX9_spread_10 : decode cX9_spread 10 = .ok (.istore_n 2, 1) := by decide +kernel
theorem dX9_spread_11 : decode cX9_spread 11 = .ok (.iconst 0, 1) := by decide +kernel
theorem dX9_spread_12 : decode cX9_spread 12 = .ok (.istore_n 3, 1) := by decide +kernel
theorem dX9_spread_13 : decode cX9_spread 13 = .ok (.aload_n 0, 1) := by decide +kernel
theorem dX9_spread_14 : decode cX9_spread 14 = .ok (.bipush (-9), 2) := by decide +kernel
theorem dX9_spread_16 : decode cX9_spread 16 = .ok (.putfield 221, 3) := by decide +kernel
theorem dX9_spread_19 : decode cX9_spread 19 = .ok (.iconst 0, 1) := by decide +kernel
theorem dX9_spread_20 : decode cX9_spread 20 = .ok (.istore 4, 2) := by decide +kernel
theorem dX9_spread_22 : decode cX9_spread 22 = .ok (.iload 4, 2) := by decide +kernel
theorem dX9_spread_24 : decode cX9_spread 24 = .ok (.aload_n 0, 1) := by decide +kernel
theorem dX9_spread_25 : decode cX9_spread 25 = .ok (.getfield 19, 3) := by decide +kernel
theorem dX9_spread_28 : decode cX9_spread 28 = .ok (.getfield 331, 3) := by decide +kernel
theorem dX9_spread_31 : decode cX9_spread 31 = .ok (.if_icmp .ge 44, 3) := by decide +kernel
theorem dX9_spread_34 : decode cX9_spread 34 = .ok (.aload_n 0, 1) := by decide +kernel
theorem dX9_spread_35 : decode cX9_spread 35 = .ok (.getfield 47, 3) := by decide +kernel
theorem dX9_spread_38 : decode cX9_spread 38 = .ok (.iload_n 1, 1) := by decide +kernel
theorem dX9_spread_39 : decode cX9_spread 39 = .ok (.iload 4, 2) := by decide +kernel
theorem dX9_spread_41 : decode cX9_spread 41 = .ok (.invokevirtual 334, 3) := by decide +kernel
theorem dX9_spread_44 : decode cX9_spread 44 = .ok (.istore 5, 2) := by decide +kernel
theorem dX9_spread_46 : decode cX9_spread 46 = .ok (.iload 5, 2) := by decide +kernel
theorem dX9_spread_48 : decode cX9_spread 48 = .ok (.ifCond .le 6, 3) := by decide +kernel
theorem dX9_spread_51 : decode cX9_spread 51 = .ok (.iinc 2 1, 3) := by decide +kernel
theorem dX9_spread_54 : decode cX9_spread 54 = .ok (.iload 5, 2) := by decide +kernel
theorem dX9_spread_56 : decode cX9_spread 56 = .ok (.iload_n 3, 1) := by decide +kernel
theorem dX9_spread_57 : decode cX9_spread 57 = .ok (.if_icmp .le 12, 3) := by decide +kernel
theorem dX9_spread_60 : decode cX9_spread 60 = .ok (.iload 5, 2) := by decide +kernel
theorem dX9_spread_62 : decode cX9_spread 62 = .ok (.istore_n 3, 1) := by decide +kernel
theorem dX9_spread_63 : decode cX9_spread 63 = .ok (.aload_n 0, 1) := by decide +kernel
theorem dX9_spread_64 : decode cX9_spread 64 = .ok (.iload 4, 2) := by decide +kernel
theorem dX9_spread_66 : decode cX9_spread 66 = .ok (.putfield 221, 3) := by decide +kernel
theorem dX9_spread_69 : decode cX9_spread 69 = .ok (.iinc 4 1, 3) := by decide +kernel
theorem dX9_spread_72 : decode cX9_spread 72 = .ok (.goto (-50), 3) := by decide +kernel
theorem dX9_spread_75 : decode cX9_spread 75 = .ok (.iload_n 2, 1) := by decide +kernel
theorem dX9_spread_76 : decode cX9_spread 76 = .ok (.ireturn, 1) := by decide +kernel
set_option maxRecDepth 20000 in
theorem ggX9_wall_X7_isFull : GoodIn wsX9_wall wsX7_isFull := goodIn_r _ [6, 7, 29, 30, 31, 32] (by decide +kernel) (by decide +kernel)
set_option maxRecDepth 20000 in
theorem gX9_wall_X7_isFull : GoodIn wsX9_wall (wsV RX9 337 RX7 yX7_isFull wsX7_isFull) := goodIn_app (goodIn_of _ (by decide +kernel)) ggX9_wall_X7_isFull
set_option maxRecDepth 20000 in
theorem ggX9_wall_X7_add : GoodIn wsX9_wall wsX7_add := goodIn_r _ [11, 12, 7, 13, 14, 29, 30, 31, 32] (by decide +kernel) (by decide +kernel)
set_option maxRecDepth 20000 in
theorem gX9_wall_X7_add : GoodIn wsX9_wall (wsV RX9 338 RX7 yX7_add wsX7_add) := goodIn_app (goodIn_of _ (by decide +kernel)) ggX9_wall_X7_add
theorem dX9_wall_0 : decode cX9_wall 0 = .ok (.iload_n 1, 1) := by decide +kernel
theorem dX9_wall_1 : decode cX9_wall 1 = .ok (.ifCond .lt 22, 3) := by decide +kernel
theorem dX9_wall_4 : decode cX9_wall 4 = .ok (.iload_n 1, 1) := by decide +kernel
theorem dX9_wall_5 : decode cX9_wall 5 = .ok (.sipush 1000, 3) := by decide +kernel
theorem dX9_wall_8 : decode cX9_wall 8 = .ok (.if_icmp .gt 15, 3) := by decide +kernel
theorem dX9_wall_11 : decode cX9_wall 11 = .ok (.iload_n 2, 1) := by decide +kernel
theorem dX9_wall_12 : decode cX9_wall 12 = .ok (.iconst 1, 1) := by decide +kernel
theorem dX9_wall_13 : decode cX9_wall 13 = .ok (.if_icmp .lt 10, 3) := by decide +kernel
theorem dX9_wall_16 : decode cX9_wall 16 = .ok (.iload_n 2, 1) := by decide +kernel
theorem dX9_wall_17 : decode cX9_wall 17 = .ok (.sipush 1000, 3) := by decide +kernel
theorem dX9_wall_20 : decode cX9_wall 20 = .ok (.if_icmp .le 5, 3) := by decide +kernel
theorem dX9_wall_23 : decode cX9_wall 23 = .ok (.iconst (-1), 1) := by decide +kernel
theorem dX9_wall_24 : decode cX9_wall 24 = .ok (.ireturn, 1) := by decide +kernel
theorem dX9_wall_25 : decode cX9_wall 25 = .ok (.aload_n 0, 1) := by decide +kernel
theorem dX9_wall_26 : decode cX9_wall 26 = .ok (.getfield 54, 3) := by decide +kernel
theorem dX9_wall_29 : decode cX9_wall 29 = .ok (.invokevirtual 337, 3) := by decide +kernel
theorem dX9_wall_32 : decode cX9_wall 32 = .ok (.ifCond .eq 6, 3) := by decide +kernel
theorem dX9_wall_35 : decode cX9_wall 35 = .ok (.bipush (-2), 2) := by decide +kernel
theorem dX9_wall_37 : decode cX9_wall 37 = .ok (.ireturn, 1) := by decide +kernel
theorem dX9_wall_38 : decode cX9_wall 38 = .ok (.aload_n 0, 1) := by decide +kernel
theorem dX9_wall_39 : decode cX9_wall 39 = .ok (.getfield 54, 3) := by decide +kernel
theorem dX9_wall_42 : decode cX9_wall 42 = .ok (.iload_n 1, 1) := by decide +kernel
theorem dX9_wall_43 : decode cX9_wall 43 = .ok (.iload_n 2, 1) := by decide +kernel
theorem dX9_wall_44 : decode cX9_wall 44 = .ok (.iload_n 3, 1) := by decide +kernel
theorem dX9_wall_45 : decode cX9_wall 45 = .ok (.invokevirtual 338, 3) := by decide +kernel
theorem dX9_wall_48 : decode cX9_wall 48 = .ok (.ireturn, 1) := by decide +kernel
set_option maxRecDepth 20000 in
theorem ggX9_keep_X7_bestSet : GoodIn wsX9_keep wsX7_bestSet := goodIn_r _ [8, 9, 10, 11, 12, 13, 14, 7, 15, 31, 32, 33, 34] (by decide +kernel) (by decide +kernel)
set_option maxRecDepth 20000 in
theorem gX9_keep_X7_bestSet : GoodIn wsX9_keep (wsV RX9 341 RX7 yX7_bestSet wsX7_bestSet) := goodIn_app (goodIn_of _ (by decide +kernel)) ggX9_keep_X7_bestSet
set_option maxRecDepth 20000 in
theorem ggX9_keep_X7_sumOf : GoodIn wsX9_keep wsX7_sumOf := goodIn_r _ [15] (by decide +kernel) (by decide +kernel)
set_option maxRecDepth 20000 in
theorem gX9_keep_X7_sumOf : GoodIn wsX9_keep (va_wsS RX9 347 yX7_sumOf wsX7_sumOf) := goodIn_app (goodIn_of _ (by decide +kernel)) ggX9_keep_X7_sumOf
theorem dX9_keep_0 : decode cX9_keep 0 = .ok (.iload_n 1, 1) := by decide +kernel
theorem dX9_keep_1 : decode cX9_keep 1 = .ok (.ifCond .lt 10, 3) := by decide +kernel
theorem dX9_keep_4 : decode cX9_keep 4 = .ok (.iload_n 1, 1) := by decide +kernel
theorem dX9_keep_5 : decode cX9_keep 5 = .ok (.sipush 12000, 3) := by decide +kernel
theorem dX9_keep_8 : decode cX9_keep 8 = .ok (.if_icmp .le 5, 3) := by decide +kernel
theorem dX9_keep_11 : decode cX9_keep 11 = .ok (.iconst (-1), 1) := by decide +kernel
theorem dX9_keep_12 : decode cX9_keep 12 = .ok (.ireturn, 1) := by decide +kernel
theorem dX9_keep_13 : decode cX9_keep 13 = .ok (.aload_n 0, 1) := by decide +kernel
theorem dX9_keep_14 : decode cX9_keep 14 = .ok (.aload_n 0, 1) := by decide +kernel
theorem dX9_keep_15 : decode cX9_keep 15 = .ok (.getfield 54, 3) := by decide +kernel
theorem dX9_keep_18 : decode cX9_keep 18 = .ok (.iload_n 1, 1) := by decide +kernel
theorem dX9_keep_19 : decode cX9_keep 19 = .ok (.invokevirtual 341, 3) := by decide +kernel
theorem dX9_keep_22 : decode cX9_keep 22 = .ok (.putfield 221, 3) := by decide +kernel
theorem dX9_keep_25 : decode cX9_keep 25 = .ok (.aload_n 0, 1) := by decide +kernel
theorem dX9_keep_26 : decode cX9_keep 26 = .ok (.getfield 54, 3) := by decide +kernel
theorem dX9_keep_29 : decode cX9_keep 29 = .ok (.getfield 344, 3) := by decide +kernel
theorem dX9_keep_32 : decode cX9_keep 32 = .ok (.aload_n 0, 1) := by decide +kernel
theorem dX9_keep_33 : decode cX9_keep 33 = .ok (.getfield 221, 3) := by decide +kernel
theorem dX9_keep_36 : decode cX9_keep 36 = .ok (.invokestatic 347, 3) := by decide +kernel
theorem dX9_keep_39 : decode cX9_keep 39 = .ok (.ireturn, 1) := by decide +kernel
theorem dX9_asked_0 : decode cX9_asked 0 = .ok (.aload_n 0, 1) := by decide +kernel
theorem dX9_asked_1 : decode cX9_asked 1 = .ok (.getfield 221, 3) := by decide +kernel
theorem dX9_asked_4 : decode cX9_asked 4 = .ok (.ireturn, 1) := by decide +kernel
set_option maxRecDepth 20000 in
theorem ggX9_count_X9_counted : GoodIn wsX9_count wsX9_counted := goodIn_r _ [5, 6, 7, 8, 9, 10, 11, 12, 13, 14, 15, 16, 17, 18, 19, 20, 21, 22, 23, 24, 25, 26, 27, 28, 29, 30, 31, 32, 33, 34, 35, 36, 37, 38, 39, 40, 41, 42, 43, 44, 45, 46, 47, 48, 49, 50, 51, 52, 53, 54, 55, 56, 57, 58, 59, 60, 61, 62, 63, 64, 65, 66, 67, 68, 69, 70, 71, 72, 73] (by decide +kernel) (by decide +kernel)
set_option maxRecDepth 20000 in
theorem gX9_count_X9_counted : GoodIn wsX9_count (wsV RX9 351 RX9 yX9_counted wsX9_counted) := goodIn_app (goodIn_of _ (by decide +kernel)) ggX9_count_X9_counted
theorem dX9_count_0 : decode cX9_count 0 = .ok (.iload_n 1, 1) := by decide +kernel
theorem dX9_count_1 : decode cX9_count 1 = .ok (.ifCond .lt 8, 3) := by decide +kernel
theorem dX9_count_4 : decode cX9_count 4 = .ok (.iload_n 1, 1) := by decide +kernel
theorem dX9_count_5 : decode cX9_count 5 = .ok (.iconst 5, 1) := by decide +kernel
theorem dX9_count_6 : decode cX9_count 6 = .ok (.if_icmp .le 5, 3) := by decide +kernel
theorem dX9_count_9 : decode cX9_count 9 = .ok (.iconst (-1), 1) := by decide +kernel
theorem dX9_count_10 : decode cX9_count 10 = .ok (.ireturn, 1) := by decide +kernel
theorem dX9_count_11 : decode cX9_count 11 = .ok (.aload_n 0, 1) := by decide +kernel
theorem dX9_count_12 : decode cX9_count 12 = .ok (.iload_n 1, 1) := by decide +kernel
theorem dX9_count_13 : decode cX9_count 13 = .ok (.invokevirtual 351, 3) := by decide +kernel
theorem dX9_count_16 : decode cX9_count 16 = .ok (.ireturn, 1) := by decide +kernel
theorem dX9_finding_0 : decode cX9_finding 0 = .ok (.aload_n 0, 1) := by decide +kernel
theorem dX9_finding_1 : decode cX9_finding 1 = .ok (.getfield 354, 3) := by decide +kernel
theorem dX9_finding_4 : decode cX9_finding 4 = .ok (.ireturn, 1) := by decide +kernel
theorem dX9_findings_0 : decode cX9_findings 0 = .ok (.iload_n 1, 1) := by decide +kernel
theorem dX9_findings_1 : decode cX9_findings 1 = .ok (.iconst 1, 1) := by decide +kernel
theorem dX9_findings_2 : decode cX9_findings 2 = .ok (.if_icmp .lt 8, 3) := by decide +kernel
theorem dX9_findings_5 : decode cX9_findings 5 = .ok (.iload_n 1, 1) := by decide +kernel
theorem dX9_findings_6 : decode cX9_findings 6 = .ok (.iconst 5, 1) := by decide +kernel
theorem dX9_findings_7 : decode cX9_findings 7 = .ok (.if_icmp .le 5, 3) := by decide +kernel
theorem dX9_findings_10 : decode cX9_findings 10 = .ok (.iconst (-1), 1) := by decide +kernel
theorem dX9_findings_11 : decode cX9_findings 11 = .ok (.ireturn, 1) := by decide +kernel
theorem dX9_findings_12 : decode cX9_findings 12 = .ok (.aload_n 0, 1) := by decide +kernel
theorem dX9_findings_13 : decode cX9_findings 13 = .ok (.getfield 79, 3) := by decide +kernel
theorem dX9_findings_16 : decode cX9_findings 16 = .ok (.iload_n 1, 1) := by decide +kernel
theorem dX9_findings_17 : decode cX9_findings 17 = .ok (.iaload, 1) := by decide +kernel
theorem dX9_findings_18 : decode cX9_findings 18 = .ok (.ireturn, 1) := by decide +kernel
set_option maxRecDepth 20000 in
theorem ggX9_digest_X9_counted : GoodIn wsX9_digest wsX9_counted := goodIn_r _ [10, 3, 11, 4, 12, 13, 14, 15, 16, 17, 18, 19, 20, 21, 22, 23, 24, 25, 26, 27, 28, 29, 30, 31, 32, 33, 34, 35, 36, 37, 38, 39, 40, 95, 96, 97, 98, 99, 100, 101, 102, 103, 104, 105, 106, 107, 108, 109, 110, 111, 112, 113, 114, 115, 116, 117, 118, 119, 120, 121, 122, 123, 124, 125, 126, 127, 128, 129, 130] (by decide +kernel) (by decide +kernel)
set_option maxRecDepth 20000 in
theorem gX9_digest_X9_counted : GoodIn wsX9_digest (wsV RX9 351 RX9 yX9_counted wsX9_counted) := goodIn_app (goodIn_of _ (by decide +kernel)) ggX9_digest_X9_counted
set_option maxRecDepth 20000 in
theorem ggX9_digest_X8_digestFrom : GoodIn wsX9_digest wsX8_digestFrom := goodIn_r _ [44, 22, 23, 45, 46, 47, 48, 20, 49, 50, 51, 52, 53, 54, 55, 56, 57, 58, 59, 60, 61, 62, 63, 64, 65, 35, 36, 37, 38, 39, 40, 109, 110, 111, 112, 113, 114, 115, 116, 117, 118] (by decide +kernel) (by decide +kernel)
set_option maxRecDepth 20000 in
theorem gX9_digest_X8_digestFrom : GoodIn wsX9_digest (wsV RX9 361 RX8 yX8_digestFrom wsX8_digestFrom) := goodIn_app (goodIn_of _ (by decide +kernel)) ggX9_digest_X8_digestFrom
set_option maxRecDepth 20000 in
theorem ggX9_digest_X2_digestCells : GoodIn wsX9_digest wsX2_digestCells := goodIn_r _ [69, 70, 71, 72, 73, 27, 74, 33, 119, 120, 121, 122, 123] (by decide +kernel) (by decide +kernel)
set_option maxRecDepth 20000 in
theorem gX9_digest_X2_digestCells : GoodIn wsX9_digest (wsV RX9 365 RX2 yX2_digestCells wsX2_digestCells) := goodIn_app (goodIn_of _ (by decide +kernel)) ggX9_digest_X2_digestCells
set_option maxRecDepth 20000 in
theorem ggX9_digest_X2_digestLayers : GoodIn wsX9_digest wsX2_digestLayers := goodIn_r _ [78, 79, 70, 80, 81, 82, 27, 83, 84, 85, 86, 119, 120, 121, 122, 123] (by decide +kernel) (by decide +kernel)
set_option maxRecDepth 20000 in
theorem gX9_digest_X2_digestLayers : GoodIn wsX9_digest (wsV RX9 368 RX2 yX2_digestLayers wsX2_digestLayers) := goodIn_app (goodIn_of _ (by decide +kernel)) ggX9_digest_X2_digestLayers
set_option maxRecDepth 20000 in
theorem ggX9_digest_X5_digestFrom : GoodIn wsX9_digest wsX5_digestFrom := goodIn_r _ [91, 92, 93, 94, 131, 132] (by decide +kernel) (by decide +kernel)
set_option maxRecDepth 20000 in
theorem gX9_digest_X5_digestFrom : GoodIn wsX9_digest (wsV RX9 371 RX5 yX5_digestFrom wsX5_digestFrom) := goodIn_app (goodIn_of _ (by decide +kernel)) ggX9_digest_X5_digestFrom
theorem dX9_digest_0 : decode cX9_digest 0 = .ok (.ldc2_w 357, 3) := by decide +kernel
theorem dX9_digest_3 : decode cX9_digest 3 = .ok (.lstore_n 1, 1) := by decide +kernel
theorem dX9_digest_4 : decode cX9_digest 4 = .ok (.iconst 0, 1) := by decide +kernel
theorem dX9_digest_5 : decode cX9_digest 5 = .ok (.istore_n 3, 1) := by decide +kernel
theorem dX9_digest_6 : decode cX9_digest 6 = .ok (.iload_n 3, 1) := by decide +kernel
theorem dX9_digest_7 : decode cX9_digest 7 = .ok (.iconst 5, 1) := by decide +kernel
theorem dX9_digest_8 : decode cX9_digest 8 = .ok (.if_icmp .gt 22, 3) := by decide +kernel
theorem dX9_digest_11 : decode cX9_digest 11 = .ok (.ldc2_w 359, 3) := by decide +kernel
theorem dX9_digest_14 : decode cX9_digest 14 = .ok (.lload_n 1, 1) := by decide +kernel
theorem dX9_digest_15 : decode cX9_digest 15 = .ok (.lmul, 1) := by decide +kernel
theorem dX9_digest_16 : decode cX9_digest 16 = .ok (.aload_n 0, 1) := by decide +kernel
theorem dX9_digest_17 : decode cX9_digest 17 = .ok (.iload_n 3, 1) := by decide +kernel
theorem dX9_digest_18 : decode cX9_digest 18 = .ok (.invokevirtual 351, 3) := by decide +kernel
theorem dX9_digest_21 : decode cX9_digest 21 = .ok (.i2l, 1) := by decide +kernel
theorem dX9_digest_22 : decode cX9_digest 22 = .ok (.ladd, 1) := by decide +kernel
theorem dX9_digest_23 : decode cX9_digest 23 = .ok (.lstore_n 1, 1) := by decide +kernel
theorem dX9_digest_24 : decode cX9_digest 24 = .ok (.iinc 3 1, 3) := by decide +kernel
theorem dX9_digest_27 : decode cX9_digest 27 = .ok (.goto (-21), 3) := by decide +kernel
theorem dX9_digest_30 : decode cX9_digest 30 = .ok (.aload_n 0, 1) := by decide +kernel
theorem dX9_digest_31 : decode cX9_digest 31 = .ok (.getfield 19, 3) := by decide +kernel
theorem dX9_digest_34 : decode cX9_digest 34 = .ok (.lload_n 1, 1) := by decide +kernel
theorem dX9_digest_35 : decode cX9_digest 35 = .ok (.invokevirtual 361, 3) := by decide +kernel
theorem dX9_digest_38 : decode cX9_digest 38 = .ok (.lstore_n 1, 1) := by decide +kernel
theorem dX9_digest_39 : decode cX9_digest 39 = .ok (.iconst 0, 1) := by decide +kernel
theorem dX9_digest_40 : decode cX9_digest 40 = .ok (.istore_n 3, 1) := by decide +kernel
theorem dX9_digest_41 : decode cX9_digest 41 = .ok (.iload_n 3, 1) := by decide +kernel
theorem dX9_digest_42 : decode cX9_digest 42 = .ok (.iconst 4, 1) := by decide +kernel
theorem dX9_digest_43 : decode cX9_digest 43 = .ok (.if_icmp .ge 20, 3) := by decide +kernel
theorem dX9_digest_46 : decode cX9_digest 46 = .ok (.aload_n 0, 1) := by decide +kernel
theorem dX9_digest_47 : decode cX9_digest 47 = .ok (.getfield 25, 3) := by decide +kernel
theorem dX9_digest_50 : decode cX9_digest 50 = .ok (.iload_n 3, 1) := by decide +kernel
theorem dX9_digest_51 : decode cX9_digest 51 = .ok (.aaload, 1) := by decide +kernel
theorem dX9_digest_52 : decode cX9_digest 52 = .ok (.lload_n 1, 1) := by decide +kernel
theorem dX9_digest_53 : decode cX9_digest 53 = .ok (.invokevirtual 365, 3) := by decide +kernel
theorem dX9_digest_56 : decode cX9_digest 56 = .ok (.lstore_n 1, 1) := by decide +kernel
theorem dX9_digest_57 : decode cX9_digest 57 = .ok (.iinc 3 1, 3) := by decide +kernel
theorem dX9_digest_60 : decode cX9_digest 60 = .ok (.goto (-19), 3) := by decide +kernel
theorem dX9_digest_63 : decode cX9_digest 63 = .ok (.iconst 0, 1) := by decide +kernel
theorem dX9_digest_64 : decode cX9_digest 64 = .ok (.istore_n 3, 1) := by decide +kernel
theorem dX9_digest_65 : decode cX9_digest 65 = .ok (.iload_n 3, 1) := by decide +kernel
theorem dX9_digest_66 : decode cX9_digest 66 = .ok (.iconst 4, 1) := by decide +kernel
theorem dX9_digest_67 : decode cX9_digest 67 = .ok (.if_icmp .ge 20, 3) := by decide +kernel
theorem dX9_digest_70 : decode cX9_digest 70 = .ok (.aload_n 0, 1) := by decide +kernel
theorem dX9_digest_71 : decode cX9_digest 71 = .ok (.getfield 25, 3) := by decide +kernel
theorem dX9_digest_74 : decode cX9_digest 74 = .ok (.iload_n 3, 1) := by decide +kernel
theorem dX9_digest_75 : decode cX9_digest 75 = .ok (.aaload, 1) := by decide +kernel
theorem dX9_digest_76 : decode cX9_digest 76 = .ok (.lload_n 1, 1) := by decide +kernel
theorem dX9_digest_77 : decode cX9_digest 77 = .ok (.invokevirtual 368, 3) := by decide +kernel
theorem dX9_digest_80 : decode cX9_digest 80 = .ok (.lstore_n 1, 1) := by decide +kernel
theorem dX9_digest_81 : decode cX9_digest 81 = .ok (.iinc 3 1, 3) := by decide +kernel
theorem dX9_digest_84 : decode cX9_digest 84 = .ok (.goto (-19), 3) := by decide +kernel
theorem dX9_digest_87 : decode cX9_digest 87 = .ok (.aload_n 0, 1) := by decide +kernel
theorem dX9_digest_88 : decode cX9_digest 88 = .ok (.getfield 10, 3) := by decide +kernel
theorem dX9_digest_91 : decode cX9_digest 91 = .ok (.lload_n 1, 1) := by decide +kernel
theorem dX9_digest_92 : decode cX9_digest 92 = .ok (.invokevirtual 371, 3) := by decide +kernel
theorem dX9_digest_95 : decode cX9_digest 95 = .ok (.lreturn, 1) := by decide +kernel
theorem dX9_refuse_0 : decode cX9_refuse 0 = .ok (.aload_n 0, 1) := by decide +kernel
theorem dX9_refuse_1 : decode cX9_refuse 1 = .ok (.iload_n 1, 1) := by decide +kernel
theorem dX9_refuse_2 : decode cX9_refuse 2 = .ok (.putfield 354, 3) := by decide +kernel
theorem dX9_refuse_5 : decode cX9_refuse 5 = .ok (.aload_n 0, 1) := by decide +kernel
theorem dX9_refuse_6 : decode cX9_refuse 6 = .ok (.getfield 79, 3) := by decide +kernel
theorem dX9_refuse_9 : decode cX9_refuse 9 = .ok (.iload_n 1, 1) := by decide +kernel
theorem dX9_refuse_10 : decode cX9_refuse 10 = .ok (.dup2, 1) := by decide +kernel
theorem dX9_refuse_11 : decode cX9_refuse 11 = .ok (.iaload, 1) := by decide +kernel
theorem dX9_refuse_12 : decode cX9_refuse 12 = .ok (.iconst 1, 1) := by decide +kernel
theorem dX9_refuse_13 : decode cX9_refuse 13 = .ok (.iadd, 1) := by decide +kernel
theorem dX9_refuse_14 : decode cX9_refuse 14 = .ok (.iastore, 1) := by decide +kernel
theorem dX9_refuse_15 : decode cX9_refuse 15 = .ok (.bipush (-3), 2) := by decide +kernel
theorem dX9_refuse_17 : decode cX9_refuse 17 = .ok (.ireturn, 1) := by decide +kernel
theorem dX9_isLine_0 : decode cX9_isLine 0 = .ok (.iload_n 0, 1) := by decide +kernel
theorem dX9_isLine_1 : decode cX9_isLine 1 = .ok (.ifCond .lt 12, 3) := by decide +kernel
theorem dX9_isLine_4 : decode cX9_isLine 4 = .ok (.iload_n 0, 1) := by decide +kernel
theorem dX9_isLine_5 : decode cX9_isLine 5 = .ok (.iconst 4, 1) := by decide +kernel
theorem dX9_isLine_6 : decode cX9_isLine 6 = .ok (.if_icmp .ge 7, 3) := by decide +kernel
theorem dX9_isLine_9 : decode cX9_isLine 9 = .ok (.iconst 1, 1) := by decide +kernel
theorem dX9_isLine_10 : decode cX9_isLine 10 = .ok (.goto 4, 3) := by decide +kernel
theorem dX9_isLine_13 : decode cX9_isLine 13 = .ok (.iconst 0, 1) := by decide +kernel
theorem dX9_isLine_14 : decode cX9_isLine 14 = .ok (.ireturn, 1) := by decide +kernel
theorem dX9_isSlot_0 : decode cX9_isSlot 0 = .ok (.iload_n 0, 1) := by decide +kernel
theorem dX9_isSlot_1 : decode cX9_isSlot 1 = .ok (.ifCond .lt 13, 3) := by decide +kernel
theorem dX9_isSlot_4 : decode cX9_isSlot 4 = .ok (.iload_n 0, 1) := by decide +kernel
theorem dX9_isSlot_5 : decode cX9_isSlot 5 = .ok (.bipush 10, 2) := by decide +kernel
theorem dX9_isSlot_7 : decode cX9_isSlot 7 = .ok (.if_icmp .ge 7, 3) := by decide +kernel
theorem dX9_isSlot_10 : decode cX9_isSlot 10 = .ok (.iconst 1, 1) := by decide +kernel
theorem dX9_isSlot_11 : decode cX9_isSlot 11 = .ok (.goto 4, 3) := by decide +kernel
theorem dX9_isSlot_14 : decode cX9_isSlot 14 = .ok (.iconst 0, 1) := by decide +kernel
theorem dX9_isSlot_15 : decode cX9_isSlot 15 = .ok (.ireturn, 1) := by decide +kernel
theorem dX9_isCells_0 : decode cX9_isCells 0 = .ok (.iload_n 0, 1) := by decide +kernel
theorem dX9_isCells_1 : decode cX9_isCells 1 = .ok (.ifCond .lt 14, 3) := by decide +kernel
theorem dX9_isCells_4 : decode cX9_isCells 4 = .ok (.iload_n 0, 1) := by decide +kernel
theorem dX9_isCells_5 : decode cX9_isCells 5 = .ok (.sipush 32767, 3) := by decide +kernel
theorem dX9_isCells_8 : decode cX9_isCells 8 = .ok (.if_icmp .gt 7, 3) := by decide +kernel
theorem dX9_isCells_11 : decode cX9_isCells 11 = .ok (.iconst 1, 1) := by decide +kernel
theorem dX9_isCells_12 : decode cX9_isCells 12 = .ok (.goto 4, 3) := by decide +kernel
theorem dX9_isCells_15 : decode cX9_isCells 15 = .ok (.iconst 0, 1) := by decide +kernel
theorem dX9_isCells_16 : decode cX9_isCells 16 = .ok (.ireturn, 1) := by decide +kernel
theorem dX9_isColour_0 : decode cX9_isColour 0 = .ok (.iload_n 0, 1) := by decide +kernel
theorem dX9_isColour_1 : decode cX9_isColour 1 = .ok (.iconst 1, 1) := by decide +kernel
theorem dX9_isColour_2 : decode cX9_isColour 2 = .ok (.if_icmp .lt 12, 3) := by decide +kernel
theorem dX9_isColour_5 : decode cX9_isColour 5 = .ok (.iload_n 0, 1) := by decide +kernel
theorem dX9_isColour_6 : decode cX9_isColour 6 = .ok (.iconst 3, 1) := by decide +kernel
theorem dX9_isColour_7 : decode cX9_isColour 7 = .ok (.if_icmp .gt 7, 3) := by decide +kernel
theorem dX9_isColour_10 : decode cX9_isColour 10 = .ok (.iconst 1, 1) := by decide +kernel
theorem dX9_isColour_11 : decode cX9_isColour 11 = .ok (.goto 4, 3) := by decide +kernel
theorem dX9_isColour_14 : decode cX9_isColour 14 = .ok (.iconst 0, 1) := by decide +kernel
theorem dX9_isColour_15 : decode cX9_isColour 15 = .ok (.ireturn, 1) := by decide +kernel
set_option maxRecDepth 20000 in
theorem ggX9_makesWord_X8_lettersIn : GoodIn wsX9_makesWord wsX8_lettersIn := goodIn_r _ [7, 8, 9, 6, 10] (by decide +kernel) (by decide +kernel)
set_option maxRecDepth 20000 in
theorem gX9_makesWord_X8_lettersIn : GoodIn wsX9_makesWord (va_wsS RX9 372 yX8_lettersIn wsX8_lettersIn) := goodIn_app (goodIn_of _ (by decide +kernel)) ggX9_makesWord_X8_lettersIn
theorem dX9_makesWord_0 : decode cX9_makesWord 0 = .ok (.aload_n 0, 1) := by decide +kernel
theorem dX9_makesWord_1 : decode cX9_makesWord 1 = .ok (.getfield 10, 3) := by decide +kernel
theorem dX9_makesWord_4 : decode cX9_makesWord 4 = .ok (.getfield 130, 3) := by decide +kernel
theorem dX9_makesWord_7 : decode cX9_makesWord 7 = .ok (.iload_n 1, 1) := by decide +kernel
theorem dX9_makesWord_8 : decode cX9_makesWord 8 = .ok (.aaload, 1) := by decide +kernel
theorem dX9_makesWord_9 : decode cX9_makesWord 9 = .ok (.aload_n 0, 1) := by decide +kernel
theorem dX9_makesWord_10 : decode cX9_makesWord 10 = .ok (.getfield 10, 3) := by decide +kernel
theorem dX9_makesWord_13 : decode cX9_makesWord 13 = .ok (.getfield 134, 3) := by decide +kernel
theorem dX9_makesWord_16 : decode cX9_makesWord 16 = .ok (.iload_n 1, 1) := by decide +kernel
theorem dX9_makesWord_17 : decode cX9_makesWord 17 = .ok (.iaload, 1) := by decide +kernel
theorem dX9_makesWord_18 : decode cX9_makesWord 18 = .ok (.invokestatic 372, 3) := by decide +kernel
theorem dX9_makesWord_21 : decode cX9_makesWord 21 = .ok (.istore_n 2, 1) := by decide +kernel
theorem dX9_makesWord_22 : decode cX9_makesWord 22 = .ok (.iload_n 2, 1) := by decide +kernel
theorem dX9_makesWord_23 : decode cX9_makesWord 23 = .ok (.iconst 1, 1) := by decide +kernel
theorem dX9_makesWord_24 : decode cX9_makesWord 24 = .ok (.if_icmp .lt 13, 3) := by decide +kernel
theorem dX9_makesWord_27 : decode cX9_makesWord 27 = .ok (.iload_n 2, 1) := by decide +kernel
theorem dX9_makesWord_28 : decode cX9_makesWord 28 = .ok (.bipush 8, 2) := by decide +kernel
theorem dX9_makesWord_30 : decode cX9_makesWord 30 = .ok (.if_icmp .gt 7, 3) := by decide +kernel
theorem dX9_makesWord_33 : decode cX9_makesWord 33 = .ok (.iconst 1, 1) := by decide +kernel
theorem dX9_makesWord_34 : decode cX9_makesWord 34 = .ok (.goto 4, 3) := by decide +kernel
theorem dX9_makesWord_37 : decode cX9_makesWord 37 = .ok (.iconst 0, 1) := by decide +kernel
theorem dX9_makesWord_38 : decode cX9_makesWord 38 = .ok (.ireturn, 1) := by decide +kernel
set_option maxRecDepth 20000 in
theorem ggX9_isLayer_X2_hasLayerOf : GoodIn wsX9_isLayer wsX2_hasLayerOf := goodIn_r _ [6, 7, 8, 23, 24, 25, 26, 27] (by decide +kernel) (by decide +kernel)
set_option maxRecDepth 20000 in
theorem gX9_isLayer_X2_hasLayerOf : GoodIn wsX9_isLayer (wsV RX9 376 RX2 yX2_hasLayerOf wsX2_hasLayerOf) := goodIn_app (goodIn_of _ (by decide +kernel)) ggX9_isLayer_X2_hasLayerOf
theorem dX9_isLayer_0 : decode cX9_isLayer 0 = .ok (.iconst 0, 1) := by decide +kernel
theorem dX9_isLayer_1 : decode cX9_isLayer 1 = .ok (.istore_n 2, 1) := by decide +kernel
theorem dX9_isLayer_2 : decode cX9_isLayer 2 = .ok (.iload_n 2, 1) := by decide +kernel
theorem dX9_isLayer_3 : decode cX9_isLayer 3 = .ok (.iconst 4, 1) := by decide +kernel
theorem dX9_isLayer_4 : decode cX9_isLayer 4 = .ok (.if_icmp .ge 24, 3) := by decide +kernel
theorem dX9_isLayer_7 : decode cX9_isLayer 7 = .ok (.aload_n 0, 1) := by decide +kernel
theorem dX9_isLayer_8 : decode cX9_isLayer 8 = .ok (.getfield 25, 3) := by decide +kernel
theorem dX9_isLayer_11 : decode cX9_isLayer 11 = .ok (.iload_n 2, 1) := by decide +kernel
theorem dX9_isLayer_12 : decode cX9_isLayer 12 = .ok (.aaload, 1) := by decide +kernel
theorem dX9_isLayer_13 : decode cX9_isLayer 13 = .ok (.iload_n 1, 1) := by decide +kernel
theorem dX9_isLayer_14 : decode cX9_isLayer 14 = .ok (.invokevirtual 376, 3) := by decide +kernel
theorem dX9_isLayer_17 : decode cX9_isLayer 17 = .ok (.ifCond .eq 5, 3) := by decide +kernel
theorem dX9_isLayer_20 : decode cX9_isLayer 20 = .ok (.iconst 1, 1) := by decide +kernel
theorem dX9_isLayer_21 : decode cX9_isLayer 21 = .ok (.ireturn, 1) := by decide +kernel
theorem dX9_isLayer_22 : decode cX9_isLayer 22 = .ok (.iinc 2 1, 3) := by decide +kernel
theorem dX9_isLayer_25 : decode cX9_isLayer 25 = .ok (.goto (-23), 3) := by decide +kernel
theorem dX9_isLayer_28 : decode cX9_isLayer 28 = .ok (.iconst 0, 1) := by decide +kernel
theorem dX9_isLayer_29 : decode cX9_isLayer 29 = .ok (.ireturn, 1) := by decide +kernel
set_option maxRecDepth 20000 in
theorem ggX9_counted_X8_sizeThere : GoodIn wsX9_counted wsX8_sizeThere := goodIn_r _ [13, 14, 15, 47, 48, 49, 50, 51, 52, 53, 54, 55, 56] (by decide +kernel) (by decide +kernel)
set_option maxRecDepth 20000 in
theorem gX9_counted_X8_sizeThere : GoodIn wsX9_counted (wsV RX9 182 RX8 yX8_sizeThere wsX8_sizeThere) := goodIn_app (goodIn_of _ (by decide +kernel)) ggX9_counted_X8_sizeThere
set_option maxRecDepth 20000 in
theorem ggX9_counted_X2_sizeKnown : GoodIn wsX9_counted wsX2_sizeKnown := goodIn_r _ [20, 21, 22, 23, 19, 24, 25, 26, 27, 28, 29, 30, 31, 32, 57, 58, 59, 60, 61] (by decide +kernel) (by decide +kernel)
set_option maxRecDepth 20000 in
theorem gX9_counted_X2_sizeKnown : GoodIn wsX9_counted (wsV RX9 379 RX2 yX2_sizeKnown wsX2_sizeKnown) := goodIn_app (goodIn_of _ (by decide +kernel)) ggX9_counted_X2_sizeKnown
theorem dX9_counted_0 : decode cX9_counted 0 = .ok (.iconst 0, 1) := by decide +kernel
theorem dX9_counted_1 : decode cX9_counted 1 = .ok (.istore_n 2, 1) := by decide +kernel
theorem dX9_counted_2 : decode cX9_counted 2 = .ok (.iload_n 1, 1) := by decide +kernel
theorem dX9_counted_3 : decode cX9_counted 3 = .ok (.tableswitch 111 0 4 #[33, 41, 49, 76, 103], 33) := by decide +kernel
theorem dX9_counted_36 : decode cX9_counted 36 = .ok (.aload_n 0, 1) := by decide +kernel
theorem dX9_counted_37 : decode cX9_counted 37 = .ok (.getfield 19, 3) := by decide +kernel
theorem dX9_counted_40 : decode cX9_counted 40 = .ok (.getfield 331, 3) := by decide +kernel
theorem dX9_counted_43 : decode cX9_counted 43 = .ok (.ireturn, 1) := by decide +kernel
theorem dX9_counted_44 : decode cX9_counted 44 = .ok (.aload_n 0, 1) := by decide +kernel
theorem dX9_counted_45 : decode cX9_counted 45 = .ok (.getfield 19, 3) := by decide +kernel
theorem dX9_counted_48 : decode cX9_counted 48 = .ok (.invokevirtual 182, 3) := by decide +kernel
theorem dX9_counted_51 : decode cX9_counted 51 = .ok (.ireturn, 1) := by decide +kernel
theorem dX9_counted_52 : decode cX9_counted 52 = .ok (.iconst 0, 1) := by decide +kernel
theorem dX9_counted_53 : decode cX9_counted 53 = .ok (.istore_n 3, 1) := by decide +kernel
theorem dX9_counted_54 : decode cX9_counted 54 = .ok (.iload_n 3, 1) := by decide +kernel
theorem dX9_counted_55 : decode cX9_counted 55 = .ok (.iconst 4, 1) := by decide +kernel
theorem dX9_counted_56 : decode cX9_counted 56 = .ok (.if_icmp .ge 21, 3) := by decide +kernel
theorem dX9_counted_59 : decode cX9_counted 59 = .ok (.iload_n 2, 1) := by decide +kernel
theorem dX9_counted_60 : decode cX9_counted 60 = .ok (.aload_n 0, 1) := by decide +kernel
theorem dX9_counted_61 : decode cX9_counted 61 = .ok (.getfield 25, 3) := by decide +kernel
theorem dX9_counted_64 : decode cX9_counted 64 = .ok (.iload_n 3, 1) := by decide +kernel
theorem dX9_counted_65 : decode cX9_counted 65 = .ok (.aaload, 1) := by decide +kernel
theorem dX9_counted_66 : decode cX9_counted 66 = .ok (.invokevirtual 379, 3) := by decide +kernel
theorem dX9_counted_69 : decode cX9_counted 69 = .ok (.iadd, 1) := by decide +kernel
theorem dX9_counted_70 : decode cX9_counted 70 = .ok (.istore_n 2, 1) := by decide +kernel
theorem dX9_counted_71 : decode cX9_counted 71 = .ok (.iinc 3 1, 3) := by decide +kernel
theorem dX9_counted_74 : decode cX9_counted 74 = .ok (.goto (-20), 3) := by decide +kernel
theorem dX9_counted_77 : decode cX9_counted 77 = .ok (.iload_n 2, 1) := by decide +kernel
theorem dX9_counted_78 : decode cX9_counted 78 = .ok (.ireturn, 1) := by decide +kernel
theorem dX9_counted_79 : decode cX9_counted 79 = .ok (.iconst 0, 1) := by decide +kernel
theorem dX9_counted_80 : decode cX9_counted 80 = .ok (.istore_n 3, 1) := by decide +kernel
theorem dX9_counted_81 : decode cX9_counted 81 = .ok (.iload_n 3, 1) := by decide +kernel
theorem dX9_counted_82 : decode cX9_counted 82 = .ok (.iconst 4, 1) := by decide +kernel
theorem dX9_counted_83 : decode cX9_counted 83 = .ok (.if_icmp .ge 21, 3) := by decide +kernel
theorem dX9_counted_86 : decode cX9_counted 86 = .ok (.iload_n 2, 1) := by decide +kernel
theorem dX9_counted_87 : decode cX9_counted 87 = .ok (.aload_n 0, 1) := by decide +kernel
theorem dX9_counted_88 : decode cX9_counted 88 = .ok (.getfield 25, 3) := by decide +kernel
theorem dX9_counted_91 : decode cX9_counted 91 = .ok (.iload_n 3, 1) := by decide +kernel
theorem dX9_counted_92 : decode cX9_counted 92 = .ok (.aaload, 1) := by decide +kernel
theorem dX9_counted_93 : decode cX9_counted 93 = .ok (.getfield 238, 3) := by decide +kernel
theorem dX9_counted_96 : decode cX9_counted 96 = .ok (.iadd, 1) := by decide +kernel
theorem dX9_counted_97 : decode cX9_counted 97 = .ok (.istore_n 2, 1) := by decide +kernel
theorem dX9_counted_98 : decode cX9_counted 98 = .ok (.iinc 3 1, 3) := by decide +kernel
theorem dX9_counted_101 : decode cX9_counted 101 = .ok (.goto (-20), 3) := by decide +kernel
theorem dX9_counted_104 : decode cX9_counted 104 = .ok (.iload_n 2, 1) := by decide +kernel
theorem dX9_counted_105 : decode cX9_counted 105 = .ok (.ireturn, 1) := by decide +kernel
theorem dX9_counted_106 : decode cX9_counted 106 = .ok (.aload_n 0, 1) := by decide +kernel
theorem dX9_counted_107 : decode cX9_counted 107 = .ok (.getfield 47, 3) := by decide +kernel
theorem dX9_counted_110 : decode cX9_counted 110 = .ok (.getfield 330, 3) := by decide +kernel
theorem dX9_counted_113 : decode cX9_counted 113 = .ok (.ireturn, 1) := by decide +kernel
theorem dX9_counted_114 : decode cX9_counted 114 = .ok (.aload_n 0, 1) := by decide +kernel
theorem dX9_counted_115 : decode cX9_counted 115 = .ok (.getfield 54, 3) := by decide +kernel
theorem dX9_counted_118 : decode cX9_counted 118 = .ok (.getfield 382, 3) := by decide +kernel
theorem dX9_counted_121 : decode cX9_counted 121 = .ok (.ireturn, 1) := by decide +kernel
set_option maxRecDepth 20000 in
theorem ggX9_lackAt_X8_cellsIn : GoodIn wsX9_lackAt wsX8_cellsIn := goodIn_r _ [7, 8, 9, 10, 43, 44, 45, 46, 47, 48, 49, 50, 51, 52] (by decide +kernel) (by decide +kernel)
set_option maxRecDepth 20000 in
theorem gX9_lackAt_X8_cellsIn : GoodIn wsX9_lackAt (wsV RX9 383 RX8 yX8_cellsIn wsX8_cellsIn) := goodIn_app (goodIn_of _ (by decide +kernel)) ggX9_lackAt_X8_cellsIn
set_option maxRecDepth 20000 in
theorem ggX9_lackAt_X2_known : GoodIn wsX9_lackAt wsX2_known := goodIn_r _ [15, 16, 38, 39, 40, 41, 42] (by decide +kernel) (by decide +kernel)
set_option maxRecDepth 20000 in
theorem gX9_lackAt_X2_known : GoodIn wsX9_lackAt (wsV RX9 390 RX2 yX2_known wsX2_known) := goodIn_app (goodIn_of _ (by decide +kernel)) ggX9_lackAt_X2_known
set_option maxRecDepth 20000 in
theorem ggX9_lackAt_J6_bitCount_0f7a4 : GoodIn wsX9_lackAt wsJ6_bitCount_0f7a4 := goodIn_r _ [20, 21, 22, 23] (by decide +kernel) (by decide +kernel)
set_option maxRecDepth 20000 in
theorem gX9_lackAt_J6_bitCount_0f7a4 : GoodIn wsX9_lackAt (va_wsS RX9 393 yJ6_bitCount_0f7a4 wsJ6_bitCount_0f7a4) := goodIn_app (goodIn_of _ (by decide +kernel)) ggX9_lackAt_J6_bitCount_0f7a4
theorem dX9_lackAt_0 : decode cX9_lackAt 0 = .ok (.iconst 0, 1) := by decide +kernel
theorem dX9_lackAt_1 : decode cX9_lackAt 1 = .ok (.istore 5, 2) := by decide +kernel
theorem dX9_lackAt_3 : decode cX9_lackAt 3 = .ok (.iconst 0, 1) := by decide +kernel
theorem dX9_lackAt_4 : decode cX9_lackAt 4 = .ok (.istore 6, 2) := by decide +kernel
theorem dX9_lackAt_6 : decode cX9_lackAt 6 = .ok (.iload 6, 2) := by decide +kernel
theorem dX9_lackAt_8 : decode cX9_lackAt 8 = .ok (.bipush 10, 2) := by decide +kernel
theorem dX9_lackAt_10 : decode cX9_lackAt 10 = .ok (.if_icmp .ge 69, 3) := by decide +kernel
theorem dX9_lackAt_13 : decode cX9_lackAt 13 = .ok (.aload_n 0, 1) := by decide +kernel
theorem dX9_lackAt_14 : decode cX9_lackAt 14 = .ok (.getfield 19, 3) := by decide +kernel
theorem dX9_lackAt_17 : decode cX9_lackAt 17 = .ok (.iload_n 2, 1) := by decide +kernel
theorem dX9_lackAt_18 : decode cX9_lackAt 18 = .ok (.iload_n 3, 1) := by decide +kernel
theorem dX9_lackAt_19 : decode cX9_lackAt 19 = .ok (.iload 6, 2) := by decide +kernel
theorem dX9_lackAt_21 : decode cX9_lackAt 21 = .ok (.invokevirtual 383, 3) := by decide +kernel
theorem dX9_lackAt_24 : decode cX9_lackAt 24 = .ok (.istore 7, 2) := by decide +kernel
theorem dX9_lackAt_26 : decode cX9_lackAt 26 = .ok (.aload_n 1, 1) := by decide +kernel
theorem dX9_lackAt_27 : decode cX9_lackAt 27 = .ok (.getfield 386, 3) := by decide +kernel
theorem dX9_lackAt_30 : decode cX9_lackAt 30 = .ok (.iload 4, 2) := by decide +kernel
theorem dX9_lackAt_32 : decode cX9_lackAt 32 = .ok (.aaload, 1) := by decide +kernel
theorem dX9_lackAt_33 : decode cX9_lackAt 33 = .ok (.iload 6, 2) := by decide +kernel
theorem dX9_lackAt_35 : decode cX9_lackAt 35 = .ok (.iaload, 1) := by decide +kernel
theorem dX9_lackAt_36 : decode cX9_lackAt 36 = .ok (.istore 8, 2) := by decide +kernel
theorem dX9_lackAt_38 : decode cX9_lackAt 38 = .ok (.iload 8, 2) := by decide +kernel
theorem dX9_lackAt_40 : decode cX9_lackAt 40 = .ok (.iload 7, 2) := by decide +kernel
theorem dX9_lackAt_42 : decode cX9_lackAt 42 = .ok (.iconst (-1), 1) := by decide +kernel
theorem dX9_lackAt_43 : decode cX9_lackAt 43 = .ok (.ixor, 1) := by decide +kernel
theorem dX9_lackAt_44 : decode cX9_lackAt 44 = .ok (.iand, 1) := by decide +kernel
theorem dX9_lackAt_45 : decode cX9_lackAt 45 = .ok (.ifCond .eq 6, 3) := by decide +kernel
theorem dX9_lackAt_48 : decode cX9_lackAt 48 = .ok (.bipush (-9), 2) := by decide +kernel
theorem dX9_lackAt_50 : decode cX9_lackAt 50 = .ok (.ireturn, 1) := by decide +kernel
theorem dX9_lackAt_51 : decode cX9_lackAt 51 = .ok (.iload 5, 2) := by decide +kernel
theorem dX9_lackAt_53 : decode cX9_lackAt 53 = .ok (.iload 7, 2) := by decide +kernel
theorem dX9_lackAt_55 : decode cX9_lackAt 55 = .ok (.aload_n 1, 1) := by decide +kernel
theorem dX9_lackAt_56 : decode cX9_lackAt 56 = .ok (.iload 6, 2) := by decide +kernel
theorem dX9_lackAt_58 : decode cX9_lackAt 58 = .ok (.invokevirtual 390, 3) := by decide +kernel
theorem dX9_lackAt_61 : decode cX9_lackAt 61 = .ok (.iand, 1) := by decide +kernel
theorem dX9_lackAt_62 : decode cX9_lackAt 62 = .ok (.iload 8, 2) := by decide +kernel
theorem dX9_lackAt_64 : decode cX9_lackAt 64 = .ok (.iconst (-1), 1) := by decide +kernel
theorem dX9_lackAt_65 : decode cX9_lackAt 65 = .ok (.ixor, 1) := by decide +kernel
theorem dX9_lackAt_66 : decode cX9_lackAt 66 = .ok (.iand, 1) := by decide +kernel
theorem dX9_lackAt_67 : decode cX9_lackAt 67 = .ok (.invokestatic 393, 3) := by decide +kernel
theorem dX9_lackAt_70 : decode cX9_lackAt 70 = .ok (.iadd, 1) := by decide +kernel
theorem dX9_lackAt_71 : decode cX9_lackAt 71 = .ok (.istore 5, 2) := by decide +kernel
theorem dX9_lackAt_73 : decode cX9_lackAt 73 = .ok (.iinc 6 1, 3) := by decide +kernel
theorem dX9_lackAt_76 : decode cX9_lackAt 76 = .ok (.goto (-70), 3) := by decide +kernel
theorem dX9_lackAt_79 : decode cX9_lackAt 79 = .ok (.iload 5, 2) := by decide +kernel
theorem dX9_lackAt_81 : decode cX9_lackAt 81 = .ok (.ireturn, 1) := by decide +kernel
set_option maxRecDepth 20000 in
theorem ggX9_bareAt_X8_cellsIn : GoodIn wsX9_bareAt wsX8_cellsIn := goodIn_r _ [7, 8, 9, 10, 37, 38, 39, 40, 41, 42, 43, 44, 45, 46] (by decide +kernel) (by decide +kernel)
set_option maxRecDepth 20000 in
theorem gX9_bareAt_X8_cellsIn : GoodIn wsX9_bareAt (wsV RX9 383 RX8 yX8_cellsIn wsX8_cellsIn) := goodIn_app (goodIn_of _ (by decide +kernel)) ggX9_bareAt_X8_cellsIn
set_option maxRecDepth 20000 in
theorem ggX9_bareAt_J6_bitCount_0f7a4 : GoodIn wsX9_bareAt wsJ6_bitCount_0f7a4 := goodIn_r _ [14, 15, 16, 17] (by decide +kernel) (by decide +kernel)
set_option maxRecDepth 20000 in
theorem gX9_bareAt_J6_bitCount_0f7a4 : GoodIn wsX9_bareAt (va_wsS RX9 393 yJ6_bitCount_0f7a4 wsJ6_bitCount_0f7a4) := goodIn_app (goodIn_of _ (by decide +kernel)) ggX9_bareAt_J6_bitCount_0f7a4
theorem dX9_bareAt_0 : decode cX9_bareAt 0 = .ok (.iconst 0, 1) := by decide +kernel
theorem dX9_bareAt_1 : decode cX9_bareAt 1 = .ok (.istore 4, 2) := by decide +kernel
theorem dX9_bareAt_3 : decode cX9_bareAt 3 = .ok (.iconst 0, 1) := by decide +kernel
theorem dX9_bareAt_4 : decode cX9_bareAt 4 = .ok (.istore 5, 2) := by decide +kernel
theorem dX9_bareAt_6 : decode cX9_bareAt 6 = .ok (.iload 5, 2) := by decide +kernel
theorem dX9_bareAt_8 : decode cX9_bareAt 8 = .ok (.bipush 10, 2) := by decide +kernel
theorem dX9_bareAt_10 : decode cX9_bareAt 10 = .ok (.if_icmp .ge 38, 3) := by decide +kernel
theorem dX9_bareAt_13 : decode cX9_bareAt 13 = .ok (.iload 4, 2) := by decide +kernel
theorem dX9_bareAt_15 : decode cX9_bareAt 15 = .ok (.aload_n 0, 1) := by decide +kernel
theorem dX9_bareAt_16 : decode cX9_bareAt 16 = .ok (.getfield 19, 3) := by decide +kernel
theorem dX9_bareAt_19 : decode cX9_bareAt 19 = .ok (.iload_n 2, 1) := by decide +kernel
theorem dX9_bareAt_20 : decode cX9_bareAt 20 = .ok (.iload_n 3, 1) := by decide +kernel
theorem dX9_bareAt_21 : decode cX9_bareAt 21 = .ok (.iload 5, 2) := by decide +kernel
theorem dX9_bareAt_23 : decode cX9_bareAt 23 = .ok (.invokevirtual 383, 3) := by decide +kernel
theorem dX9_bareAt_26 : decode cX9_bareAt 26 = .ok (.aload_n 1, 1) := by decide +kernel
theorem dX9_bareAt_27 : decode cX9_bareAt 27 = .ok (.getfield 386, 3) := by decide +kernel
theorem dX9_bareAt_30 : decode cX9_bareAt 30 = .ok (.iconst 0, 1) := by decide +kernel
theorem dX9_bareAt_31 : decode cX9_bareAt 31 = .ok (.aaload, 1) := by decide +kernel
theorem dX9_bareAt_32 : decode cX9_bareAt 32 = .ok (.iload 5, 2) := by decide +kernel
theorem dX9_bareAt_34 : decode cX9_bareAt 34 = .ok (.iaload, 1) := by decide +kernel
theorem dX9_bareAt_35 : decode cX9_bareAt 35 = .ok (.iand, 1) := by decide +kernel
theorem dX9_bareAt_36 : decode cX9_bareAt 36 = .ok (.invokestatic 393, 3) := by decide +kernel
theorem dX9_bareAt_39 : decode cX9_bareAt 39 = .ok (.iadd, 1) := by decide +kernel
theorem dX9_bareAt_40 : decode cX9_bareAt 40 = .ok (.istore 4, 2) := by decide +kernel
theorem dX9_bareAt_42 : decode cX9_bareAt 42 = .ok (.iinc 5 1, 3) := by decide +kernel
theorem dX9_bareAt_45 : decode cX9_bareAt 45 = .ok (.goto (-39), 3) := by decide +kernel
theorem dX9_bareAt_48 : decode cX9_bareAt 48 = .ok (.iload 4, 2) := by decide +kernel
theorem dX9_bareAt_50 : decode cX9_bareAt 50 = .ok (.ireturn, 1) := by decide +kernel
set_option maxRecDepth 20000 in
theorem ggX9_gatherPlaces_X8_isThere : GoodIn wsX9_gatherPlaces wsX8_isThere := goodIn_r _ [8, 9, 10, 11, 12, 7, 13, 14, 78, 79, 80, 81, 82, 83, 84, 85, 86, 87] (by decide +kernel) (by decide +kernel)
set_option maxRecDepth 20000 in
theorem gX9_gatherPlaces_X8_isThere : GoodIn wsX9_gatherPlaces (wsV RX9 399 RX8 yX8_isThere wsX8_isThere) := goodIn_app (goodIn_of _ (by decide +kernel)) ggX9_gatherPlaces_X8_isThere
set_option maxRecDepth 20000 in
theorem ggX9_gatherPlaces_X8_isOnLine : GoodIn wsX9_gatherPlaces wsX8_isOnLine := goodIn_r _ [18, 19, 78, 79, 80, 81, 82, 83, 84, 85, 86, 87] (by decide +kernel) (by decide +kernel)
set_option maxRecDepth 20000 in
theorem gX9_gatherPlaces_X8_isOnLine : GoodIn wsX9_gatherPlaces (wsV RX9 204 RX8 yX8_isOnLine wsX8_isOnLine) := goodIn_app (goodIn_of _ (by decide +kernel)) ggX9_gatherPlaces_X8_isOnLine
set_option maxRecDepth 20000 in
theorem ggX9_gatherPlaces_X9_lackAt : GoodIn wsX9_gatherPlaces wsX9_lackAt := goodIn_r _ [24, 2, 25, 26, 27, 28, 7, 29, 19, 30, 31, 32, 33, 34, 35, 36, 37, 38, 39, 40, 41, 42, 43, 44, 64, 65, 66, 67, 68, 69, 70, 71, 72, 73, 74, 75, 76, 77, 88, 89, 90, 91, 92, 78, 79, 80, 81, 82, 83, 84, 85, 86, 87] (by decide +kernel) (by decide +kernel)
set_option maxRecDepth 20000 in
theorem gX9_gatherPlaces_X9_lackAt : GoodIn wsX9_gatherPlaces (wsV RX9 207 RX9 yX9_lackAt wsX9_lackAt) := goodIn_app (goodIn_of _ (by decide +kernel)) ggX9_gatherPlaces_X9_lackAt
set_option maxRecDepth 20000 in
theorem ggX9_gatherPlaces_X9_bareAt : GoodIn wsX9_gatherPlaces wsX9_bareAt := goodIn_r _ [48, 2, 25, 26, 27, 28, 7, 29, 19, 30, 31, 38, 39, 40, 41, 42, 43, 44, 64, 65, 66, 67, 68, 69, 70, 71, 72, 73, 74, 75, 76, 77, 88, 89, 90, 91, 92, 78, 79, 80, 81, 82, 83, 84, 85, 86, 87] (by decide +kernel) (by decide +kernel)
set_option maxRecDepth 20000 in
theorem gX9_gatherPlaces_X9_bareAt : GoodIn wsX9_gatherPlaces (wsV RX9 400 RX9 yX9_bareAt wsX9_bareAt) := goodIn_app (goodIn_of _ (by decide +kernel)) ggX9_gatherPlaces_X9_bareAt
set_option maxRecDepth 20000 in
theorem ggX9_gatherPlaces_X4_add : GoodIn wsX9_gatherPlaces wsX4_add := goodIn_r _ [53, 54, 55, 56, 57, 58, 59, 60, 61, 62, 63] (by decide +kernel) (by decide +kernel)
set_option maxRecDepth 20000 in
theorem gX9_gatherPlaces_X4_add : GoodIn wsX9_gatherPlaces (wsV RX9 404 RX4 yX4_add wsX4_add) := goodIn_app (goodIn_of _ (by decide +kernel)) ggX9_gatherPlaces_X4_add
theorem dX9_gatherPlaces_0 : decode cX9_gatherPlaces 0 = .ok (.aload_n 3, 1) := by decide +kernel
theorem dX9_gatherPlaces_1 : decode cX9_gatherPlaces 1 = .ok (.iconst 0, 1) := by decide +kernel
theorem dX9_gatherPlaces_2 : decode cX9_gatherPlaces 2 = .ok (.putfield 398, 3) := by decide +kernel
theorem dX9_gatherPlaces_5 : decode cX9_gatherPlaces 5 = .ok (.iconst 0, 1) := by decide +kernel
theorem dX9_gatherPlaces_6 : decode cX9_gatherPlaces 6 = .ok (.istore 4, 2) := by decide +kernel
theorem dX9_gatherPlaces_8 : decode cX9_gatherPlaces 8 = .ok (.iload 4, 2) := by decide +kernel
theorem dX9_gatherPlaces_10 : decode cX9_gatherPlaces 10 = .ok (.aload_n 0, 1) := by decide +kernel
theorem dX9_gatherPlaces_11 : decode cX9_gatherPlaces 11 = .ok (.getfield 19, 3) := by decide +kernel
theorem dX9_gatherPlaces_14 : decode cX9_gatherPlaces 14 = .ok (.getfield 331, 3) := by decide +kernel
theorem dX9_gatherPlaces_17 : decode cX9_gatherPlaces 17 = .ok (.if_icmp .ge 89, 3) := by decide +kernel
theorem dX9_gatherPlaces_20 : decode cX9_gatherPlaces 20 = .ok (.iconst 0, 1) := by decide +kernel
theorem dX9_gatherPlaces_21 : decode cX9_gatherPlaces 21 = .ok (.istore 5, 2) := by decide +kernel
theorem dX9_gatherPlaces_23 : decode cX9_gatherPlaces 23 = .ok (.iload 5, 2) := by decide +kernel
theorem dX9_gatherPlaces_25 : decode cX9_gatherPlaces 25 = .ok (.bipush 10, 2) := by decide +kernel
theorem dX9_gatherPlaces_27 : decode cX9_gatherPlaces 27 = .ok (.if_icmp .ge 73, 3) := by decide +kernel
theorem dX9_gatherPlaces_30 : decode cX9_gatherPlaces 30 = .ok (.aload_n 0, 1) := by decide +kernel
theorem dX9_gatherPlaces_31 : decode cX9_gatherPlaces 31 = .ok (.getfield 19, 3) := by decide +kernel
theorem dX9_gatherPlaces_34 : decode cX9_gatherPlaces 34 = .ok (.iload 4, 2) := by decide +kernel
theorem dX9_gatherPlaces_36 : decode cX9_gatherPlaces 36 = .ok (.invokevirtual 399, 3) := by decide +kernel
theorem dX9_gatherPlaces_39 : decode cX9_gatherPlaces 39 = .ok (.ifCond .eq 55, 3) := by decide +kernel
theorem dX9_gatherPlaces_42 : decode cX9_gatherPlaces 42 = .ok (.aload_n 0, 1) := by decide +kernel
theorem dX9_gatherPlaces_43 : decode cX9_gatherPlaces 43 = .ok (.getfield 19, 3) := by decide +kernel
theorem dX9_gatherPlaces_46 : decode cX9_gatherPlaces 46 = .ok (.iload 4, 2) := by decide +kernel
theorem dX9_gatherPlaces_48 : decode cX9_gatherPlaces 48 = .ok (.iload 5, 2) := by decide +kernel
theorem dX9_gatherPlaces_50 : decode cX9_gatherPlaces 50 = .ok (.invokevirtual 204, 3) := by decide +kernel
theorem dX9_gatherPlaces_53 : decode cX9_gatherPlaces 53 = .ok (.ifCond .eq 41, 3) := by decide +kernel
theorem dX9_gatherPlaces_56 : decode cX9_gatherPlaces 56 = .ok (.aload_n 0, 1) := by decide +kernel
theorem dX9_gatherPlaces_57 : decode cX9_gatherPlaces 57 = .ok (.aload_n 1, 1) := by decide +kernel
theorem dX9_gatherPlaces_58 : decode cX9_gatherPlaces 58 = .ok (.iload 4, 2) := by decide +kernel
theorem dX9_gatherPlaces_60 : decode cX9_gatherPlaces 60 = .ok (.iload 5, 2) := by decide +kernel
theorem dX9_gatherPlaces_62 : decode cX9_gatherPlaces 62 = .ok (.iload_n 2, 1) := by decide +kernel
theorem dX9_gatherPlaces_63 : decode cX9_gatherPlaces 63 = .ok (.invokevirtual 207, 3) := by decide +kernel
theorem dX9_gatherPlaces_66 : decode cX9_gatherPlaces 66 = .ok (.istore 6, 2) := by decide +kernel
theorem dX9_gatherPlaces_68 : decode cX9_gatherPlaces 68 = .ok (.iload 6, 2) := by decide +kernel
theorem dX9_gatherPlaces_70 : decode cX9_gatherPlaces 70 = .ok (.bipush (-9), 2) := by decide +kernel
theorem dX9_gatherPlaces_72 : decode cX9_gatherPlaces 72 = .ok (.if_icmp .eq 22, 3) := by decide +kernel
theorem dX9_gatherPlaces_75 : decode cX9_gatherPlaces 75 = .ok (.aload_n 3, 1) := by decide +kernel
theorem dX9_gatherPlaces_76 : decode cX9_gatherPlaces 76 = .ok (.iload 4, 2) := by decide +kernel
theorem dX9_gatherPlaces_78 : decode cX9_gatherPlaces 78 = .ok (.iload 5, 2) := by decide +kernel
theorem dX9_gatherPlaces_80 : decode cX9_gatherPlaces 80 = .ok (.iload 6, 2) := by decide +kernel
theorem dX9_gatherPlaces_82 : decode cX9_gatherPlaces 82 = .ok (.aload_n 0, 1) := by decide +kernel
theorem dX9_gatherPlaces_83 : decode cX9_gatherPlaces 83 = .ok (.aload_n 1, 1) := by decide +kernel
theorem dX9_gatherPlaces_84 : decode cX9_gatherPlaces 84 = .ok (.iload 4, 2) := by decide +kernel
theorem dX9_gatherPlaces_86 : decode cX9_gatherPlaces 86 = .ok (.iload 5, 2) := by decide +kernel
theorem dX9_gatherPlaces_88 : decode cX9_gatherPlaces 88 = .ok (.invokevirtual 400, 3) := by decide +kernel
theorem dX9_gatherPlaces_91 : decode cX9_gatherPlaces 91 = .ok (.invokevirtual 404, 3) := by decide +kernel
theorem dX9_gatherPlaces_94 : decode cX9_gatherPlaces 94 = .ok (.iinc 5 1, 3) := by decide +kernel
theorem dX9_gatherPlaces_97 : decode cX9_gatherPlaces 97 = .ok (.goto (-74), 3) := by decide +kernel
theorem dX9_gatherPlaces_100 : decode cX9_gatherPlaces 100 = .ok (.iinc 4 1, 3) := by decide +kernel
theorem dX9_gatherPlaces_103 : decode cX9_gatherPlaces 103 = .ok (.goto (-95), 3) := by decide +kernel
theorem dX9_gatherPlaces_106 : decode cX9_gatherPlaces 106 = .ok (.return_, 1) := by decide +kernel
set_option maxRecDepth 20000 in
theorem ggX9_splitRivals_X9_gatherPlaces : GoodIn wsX9_splitRivals wsX9_gatherPlaces := goodIn_r _ [12, 2, 4, 13, 14, 15, 16, 17, 18, 19, 20, 21, 22, 23, 24, 25, 26, 27, 28, 29, 30, 31, 32, 11, 33, 34, 35, 36, 37, 38, 39, 40, 41, 42, 43, 44, 45, 46, 47, 48, 49, 50, 51, 52, 53, 54, 55, 56, 57, 58, 59, 60, 61, 62, 63, 64, 65, 66, 67, 90, 91, 92, 93, 94, 76, 77, 78, 79, 80, 81, 82, 83, 84, 85, 86, 87, 88, 89, 95, 96, 97, 98, 99, 100, 101, 102, 103, 104, 105, 106, 107, 108, 109] (by decide +kernel) (by decide +kernel)
set_option maxRecDepth 20000 in
theorem gX9_splitRivals_X9_gatherPlaces : GoodIn wsX9_splitRivals (wsV RX9 211 RX9 yX9_gatherPlaces wsX9_gatherPlaces) := goodIn_app (goodIn_of _ (by decide +kernel)) ggX9_splitRivals_X9_gatherPlaces
set_option maxRecDepth 20000 in
theorem ggX9_splitRivals_X4_leastLack : GoodIn wsX9_splitRivals wsX4_leastLack := goodIn_r _ [71, 64, 66, 72, 73, 74, 75, 90, 91, 92, 93, 94] (by decide +kernel) (by decide +kernel)
set_option maxRecDepth 20000 in
theorem gX9_splitRivals_X4_leastLack : GoodIn wsX9_splitRivals (wsV RX9 405 RX4 yX4_leastLack wsX4_leastLack) := goodIn_app (goodIn_of _ (by decide +kernel)) ggX9_splitRivals_X4_leastLack
set_option maxRecDepth 20000 in
theorem ggX9_splitRivals_X8_cellsIn : GoodIn wsX9_splitRivals wsX8_cellsIn := goodIn_r _ [38, 29, 39, 40, 95, 96, 97, 98, 99, 100, 101, 102, 103, 104] (by decide +kernel) (by decide +kernel)
set_option maxRecDepth 20000 in
theorem gX9_splitRivals_X8_cellsIn : GoodIn wsX9_splitRivals (wsV RX9 383 RX8 yX8_cellsIn wsX8_cellsIn) := goodIn_app (goodIn_of _ (by decide +kernel)) ggX9_splitRivals_X8_cellsIn
theorem dX9_splitRivals_0 : decode cX9_splitRivals 0 = .ok (.aload_n 0, 1) := by decide +kernel
theorem dX9_splitRivals_1 : decode cX9_splitRivals 1 = .ok (.aload_n 1, 1) := by decide +kernel
theorem dX9_splitRivals_2 : decode cX9_splitRivals 2 = .ok (.iload_n 2, 1) := by decide +kernel
theorem dX9_splitRivals_3 : decode cX9_splitRivals 3 = .ok (.aload_n 0, 1) := by decide +kernel
theorem dX9_splitRivals_4 : decode cX9_splitRivals 4 = .ok (.getfield 61, 3) := by decide +kernel
theorem dX9_splitRivals_7 : decode cX9_splitRivals 7 = .ok (.invokevirtual 211, 3) := by decide +kernel
theorem dX9_splitRivals_10 : decode cX9_splitRivals 10 = .ok (.aload_n 0, 1) := by decide +kernel
theorem dX9_splitRivals_11 : decode cX9_splitRivals 11 = .ok (.getfield 61, 3) := by decide +kernel
theorem dX9_splitRivals_14 : decode cX9_splitRivals 14 = .ok (.invokevirtual 405, 3) := by decide +kernel
theorem dX9_splitRivals_17 : decode cX9_splitRivals 17 = .ok (.istore_n 3, 1) := by decide +kernel
theorem dX9_splitRivals_18 : decode cX9_splitRivals 18 = .ok (.iconst 0, 1) := by decide +kernel
theorem dX9_splitRivals_19 : decode cX9_splitRivals 19 = .ok (.istore 4, 2) := by decide +kernel
theorem dX9_splitRivals_21 : decode cX9_splitRivals 21 = .ok (.iload 4, 2) := by decide +kernel
theorem dX9_splitRivals_23 : decode cX9_splitRivals 23 = .ok (.bipush 10, 2) := by decide +kernel
theorem dX9_splitRivals_25 : decode cX9_splitRivals 25 = .ok (.if_icmp .ge 111, 3) := by decide +kernel
theorem dX9_splitRivals_28 : decode cX9_splitRivals 28 = .ok (.iconst 0, 1) := by decide +kernel
theorem dX9_splitRivals_29 : decode cX9_splitRivals 29 = .ok (.istore 5, 2) := by decide +kernel
theorem dX9_splitRivals_31 : decode cX9_splitRivals 31 = .ok (.sipush 32767, 3) := by decide +kernel
theorem dX9_splitRivals_34 : decode cX9_splitRivals 34 = .ok (.istore 6, 2) := by decide +kernel
theorem dX9_splitRivals_36 : decode cX9_splitRivals 36 = .ok (.iconst 0, 1) := by decide +kernel
theorem dX9_splitRivals_37 : decode cX9_splitRivals 37 = .ok (.istore 7, 2) := by decide +kernel
theorem dX9_splitRivals_39 : decode cX9_splitRivals 39 = .ok (.iload 7, 2) := by decide +kernel
theorem dX9_splitRivals_41 : decode cX9_splitRivals 41 = .ok (.aload_n 0, 1) := by decide +kernel
theorem dX9_splitRivals_42 : decode cX9_splitRivals 42 = .ok (.getfield 61, 3) := by decide +kernel
theorem dX9_splitRivals_45 : decode cX9_splitRivals 45 = .ok (.getfield 398, 3) := by decide +kernel
theorem dX9_splitRivals_48 : decode cX9_splitRivals 48 = .ok (.if_icmp .ge 68, 3) := by decide +kernel
theorem dX9_splitRivals_51 : decode cX9_splitRivals 51 = .ok (.aload_n 0, 1) := by decide +kernel
theorem dX9_splitRivals_52 : decode cX9_splitRivals 52 = .ok (.getfield 61, 3) := by decide +kernel
theorem dX9_splitRivals_55 : decode cX9_splitRivals 55 = .ok (.getfield 408, 3) := by decide +kernel
theorem dX9_splitRivals_58 : decode cX9_splitRivals 58 = .ok (.iload 7, 2) := by decide +kernel
theorem dX9_splitRivals_60 : decode cX9_splitRivals 60 = .ok (.iaload, 1) := by decide +kernel
theorem dX9_splitRivals_61 : decode cX9_splitRivals 61 = .ok (.iload_n 3, 1) := by decide +kernel
theorem dX9_splitRivals_62 : decode cX9_splitRivals 62 = .ok (.if_icmp .ne 48, 3) := by decide +kernel
theorem dX9_splitRivals_65 : decode cX9_splitRivals 65 = .ok (.aload_n 0, 1) := by decide +kernel
theorem dX9_splitRivals_66 : decode cX9_splitRivals 66 = .ok (.getfield 19, 3) := by decide +kernel
theorem dX9_splitRivals_69 : decode cX9_splitRivals 69 = .ok (.aload_n 0, 1) := by decide +kernel
theorem dX9_splitRivals_70 : decode cX9_splitRivals 70 = .ok (.getfield 61, 3) := by decide +kernel
theorem dX9_splitRivals_73 : decode cX9_splitRivals 73 = .ok (.getfield 225, 3) := by decide +kernel
theorem dX9_splitRivals_76 : decode cX9_splitRivals 76 = .ok (.iload 7, 2) := by decide +kernel
theorem dX9_splitRivals_78 : decode cX9_splitRivals 78 = .ok (.iaload, 1) := by decide +kernel
theorem dX9_splitRivals_79 : decode cX9_splitRivals 79 = .ok (.aload_n 0, 1) := by decide +kernel
theorem dX9_splitRivals_80 : decode cX9_splitRivals 80 = .ok (.getfield 61, 3) := by decide +kernel
theorem dX9_splitRivals_83 : decode cX9_splitRivals 83 = .ok (.getfield 218, 3) := by decide +kernel
theorem dX9_splitRivals_86 : decode cX9_splitRivals 86 = .ok (.iload 7, 2) := by decide +kernel
theorem dX9_splitRivals_88 : decode cX9_splitRivals 88 = .ok (.iaload, 1) := by decide +kernel
theorem dX9_splitRivals_89 : decode cX9_splitRivals 89 = .ok (.iload 4, 2) := by decide +kernel
theorem dX9_splitRivals_91 : decode cX9_splitRivals 91 = .ok (.invokevirtual 383, 3) := by decide +kernel
theorem dX9_splitRivals_94 : decode cX9_splitRivals 94 = .ok (.istore 8, 2) := by decide +kernel
theorem dX9_splitRivals_96 : decode cX9_splitRivals 96 = .ok (.iload 5, 2) := by decide +kernel
theorem dX9_splitRivals_98 : decode cX9_splitRivals 98 = .ok (.iload 8, 2) := by decide +kernel
theorem dX9_splitRivals_100 : decode cX9_splitRivals 100 = .ok (.ior, 1) := by decide +kernel
theorem dX9_splitRivals_101 : decode cX9_splitRivals 101 = .ok (.istore 5, 2) := by decide +kernel
theorem dX9_splitRivals_103 : decode cX9_splitRivals 103 = .ok (.iload 6, 2) := by decide +kernel
theorem dX9_splitRivals_105 : decode cX9_splitRivals 105 = .ok (.iload 8, 2) := by decide +kernel
theorem dX9_splitRivals_107 : decode cX9_splitRivals 107 = .ok (.iand, 1) := by decide +kernel
theorem dX9_splitRivals_108 : decode cX9_splitRivals 108 = .ok (.istore 6, 2) := by decide +kernel
theorem dX9_splitRivals_110 : decode cX9_splitRivals 110 = .ok (.iinc 7 1, 3) := by decide +kernel
theorem dX9_splitRivals_113 : decode cX9_splitRivals 113 = .ok (.goto (-74), 3) := by decide +kernel
theorem dX9_splitRivals_116 : decode cX9_splitRivals 116 = .ok (.aload_n 0, 1) := by decide +kernel
theorem dX9_splitRivals_117 : decode cX9_splitRivals 117 = .ok (.getfield 75, 3) := by decide +kernel
theorem dX9_splitRivals_120 : decode cX9_splitRivals 120 = .ok (.iload 4, 2) := by decide +kernel
theorem dX9_splitRivals_122 : decode cX9_splitRivals 122 = .ok (.iload 5, 2) := by decide +kernel
theorem dX9_splitRivals_124 : decode cX9_splitRivals 124 = .ok (.iload 6, 2) := by decide +kernel
theorem dX9_splitRivals_126 : decode cX9_splitRivals 126 = .ok (.iconst (-1), 1) := by decide +kernel
theorem dX9_splitRivals_127 : decode cX9_splitRivals 127 = .ok (.ixor, 1) := by decide +kernel
theorem dX9_splitRivals_128 : decode cX9_splitRivals 128 = .ok (.iand, 1) := by decide +kernel
theorem dX9_splitRivals_129 : decode cX9_splitRivals 129 = .ok (.iastore, 1) := by decide +kernel
theorem dX9_splitRivals_130 : decode cX9_splitRivals 130 = .ok (.iinc 4 1, 3) := by decide +kernel
theorem dX9_splitRivals_133 : decode cX9_splitRivals 133 = .ok (.goto (-112), 3) := by decide +kernel
theorem dX9_splitRivals_136 : decode cX9_splitRivals 136 = .ok (.return_, 1) := by decide +kernel
set_option maxRecDepth 20000 in
theorem ggX9_gainOf_X1_cellsIn : GoodIn wsX9_gainOf wsX1_cellsIn := goodIn_r _ [8, 9, 10, 11, 12, 13, 41, 42, 43, 44, 45] (by decide +kernel) (by decide +kernel)
set_option maxRecDepth 20000 in
theorem gX9_gainOf_X1_cellsIn : GoodIn wsX9_gainOf (wsV RX9 411 RX1 yX1_cellsIn wsX1_cellsIn) := goodIn_app (goodIn_of _ (by decide +kernel)) ggX9_gainOf_X1_cellsIn
set_option maxRecDepth 20000 in
theorem ggX9_gainOf_X2_known : GoodIn wsX9_gainOf wsX2_known := goodIn_r _ [18, 19, 46, 47, 48, 49, 50] (by decide +kernel) (by decide +kernel)
set_option maxRecDepth 20000 in
theorem gX9_gainOf_X2_known : GoodIn wsX9_gainOf (wsV RX9 390 RX2 yX2_known wsX2_known) := goodIn_app (goodIn_of _ (by decide +kernel)) ggX9_gainOf_X2_known
set_option maxRecDepth 20000 in
theorem ggX9_gainOf_J6_bitCount_0f7a4 : GoodIn wsX9_gainOf wsJ6_bitCount_0f7a4 := goodIn_r _ [23, 24, 25, 26] (by decide +kernel) (by decide +kernel)
set_option maxRecDepth 20000 in
theorem gX9_gainOf_J6_bitCount_0f7a4 : GoodIn wsX9_gainOf (va_wsS RX9 393 yJ6_bitCount_0f7a4 wsJ6_bitCount_0f7a4) := goodIn_app (goodIn_of _ (by decide +kernel)) ggX9_gainOf_J6_bitCount_0f7a4
theorem dX9_gainOf_0 : decode cX9_gainOf 0 = .ok (.iconst 0, 1) := by decide +kernel
theorem dX9_gainOf_1 : decode cX9_gainOf 1 = .ok (.istore_n 3, 1) := by decide +kernel
theorem dX9_gainOf_2 : decode cX9_gainOf 2 = .ok (.iconst 0, 1) := by decide +kernel
theorem dX9_gainOf_3 : decode cX9_gainOf 3 = .ok (.istore 4, 2) := by decide +kernel
theorem dX9_gainOf_5 : decode cX9_gainOf 5 = .ok (.iload 4, 2) := by decide +kernel
theorem dX9_gainOf_7 : decode cX9_gainOf 7 = .ok (.bipush 10, 2) := by decide +kernel
theorem dX9_gainOf_9 : decode cX9_gainOf 9 = .ok (.if_icmp .ge 52, 3) := by decide +kernel
theorem dX9_gainOf_12 : decode cX9_gainOf 12 = .ok (.aload_n 0, 1) := by decide +kernel
theorem dX9_gainOf_13 : decode cX9_gainOf 13 = .ok (.getfield 40, 3) := by decide +kernel
theorem dX9_gainOf_16 : decode cX9_gainOf 16 = .ok (.iload_n 1, 1) := by decide +kernel
theorem dX9_gainOf_17 : decode cX9_gainOf 17 = .ok (.iload_n 2, 1) := by decide +kernel
theorem dX9_gainOf_18 : decode cX9_gainOf 18 = .ok (.iload 4, 2) := by decide +kernel
theorem dX9_gainOf_20 : decode cX9_gainOf 20 = .ok (.invokevirtual 411, 3) := by decide +kernel
theorem dX9_gainOf_23 : decode cX9_gainOf 23 = .ok (.aload_n 0, 1) := by decide +kernel
theorem dX9_gainOf_24 : decode cX9_gainOf 24 = .ok (.getfield 25, 3) := by decide +kernel
theorem dX9_gainOf_27 : decode cX9_gainOf 27 = .ok (.iload_n 2, 1) := by decide +kernel
theorem dX9_gainOf_28 : decode cX9_gainOf 28 = .ok (.aaload, 1) := by decide +kernel
theorem dX9_gainOf_29 : decode cX9_gainOf 29 = .ok (.iload 4, 2) := by decide +kernel
theorem dX9_gainOf_31 : decode cX9_gainOf 31 = .ok (.invokevirtual 390, 3) := by decide +kernel
theorem dX9_gainOf_34 : decode cX9_gainOf 34 = .ok (.iconst (-1), 1) := by decide +kernel
theorem dX9_gainOf_35 : decode cX9_gainOf 35 = .ok (.ixor, 1) := by decide +kernel
theorem dX9_gainOf_36 : decode cX9_gainOf 36 = .ok (.iand, 1) := by decide +kernel
theorem dX9_gainOf_37 : decode cX9_gainOf 37 = .ok (.istore 5, 2) := by decide +kernel
theorem dX9_gainOf_39 : decode cX9_gainOf 39 = .ok (.iload_n 3, 1) := by decide +kernel
theorem dX9_gainOf_40 : decode cX9_gainOf 40 = .ok (.iload 5, 2) := by decide +kernel
theorem dX9_gainOf_42 : decode cX9_gainOf 42 = .ok (.aload_n 0, 1) := by decide +kernel
theorem dX9_gainOf_43 : decode cX9_gainOf 43 = .ok (.getfield 75, 3) := by decide +kernel
theorem dX9_gainOf_46 : decode cX9_gainOf 46 = .ok (.iload 4, 2) := by decide +kernel
theorem dX9_gainOf_48 : decode cX9_gainOf 48 = .ok (.iaload, 1) := by decide +kernel
theorem dX9_gainOf_49 : decode cX9_gainOf 49 = .ok (.iand, 1) := by decide +kernel
theorem dX9_gainOf_50 : decode cX9_gainOf 50 = .ok (.invokestatic 393, 3) := by decide +kernel
theorem dX9_gainOf_53 : decode cX9_gainOf 53 = .ok (.iadd, 1) := by decide +kernel
theorem dX9_gainOf_54 : decode cX9_gainOf 54 = .ok (.istore_n 3, 1) := by decide +kernel
theorem dX9_gainOf_55 : decode cX9_gainOf 55 = .ok (.iinc 4 1, 3) := by decide +kernel
theorem dX9_gainOf_58 : decode cX9_gainOf 58 = .ok (.goto (-53), 3) := by decide +kernel
theorem dX9_gainOf_61 : decode cX9_gainOf 61 = .ok (.iload_n 3, 1) := by decide +kernel
theorem dX9_gainOf_62 : decode cX9_gainOf 62 = .ok (.ireturn, 1) := by decide +kernel
set_option maxRecDepth 20000 in
theorem ggX9_fitsIn_X9_layerCells : GoodIn wsX9_fitsIn wsX9_layerCells := goodIn_r _ [8, 9, 10, 11, 12, 13, 14, 15, 16, 17, 18, 19, 25, 26, 27, 28, 29, 30, 31, 32, 33, 34, 35, 36, 37, 38, 20, 21, 22, 23, 24, 39, 40, 41, 42, 43, 44, 45, 46, 47, 48] (by decide +kernel) (by decide +kernel)
set_option maxRecDepth 20000 in
theorem gX9_fitsIn_X9_layerCells : GoodIn wsX9_fitsIn (wsV RX9 415 RX9 yX9_layerCells wsX9_layerCells) := goodIn_app (goodIn_of _ (by decide +kernel)) ggX9_fitsIn_X9_layerCells
theorem dX9_fitsIn_0 : decode cX9_fitsIn 0 = .ok (.iconst 1, 1) := by decide +kernel
theorem dX9_fitsIn_1 : decode cX9_fitsIn 1 = .ok (.istore_n 3, 1) := by decide +kernel
theorem dX9_fitsIn_2 : decode cX9_fitsIn 2 = .ok (.iload_n 3, 1) := by decide +kernel
theorem dX9_fitsIn_3 : decode cX9_fitsIn 3 = .ok (.iconst 3, 1) := by decide +kernel
theorem dX9_fitsIn_4 : decode cX9_fitsIn 4 = .ok (.if_icmp .gt 72, 3) := by decide +kernel
theorem dX9_fitsIn_7 : decode cX9_fitsIn 7 = .ok (.iconst 0, 1) := by decide +kernel
theorem dX9_fitsIn_8 : decode cX9_fitsIn 8 = .ok (.istore 4, 2) := by decide +kernel
theorem dX9_fitsIn_10 : decode cX9_fitsIn 10 = .ok (.iconst 0, 1) := by decide +kernel
theorem dX9_fitsIn_11 : decode cX9_fitsIn 11 = .ok (.istore 5, 2) := by decide +kernel
theorem dX9_fitsIn_13 : decode cX9_fitsIn 13 = .ok (.iload 5, 2) := by decide +kernel
theorem dX9_fitsIn_15 : decode cX9_fitsIn 15 = .ok (.aload_n 1, 1) := by decide +kernel
theorem dX9_fitsIn_16 : decode cX9_fitsIn 16 = .ok (.getfield 238, 3) := by decide +kernel
theorem dX9_fitsIn_19 : decode cX9_fitsIn 19 = .ok (.if_icmp .ge 33, 3) := by decide +kernel
theorem dX9_fitsIn_22 : decode cX9_fitsIn 22 = .ok (.aload_n 1, 1) := by decide +kernel
theorem dX9_fitsIn_23 : decode cX9_fitsIn 23 = .ok (.getfield 412, 3) := by decide +kernel
theorem dX9_fitsIn_26 : decode cX9_fitsIn 26 = .ok (.iload 5, 2) := by decide +kernel
theorem dX9_fitsIn_28 : decode cX9_fitsIn 28 = .ok (.iaload, 1) := by decide +kernel
theorem dX9_fitsIn_29 : decode cX9_fitsIn 29 = .ok (.iload_n 3, 1) := by decide +kernel
theorem dX9_fitsIn_30 : decode cX9_fitsIn 30 = .ok (.if_icmp .ne 16, 3) := by decide +kernel
theorem dX9_fitsIn_33 : decode cX9_fitsIn 33 = .ok (.iload 4, 2) := by decide +kernel
theorem dX9_fitsIn_35 : decode cX9_fitsIn 35 = .ok (.aload_n 0, 1) := by decide +kernel
theorem dX9_fitsIn_36 : decode cX9_fitsIn 36 = .ok (.aload_n 1, 1) := by decide +kernel
theorem dX9_fitsIn_37 : decode cX9_fitsIn 37 = .ok (.iload 5, 2) := by decide +kernel
theorem dX9_fitsIn_39 : decode cX9_fitsIn 39 = .ok (.iload_n 2, 1) := by decide +kernel
theorem dX9_fitsIn_40 : decode cX9_fitsIn 40 = .ok (.invokevirtual 415, 3) := by decide +kernel
theorem dX9_fitsIn_43 : decode cX9_fitsIn 43 = .ok (.ior, 1) := by decide +kernel
theorem dX9_fitsIn_44 : decode cX9_fitsIn 44 = .ok (.istore 4, 2) := by decide +kernel
theorem dX9_fitsIn_46 : decode cX9_fitsIn 46 = .ok (.iinc 5 1, 3) := by decide +kernel
theorem dX9_fitsIn_49 : decode cX9_fitsIn 49 = .ok (.goto (-36), 3) := by decide +kernel
theorem dX9_fitsIn_52 : decode cX9_fitsIn 52 = .ok (.aload_n 1, 1) := by decide +kernel
theorem dX9_fitsIn_53 : decode cX9_fitsIn 53 = .ok (.getfield 386, 3) := by decide +kernel
theorem dX9_fitsIn_56 : decode cX9_fitsIn 56 = .ok (.iload_n 3, 1) := by decide +kernel
theorem dX9_fitsIn_57 : decode cX9_fitsIn 57 = .ok (.aaload, 1) := by decide +kernel
theorem dX9_fitsIn_58 : decode cX9_fitsIn 58 = .ok (.iload_n 2, 1) := by decide +kernel
theorem dX9_fitsIn_59 : decode cX9_fitsIn 59 = .ok (.iaload, 1) := by decide +kernel
theorem dX9_fitsIn_60 : decode cX9_fitsIn 60 = .ok (.iload 4, 2) := by decide +kernel
theorem dX9_fitsIn_62 : decode cX9_fitsIn 62 = .ok (.iconst (-1), 1) := by decide +kernel
theorem dX9_fitsIn_63 : decode cX9_fitsIn 63 = .ok (.ixor, 1) := by decide +kernel
theorem dX9_fitsIn_64 : decode cX9_fitsIn 64 = .ok (.iand, 1) := by decide +kernel
theorem dX9_fitsIn_65 : decode cX9_fitsIn 65 = .ok (.ifCond .eq 5, 3) := by decide +kernel
theorem dX9_fitsIn_68 : decode cX9_fitsIn 68 = .ok (.iconst 0, 1) := by decide +kernel
theorem dX9_fitsIn_69 : decode cX9_fitsIn 69 = .ok (.ireturn, 1) := by decide +kernel
theorem dX9_fitsIn_70 : decode cX9_fitsIn 70 = .ok (.iinc 3 1, 3) := by decide +kernel
theorem dX9_fitsIn_73 : decode cX9_fitsIn 73 = .ok (.goto (-71), 3) := by decide +kernel
theorem dX9_fitsIn_76 : decode cX9_fitsIn 76 = .ok (.iconst 1, 1) := by decide +kernel
theorem dX9_fitsIn_77 : decode cX9_fitsIn 77 = .ok (.ireturn, 1) := by decide +kernel
set_option maxRecDepth 20000 in
theorem ggX9_fadedIn_X9_layerCells : GoodIn wsX9_fadedIn wsX9_layerCells := goodIn_r _ [8, 9, 10, 11, 12, 13, 14, 15, 16, 17, 18, 19, 32, 33, 34, 35, 36, 37, 38, 39, 40, 41, 42, 43, 44, 45, 27, 28, 29, 30, 31, 46, 47, 48, 49, 50, 51, 52, 53, 54, 55] (by decide +kernel) (by decide +kernel)
set_option maxRecDepth 20000 in
theorem gX9_fadedIn_X9_layerCells : GoodIn wsX9_fadedIn (wsV RX9 415 RX9 yX9_layerCells wsX9_layerCells) := goodIn_app (goodIn_of _ (by decide +kernel)) ggX9_fadedIn_X9_layerCells
set_option maxRecDepth 20000 in
theorem ggX9_fadedIn_J6_bitCount_0f7a4 : GoodIn wsX9_fadedIn wsJ6_bitCount_0f7a4 := goodIn_r _ [23, 24, 25, 26] (by decide +kernel) (by decide +kernel)
set_option maxRecDepth 20000 in
theorem gX9_fadedIn_J6_bitCount_0f7a4 : GoodIn wsX9_fadedIn (va_wsS RX9 393 yJ6_bitCount_0f7a4 wsJ6_bitCount_0f7a4) := goodIn_app (goodIn_of _ (by decide +kernel)) ggX9_fadedIn_J6_bitCount_0f7a4
theorem dX9_fadedIn_0 : decode cX9_fadedIn 0 = .ok (.iconst 0, 1) := by decide +kernel
theorem dX9_fadedIn_1 : decode cX9_fadedIn 1 = .ok (.istore_n 3, 1) := by decide +kernel
theorem dX9_fadedIn_2 : decode cX9_fadedIn 2 = .ok (.aload_n 1, 1) := by decide +kernel
theorem dX9_fadedIn_3 : decode cX9_fadedIn 3 = .ok (.getfield 386, 3) := by decide +kernel
theorem dX9_fadedIn_6 : decode cX9_fadedIn 6 = .ok (.iconst 0, 1) := by decide +kernel
theorem dX9_fadedIn_7 : decode cX9_fadedIn 7 = .ok (.aaload, 1) := by decide +kernel
theorem dX9_fadedIn_8 : decode cX9_fadedIn 8 = .ok (.iload_n 2, 1) := by decide +kernel
theorem dX9_fadedIn_9 : decode cX9_fadedIn 9 = .ok (.iaload, 1) := by decide +kernel
theorem dX9_fadedIn_10 : decode cX9_fadedIn 10 = .ok (.istore 4, 2) := by decide +kernel
theorem dX9_fadedIn_12 : decode cX9_fadedIn 12 = .ok (.iconst 0, 1) := by decide +kernel
theorem dX9_fadedIn_13 : decode cX9_fadedIn 13 = .ok (.istore 5, 2) := by decide +kernel
theorem dX9_fadedIn_15 : decode cX9_fadedIn 15 = .ok (.iload 5, 2) := by decide +kernel
theorem dX9_fadedIn_17 : decode cX9_fadedIn 17 = .ok (.aload_n 1, 1) := by decide +kernel
theorem dX9_fadedIn_18 : decode cX9_fadedIn 18 = .ok (.getfield 238, 3) := by decide +kernel
theorem dX9_fadedIn_21 : decode cX9_fadedIn 21 = .ok (.if_icmp .ge 45, 3) := by decide +kernel
theorem dX9_fadedIn_24 : decode cX9_fadedIn 24 = .ok (.iload_n 3, 1) := by decide +kernel
theorem dX9_fadedIn_25 : decode cX9_fadedIn 25 = .ok (.aload_n 0, 1) := by decide +kernel
theorem dX9_fadedIn_26 : decode cX9_fadedIn 26 = .ok (.aload_n 1, 1) := by decide +kernel
theorem dX9_fadedIn_27 : decode cX9_fadedIn 27 = .ok (.iload 5, 2) := by decide +kernel
theorem dX9_fadedIn_29 : decode cX9_fadedIn 29 = .ok (.iload_n 2, 1) := by decide +kernel
theorem dX9_fadedIn_30 : decode cX9_fadedIn 30 = .ok (.invokevirtual 415, 3) := by decide +kernel
theorem dX9_fadedIn_33 : decode cX9_fadedIn 33 = .ok (.iload 4, 2) := by decide +kernel
theorem dX9_fadedIn_35 : decode cX9_fadedIn 35 = .ok (.iand, 1) := by decide +kernel
theorem dX9_fadedIn_36 : decode cX9_fadedIn 36 = .ok (.invokestatic 393, 3) := by decide +kernel
theorem dX9_fadedIn_39 : decode cX9_fadedIn 39 = .ok (.iadd, 1) := by decide +kernel
theorem dX9_fadedIn_40 : decode cX9_fadedIn 40 = .ok (.istore_n 3, 1) := by decide +kernel
theorem dX9_fadedIn_41 : decode cX9_fadedIn 41 = .ok (.iload 4, 2) := by decide +kernel
theorem dX9_fadedIn_43 : decode cX9_fadedIn 43 = .ok (.aload_n 1, 1) := by decide +kernel
theorem dX9_fadedIn_44 : decode cX9_fadedIn 44 = .ok (.getfield 386, 3) := by decide +kernel
theorem dX9_fadedIn_47 : decode cX9_fadedIn 47 = .ok (.aload_n 1, 1) := by decide +kernel
theorem dX9_fadedIn_48 : decode cX9_fadedIn 48 = .ok (.getfield 412, 3) := by decide +kernel
theorem dX9_fadedIn_51 : decode cX9_fadedIn 51 = .ok (.iload 5, 2) := by decide +kernel
theorem dX9_fadedIn_53 : decode cX9_fadedIn 53 = .ok (.iaload, 1) := by decide +kernel
theorem dX9_fadedIn_54 : decode cX9_fadedIn 54 = .ok (.aaload, 1) := by decide +kernel
theorem dX9_fadedIn_55 : decode cX9_fadedIn 55 = .ok (.iload_n 2, 1) := by decide +kernel
theorem dX9_fadedIn_56 : decode cX9_fadedIn 56 = .ok (.iaload, 1) := by decide +kernel
theorem dX9_fadedIn_57 : decode cX9_fadedIn 57 = .ok (.ior, 1) := by decide +kernel
theorem dX9_fadedIn_58 : decode cX9_fadedIn 58 = .ok (.istore 4, 2) := by decide +kernel
theorem dX9_fadedIn_60 : decode cX9_fadedIn 60 = .ok (.iinc 5 1, 3) := by decide +kernel
theorem dX9_fadedIn_63 : decode cX9_fadedIn 63 = .ok (.goto (-48), 3) := by decide +kernel
theorem dX9_fadedIn_66 : decode cX9_fadedIn 66 = .ok (.iload_n 3, 1) := by decide +kernel
theorem dX9_fadedIn_67 : decode cX9_fadedIn 67 = .ok (.ireturn, 1) := by decide +kernel
set_option maxRecDepth 20000 in
theorem ggX9_layerCells_X8_cellsIn : GoodIn wsX9_layerCells wsX8_cellsIn := goodIn_r _ [8, 9, 10, 11, 31, 32, 33, 34, 35, 36, 37, 38, 39, 40] (by decide +kernel) (by decide +kernel)
set_option maxRecDepth 20000 in
theorem gX9_layerCells_X8_cellsIn : GoodIn wsX9_layerCells (wsV RX9 383 RX8 yX8_cellsIn wsX8_cellsIn) := goodIn_app (goodIn_of _ (by decide +kernel)) ggX9_layerCells_X8_cellsIn
theorem dX9_layerCells_0 : decode cX9_layerCells 0 = .ok (.aload_n 0, 1) := by decide +kernel
theorem dX9_layerCells_1 : decode cX9_layerCells 1 = .ok (.getfield 19, 3) := by decide +kernel
theorem dX9_layerCells_4 : decode cX9_layerCells 4 = .ok (.aload_n 1, 1) := by decide +kernel
theorem dX9_layerCells_5 : decode cX9_layerCells 5 = .ok (.getfield 305, 3) := by decide +kernel
theorem dX9_layerCells_8 : decode cX9_layerCells 8 = .ok (.iload_n 2, 1) := by decide +kernel
theorem dX9_layerCells_9 : decode cX9_layerCells 9 = .ok (.iaload, 1) := by decide +kernel
theorem dX9_layerCells_10 : decode cX9_layerCells 10 = .ok (.aload_n 1, 1) := by decide +kernel
theorem dX9_layerCells_11 : decode cX9_layerCells 11 = .ok (.getfield 418, 3) := by decide +kernel
theorem dX9_layerCells_14 : decode cX9_layerCells 14 = .ok (.iload_n 2, 1) := by decide +kernel
theorem dX9_layerCells_15 : decode cX9_layerCells 15 = .ok (.iaload, 1) := by decide +kernel
theorem dX9_layerCells_16 : decode cX9_layerCells 16 = .ok (.iload_n 3, 1) := by decide +kernel
theorem dX9_layerCells_17 : decode cX9_layerCells 17 = .ok (.invokevirtual 383, 3) := by decide +kernel
theorem dX9_layerCells_20 : decode cX9_layerCells 20 = .ok (.ireturn, 1) := by decide +kernel
set_option maxRecDepth 20000 in
theorem ggX9_addPlace_X2_addLayer : GoodIn wsX9_addPlace wsX2_addLayer := goodIn_r _ [7, 8, 9, 10, 11, 17, 18, 19, 20, 21] (by decide +kernel) (by decide +kernel)
set_option maxRecDepth 20000 in
theorem gX9_addPlace_X2_addLayer : GoodIn wsX9_addPlace (wsV RX9 234 RX2 yX2_addLayer wsX2_addLayer) := goodIn_app (goodIn_of _ (by decide +kernel)) ggX9_addPlace_X2_addLayer
theorem dX9_addPlace_0 : decode cX9_addPlace 0 = .ok (.aload_n 0, 1) := by decide +kernel
theorem dX9_addPlace_1 : decode cX9_addPlace 1 = .ok (.aload_n 1, 1) := by decide +kernel
theorem dX9_addPlace_2 : decode cX9_addPlace 2 = .ok (.getfield 225, 3) := by decide +kernel
theorem dX9_addPlace_5 : decode cX9_addPlace 5 = .ok (.iload_n 2, 1) := by decide +kernel
theorem dX9_addPlace_6 : decode cX9_addPlace 6 = .ok (.iaload, 1) := by decide +kernel
theorem dX9_addPlace_7 : decode cX9_addPlace 7 = .ok (.aload_n 1, 1) := by decide +kernel
theorem dX9_addPlace_8 : decode cX9_addPlace 8 = .ok (.getfield 218, 3) := by decide +kernel
theorem dX9_addPlace_11 : decode cX9_addPlace 11 = .ok (.iload_n 2, 1) := by decide +kernel
theorem dX9_addPlace_12 : decode cX9_addPlace 12 = .ok (.iaload, 1) := by decide +kernel
theorem dX9_addPlace_13 : decode cX9_addPlace 13 = .ok (.iload_n 3, 1) := by decide +kernel
theorem dX9_addPlace_14 : decode cX9_addPlace 14 = .ok (.invokevirtual 234, 3) := by decide +kernel
theorem dX9_addPlace_17 : decode cX9_addPlace 17 = .ok (.return_, 1) := by decide +kernel
set_option maxRecDepth 20000 in
theorem ggX9_hasSpan_X6_became : GoodIn wsX9_hasSpan wsX6_became := goodIn_r _ [13, 14, 15, 16, 17, 18, 19, 20, 21, 22, 23, 24, 49, 50, 51, 52, 53, 54] (by decide +kernel) (by decide +kernel)
set_option maxRecDepth 20000 in
theorem gX9_hasSpan_X6_became : GoodIn wsX9_hasSpan (wsV RX9 287 RX6 yX6_became wsX6_became) := goodIn_app (goodIn_of _ (by decide +kernel)) ggX9_hasSpan_X6_became
theorem dX9_hasSpan_0 : decode cX9_hasSpan 0 = .ok (.aload_n 0, 1) := by decide +kernel
theorem dX9_hasSpan_1 : decode cX9_hasSpan 1 = .ok (.getfield 19, 3) := by decide +kernel
theorem dX9_hasSpan_4 : decode cX9_hasSpan 4 = .ok (.getfield 421, 3) := by decide +kernel
theorem dX9_hasSpan_7 : decode cX9_hasSpan 7 = .ok (.iload_n 1, 1) := by decide +kernel
theorem dX9_hasSpan_8 : decode cX9_hasSpan 8 = .ok (.iaload, 1) := by decide +kernel
theorem dX9_hasSpan_9 : decode cX9_hasSpan 9 = .ok (.ifCond .ne 5, 3) := by decide +kernel
theorem dX9_hasSpan_12 : decode cX9_hasSpan 12 = .ok (.iconst 1, 1) := by decide +kernel
theorem dX9_hasSpan_13 : decode cX9_hasSpan 13 = .ok (.ireturn, 1) := by decide +kernel
theorem dX9_hasSpan_14 : decode cX9_hasSpan 14 = .ok (.aload_n 0, 1) := by decide +kernel
theorem dX9_hasSpan_15 : decode cX9_hasSpan 15 = .ok (.getfield 19, 3) := by decide +kernel
theorem dX9_hasSpan_18 : decode cX9_hasSpan 18 = .ok (.getfield 164, 3) := by decide +kernel
theorem dX9_hasSpan_21 : decode cX9_hasSpan 21 = .ok (.iload_n 1, 1) := by decide +kernel
theorem dX9_hasSpan_22 : decode cX9_hasSpan 22 = .ok (.iaload, 1) := by decide +kernel
theorem dX9_hasSpan_23 : decode cX9_hasSpan 23 = .ok (.istore_n 2, 1) := by decide +kernel
theorem dX9_hasSpan_24 : decode cX9_hasSpan 24 = .ok (.aload_n 0, 1) := by decide +kernel
theorem dX9_hasSpan_25 : decode cX9_hasSpan 25 = .ok (.getfield 33, 3) := by decide +kernel
theorem dX9_hasSpan_28 : decode cX9_hasSpan 28 = .ok (.aload_n 0, 1) := by decide +kernel
theorem dX9_hasSpan_29 : decode cX9_hasSpan 29 = .ok (.getfield 33, 3) := by decide +kernel
theorem dX9_hasSpan_32 : decode cX9_hasSpan 32 = .ok (.getfield 290, 3) := by decide +kernel
theorem dX9_hasSpan_35 : decode cX9_hasSpan 35 = .ok (.aload_n 0, 1) := by decide +kernel
theorem dX9_hasSpan_36 : decode cX9_hasSpan 36 = .ok (.getfield 33, 3) := by decide +kernel
theorem dX9_hasSpan_39 : decode cX9_hasSpan 39 = .ok (.getfield 293, 3) := by decide +kernel
theorem dX9_hasSpan_42 : decode cX9_hasSpan 42 = .ok (.iload_n 2, 1) := by decide +kernel
theorem dX9_hasSpan_43 : decode cX9_hasSpan 43 = .ok (.invokevirtual 287, 3) := by decide +kernel
theorem dX9_hasSpan_46 : decode cX9_hasSpan 46 = .ok (.istore_n 3, 1) := by decide +kernel
theorem dX9_hasSpan_47 : decode cX9_hasSpan 47 = .ok (.iload_n 3, 1) := by decide +kernel
theorem dX9_hasSpan_48 : decode cX9_hasSpan 48 = .ok (.bipush (-9), 2) := by decide +kernel
theorem dX9_hasSpan_50 : decode cX9_hasSpan 50 = .ok (.if_icmp .eq 37, 3) := by decide +kernel
theorem dX9_hasSpan_53 : decode cX9_hasSpan 53 = .ok (.iload_n 3, 1) := by decide +kernel
theorem dX9_hasSpan_54 : decode cX9_hasSpan 54 = .ok (.aload_n 0, 1) := by decide +kernel
theorem dX9_hasSpan_55 : decode cX9_hasSpan 55 = .ok (.getfield 33, 3) := by decide +kernel
theorem dX9_hasSpan_58 : decode cX9_hasSpan 58 = .ok (.aload_n 0, 1) := by decide +kernel
theorem dX9_hasSpan_59 : decode cX9_hasSpan 59 = .ok (.getfield 19, 3) := by decide +kernel
theorem dX9_hasSpan_62 : decode cX9_hasSpan 62 = .ok (.getfield 158, 3) := by decide +kernel
theorem dX9_hasSpan_65 : decode cX9_hasSpan 65 = .ok (.iload_n 1, 1) := by decide +kernel
theorem dX9_hasSpan_66 : decode cX9_hasSpan 66 = .ok (.iaload, 1) := by decide +kernel
theorem dX9_hasSpan_67 : decode cX9_hasSpan 67 = .ok (.aload_n 0, 1) := by decide +kernel
theorem dX9_hasSpan_68 : decode cX9_hasSpan 68 = .ok (.getfield 19, 3) := by decide +kernel
theorem dX9_hasSpan_71 : decode cX9_hasSpan 71 = .ok (.getfield 161, 3) := by decide +kernel
theorem dX9_hasSpan_74 : decode cX9_hasSpan 74 = .ok (.iload_n 1, 1) := by decide +kernel
theorem dX9_hasSpan_75 : decode cX9_hasSpan 75 = .ok (.iaload, 1) := by decide +kernel
theorem dX9_hasSpan_76 : decode cX9_hasSpan 76 = .ok (.iload_n 2, 1) := by decide +kernel
theorem dX9_hasSpan_77 : decode cX9_hasSpan 77 = .ok (.invokevirtual 287, 3) := by decide +kernel
theorem dX9_hasSpan_80 : decode cX9_hasSpan 80 = .ok (.if_icmp .ne 7, 3) := by decide +kernel
theorem dX9_hasSpan_83 : decode cX9_hasSpan 83 = .ok (.iconst 1, 1) := by decide +kernel
theorem dX9_hasSpan_84 : decode cX9_hasSpan 84 = .ok (.goto 4, 3) := by decide +kernel
theorem dX9_hasSpan_87 : decode cX9_hasSpan 87 = .ok (.iconst 0, 1) := by decide +kernel
theorem dX9_hasSpan_88 : decode cX9_hasSpan 88 = .ok (.ireturn, 1) := by decide +kernel
theorem dX9_firstYear_0 : decode cX9_firstYear 0 = .ok (.aload_n 0, 1) := by decide +kernel
theorem dX9_firstYear_1 : decode cX9_firstYear 1 = .ok (.getfield 19, 3) := by decide +kernel
theorem dX9_firstYear_4 : decode cX9_firstYear 4 = .ok (.getfield 421, 3) := by decide +kernel
theorem dX9_firstYear_7 : decode cX9_firstYear 7 = .ok (.iload_n 1, 1) := by decide +kernel
theorem dX9_firstYear_8 : decode cX9_firstYear 8 = .ok (.iaload, 1) := by decide +kernel
theorem dX9_firstYear_9 : decode cX9_firstYear 9 = .ok (.ifCond .ne 9, 3) := by decide +kernel
theorem dX9_firstYear_12 : decode cX9_firstYear 12 = .ok (.sipush 1700, 3) := by decide +kernel
theorem dX9_firstYear_15 : decode cX9_firstYear 15 = .ok (.goto 12, 3) := by decide +kernel
theorem dX9_firstYear_18 : decode cX9_firstYear 18 = .ok (.aload_n 0, 1) := by decide +kernel
theorem dX9_firstYear_19 : decode cX9_firstYear 19 = .ok (.getfield 19, 3) := by decide +kernel
theorem dX9_firstYear_22 : decode cX9_firstYear 22 = .ok (.getfield 161, 3) := by decide +kernel
theorem dX9_firstYear_25 : decode cX9_firstYear 25 = .ok (.iload_n 1, 1) := by decide +kernel
theorem dX9_firstYear_26 : decode cX9_firstYear 26 = .ok (.iaload, 1) := by decide +kernel
theorem dX9_firstYear_27 : decode cX9_firstYear 27 = .ok (.ireturn, 1) := by decide +kernel
theorem dX9_lastYear_0 : decode cX9_lastYear 0 = .ok (.aload_n 0, 1) := by decide +kernel
theorem dX9_lastYear_1 : decode cX9_lastYear 1 = .ok (.getfield 19, 3) := by decide +kernel
theorem dX9_lastYear_4 : decode cX9_lastYear 4 = .ok (.getfield 421, 3) := by decide +kernel
theorem dX9_lastYear_7 : decode cX9_lastYear 7 = .ok (.iload_n 1, 1) := by decide +kernel
theorem dX9_lastYear_8 : decode cX9_lastYear 8 = .ok (.iaload, 1) := by decide +kernel
theorem dX9_lastYear_9 : decode cX9_lastYear 9 = .ok (.ifCond .ne 9, 3) := by decide +kernel
theorem dX9_lastYear_12 : decode cX9_lastYear 12 = .ok (.sipush 2100, 3) := by decide +kernel
theorem dX9_lastYear_15 : decode cX9_lastYear 15 = .ok (.goto 12, 3) := by decide +kernel
theorem dX9_lastYear_18 : decode cX9_lastYear 18 = .ok (.aload_n 0, 1) := by decide +kernel
theorem dX9_lastYear_19 : decode cX9_lastYear 19 = .ok (.getfield 19, 3) := by decide +kernel
theorem dX9_lastYear_22 : decode cX9_lastYear 22 = .ok (.getfield 164, 3) := by decide +kernel
theorem dX9_lastYear_25 : decode cX9_lastYear 25 = .ok (.iload_n 1, 1) := by decide +kernel
theorem dX9_lastYear_26 : decode cX9_lastYear 26 = .ok (.iaload, 1) := by decide +kernel
theorem dX9_lastYear_27 : decode cX9_lastYear 27 = .ok (.ireturn, 1) := by decide +kernel
