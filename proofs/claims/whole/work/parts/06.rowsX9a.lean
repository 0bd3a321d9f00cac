set_option maxRecDepth 20000 in
theorem ggX9_init_X5_init : GoodIn wsX9_init wsX5_init := goodIn_r _ [46, 47, 2, 3, 48, 49, 50, 41, 51, 52, 53, 54, 55, 113, 114] (by decide +kernel) (by decide +kernel)
set_option maxRecDepth 20000 in
theorem gX9_init_X5_init : GoodIn wsX9_init (wsX5_init) := ggX9_init_X5_init
set_option maxRecDepth 20000 in
theorem ggX9_init_X8_init : GoodIn wsX9_init wsX8_init := goodIn_r _ [57, 58, 2, 3, 41, 59, 60, 49, 61, 62, 63, 64, 65, 66, 67, 68, 69, 129, 130, 131, 132, 133, 134, 135, 136, 137, 138] (by decide +kernel) (by decide +kernel)
set_option maxRecDepth 20000 in
theorem gX9_init_X8_init_n18 : GoodIn wsX9_init (wsX8_init) := ggX9_init_X8_init
set_option maxRecDepth 20000 in
theorem ggX9_init_X2_init : GoodIn wsX9_init wsX2_init := goodIn_r _ [71, 72, 2, 3, 73, 41, 74, 75, 76, 77, 139, 140, 141, 142, 143] (by decide +kernel) (by decide +kernel)
set_option maxRecDepth 20000 in
theorem gX9_init_X2_init_n29 : GoodIn wsX9_init (wsX2_init) := ggX9_init_X2_init
set_option maxRecDepth 20000 in
theorem ggX9_init_X6_init : GoodIn wsX9_init wsX6_init := goodIn_r _ [79, 80, 2, 3, 41, 81, 82, 83, 84, 85, 144, 145, 146, 147, 148, 149] (by decide +kernel) (by decide +kernel)
set_option maxRecDepth 20000 in
theorem gX9_init_X6_init_n32 : GoodIn wsX9_init (wsX6_init) := ggX9_init_X6_init
set_option maxRecDepth 20000 in
theorem ggX9_init_X1_init : GoodIn wsX9_init wsX1_init := goodIn_r _ [87, 88, 2, 3, 41, 89, 90, 91, 92, 150, 151, 152, 153, 154] (by decide +kernel) (by decide +kernel)
set_option maxRecDepth 20000 in
theorem gX9_init_X1_init_n39 : GoodIn wsX9_init (wsX1_init) := ggX9_init_X1_init
set_option maxRecDepth 20000 in
theorem ggX9_init_X0_init : GoodIn wsX9_init wsX0_init := goodIn_r _ [94, 95, 2, 3, 41, 96, 97, 155, 156, 157] (by decide +kernel) (by decide +kernel)
set_option maxRecDepth 20000 in
theorem gX9_init_X0_init_n46 : GoodIn wsX9_init (wsX0_init) := ggX9_init_X0_init
set_option maxRecDepth 20000 in
theorem ggX9_init_X7_init : GoodIn wsX9_init wsX7_init := goodIn_r _ [99, 100, 2, 3, 41, 101, 102, 158, 159, 160, 161] (by decide +kernel) (by decide +kernel)
set_option maxRecDepth 20000 in
theorem gX9_init_X7_init_n53 : GoodIn wsX9_init (wsX7_init) := ggX9_init_X7_init
set_option maxRecDepth 20000 in
theorem ggX9_init_X4_init : GoodIn wsX9_init wsX4_init := goodIn_r _ [104, 105, 2, 3, 41, 106, 107, 108, 109, 162, 163, 164, 165, 166] (by decide +kernel) (by decide +kernel)
set_option maxRecDepth 20000 in
theorem gX9_init_X4_init_n60 : GoodIn wsX9_init (wsX4_init) := ggX9_init_X4_init
set_option maxRecDepth 20000 in
theorem ggX9_init_X3_init : GoodIn wsX9_init wsX3_init := goodIn_r _ [111, 112, 2, 3] (by decide +kernel) (by decide +kernel)
set_option maxRecDepth 20000 in
theorem gX9_init_X3_init_n70 : GoodIn wsX9_init (wsX3_init) := ggX9_init_X3_init
theorem dX9_init_0 : decode cX9_init 0 = .ok (.aload_n 0, 1) := by decide +kernel
theorem dX9_init_1 : decode cX9_init 1 = .ok (.invokespecial 1, 3) := by decide +kernel
theorem dX9_init_4 : decode cX9_init 4 = .ok (.aload_n 0, 1) := by decide +kernel
theorem dX9_init_5 : decode cX9_init 5 = .ok (.new 7, 3) := by decide +kernel
theorem dX9_init_8 : decode cX9_init 8 = .ok (.dup, 1) := by decide +kernel
theorem dX9_init_9 : decode cX9_init 9 = .ok (.invokespecial 9, 3) := by decide +kernel
theorem dX9_init_12 : decode cX9_init 12 = .ok (.putfield 10, 3) := by decide +kernel
theorem dX9_init_15 : decode cX9_init 15 = .ok (.aload_n 0, 1) := by decide +kernel
theorem dX9_init_16 : decode cX9_init 16 = .ok (.new 16, 3) := by decide +kernel
theorem dX9_init_19 : decode cX9_init 19 = .ok (.dup, 1) := by decide +kernel
theorem dX9_init_20 : decode cX9_init 20 = .ok (.invokespecial 18, 3) := by decide +kernel
theorem dX9_init_23 : decode cX9_init 23 = .ok (.putfield 19, 3) := by decide +kernel
theorem dX9_init_26 : decode cX9_init 26 = .ok (.aload_n 0, 1) := by decide +kernel
theorem dX9_init_27 : decode cX9_init 27 = .ok (.iconst 4, 1) := by decide +kernel
theorem dX9_init_28 : decode cX9_init 28 = .ok (.anewarray 23, 3) := by decide +kernel
theorem dX9_init_31 : decode cX9_init 31 = .ok (.putfield 25, 3) := by decide +kernel
theorem dX9_init_34 : decode cX9_init 34 = .ok (.iconst 0, 1) := by decide +kernel
theorem dX9_init_35 : decode cX9_init 35 = .ok (.istore_n 1, 1) := by decide +kernel
theorem dX9_init_36 : decode cX9_init 36 = .ok (.iload_n 1, 1) := by decide +kernel
theorem dX9_init_37 : decode cX9_init 37 = .ok (.iconst 4, 1) := by decide +kernel
theorem dX9_init_38 : decode cX9_init 38 = .ok (.if_icmp .ge 22, 3) := by decide +kernel
theorem dX9_init_41 : decode cX9_init 41 = .ok (.aload_n 0, 1) := by decide +kernel
theorem dX9_init_42 : decode cX9_init 42 = .ok (.getfield 25, 3) := by decide +kernel
theorem dX9_init_45 : decode cX9_init 45 = .ok (.iload_n 1, 1) := by decide +kernel
theorem dX9_init_46 : decode cX9_init 46 = .ok (.new 23, 3) := by decide +kernel
theorem dX9_init_49 : decode cX9_init 49 = .ok (.dup, 1) := by decide +kernel
theorem dX9_init_50 : decode cX9_init 50 = .ok (.invokespecial 29, 3) := by decide +kernel
theorem dX9_init_53 : decode cX9_init 53 = .ok (.aastore, 1) := by decide +kernel
theorem dX9_init_54 : decode cX9_init 54 = .ok (.iinc 1 1, 3) := by decide +kernel
theorem dX9_init_57 : decode cX9_init 57 = .ok (.goto (-21), 3) := by decide +kernel
theorem dX9_init_60 : decode cX9_init 60 = .ok (.aload_n 0, 1) := by decide +kernel
theorem dX9_init_61 : decode cX9_init 61 = .ok (.new 30, 3) := by decide +kernel
theorem dX9_init_64 : decode cX9_init 64 = .ok (.dup, 1) := by decide +kernel
theorem dX9_init_65 : decode cX9_init 65 = .ok (.invokespecial 32, 3) := by decide +kernel
theorem dX9_init_68 : decode cX9_init 68 = .ok (.putfield 33, 3) := by decide +kernel
theorem dX9_init_71 : decode cX9_init 71 = .ok (.aload_n 0, 1) := by decide +kernel
theorem dX9_init_72 : decode cX9_init 72 = .ok (.new 37, 3) := by decide +kernel
theorem dX9_init_75 : decode cX9_init 75 = .ok (.dup, 1) := by decide +kernel
theorem dX9_init_76 : decode cX9_init 76 = .ok (.invokespecial 39, 3) := by decide +kernel
theorem dX9_init_79 : decode cX9_init 79 = .ok (.putfield 40, 3) := by decide +kernel
theorem dX9_init_82 : decode cX9_init 82 = .ok (.aload_n 0, 1) := by decide +kernel
theorem dX9_init_83 : decode cX9_init 83 = .ok (.new 44, 3) := by decide +kernel
theorem dX9_init_86 : decode cX9_init 86 = .ok (.dup, 1) := by decide +kernel
theorem dX9_init_87 : decode cX9_init 87 = .ok (.invokespecial 46, 3) := by decide +kernel
theorem dX9_init_90 : decode cX9_init 90 = .ok (.putfield 47, 3) := by decide +kernel
theorem dX9_init_93 : decode cX9_init 93 = .ok (.aload_n 0, 1) := by decide +kernel
theorem dX9_init_94 : decode cX9_init 94 = .ok (.new 51, 3) := by decide +kernel
theorem dX9_init_97 : decode cX9_init 97 = .ok (.dup, 1) := by decide +kernel
theorem dX9_init_98 : decode cX9_init 98 = .ok (.invokespecial 53, 3) := by decide +kernel
theorem dX9_init_101 : decode cX9_init 101 = .ok (.putfield 54, 3) := by decide +kernel
theorem dX9_init_104 : decode cX9_init 104 = .ok (.aload_n 0, 1) := by decide +kernel
theorem dX9_init_105 : decode cX9_init 105 = .ok (.new 58, 3) := by decide +kernel
theorem dX9_init_108 : decode cX9_init 108 = .ok (.dup, 1) := by decide +kernel
theorem dX9_init_109 : decode cX9_init 109 = .ok (.invokespecial 60, 3) := by decide +kernel
theorem dX9_init_112 : decode cX9_init 112 = .ok (.putfield 61, 3) := by decide +kernel
theorem dX9_init_115 : decode cX9_init 115 = .ok (.aload_n 0, 1) := by decide +kernel
theorem dX9_init_116 : decode cX9_init 116 = .ok (.new 58, 3) := by decide +kernel
theorem dX9_init_119 : decode cX9_init 119 = .ok (.dup, 1) := by decide +kernel
theorem dX9_init_120 : decode cX9_init 120 = .ok (.invokespecial 60, 3) := by decide +kernel
theorem dX9_init_123 : decode cX9_init 123 = .ok (.putfield 65, 3) := by decide +kernel
theorem dX9_init_126 : decode cX9_init 126 = .ok (.aload_n 0, 1) := by decide +kernel
theorem dX9_init_127 : decode cX9_init 127 = .ok (.new 68, 3) := by decide +kernel
theorem dX9_init_130 : decode cX9_init 130 = .ok (.dup, 1) := by decide +kernel
theorem dX9_init_131 : decode cX9_init 131 = .ok (.invokespecial 70, 3) := by decide +kernel
theorem dX9_init_134 : decode cX9_init 134 = .ok (.putfield 71, 3) := by decide +kernel
theorem dX9_init_137 : decode cX9_init 137 = .ok (.aload_n 0, 1) := by decide +kernel
theorem dX9_init_138 : decode cX9_init 138 = .ok (.bipush 10, 2) := by decide +kernel
theorem dX9_init_140 : decode cX9_init 140 = .ok (.newarray .int, 2) := by decide +kernel
theorem dX9_init_142 : decode cX9_init 142 = .ok (.putfield 75, 3) := by decide +kernel
theorem dX9_init_145 : decode cX9_init 145 = .ok (.aload_n 0, 1) := by decide +kernel
theorem dX9_init_146 : decode cX9_init 146 = .ok (.bipush 6, 2) := by decide +kernel
theorem dX9_init_148 : decode cX9_init 148 = .ok (.newarray .int, 2) := by decide +kernel
theorem dX9_init_150 : decode cX9_init 150 = .ok (.putfield 79, 3) := by decide +kernel
theorem dX9_init_153 : decode cX9_init 153 = .ok (.return_, 1) := by decide +kernel
set_option maxRecDepth 20000 in
theorem ggX9_letter_X8_isLetter : GoodIn wsX9_letter wsX8_isLetter := goodIn_r _ [5] (by decide +kernel) (by decide +kernel)
set_option maxRecDepth 20000 in
theorem gX9_letter_X8_isLetter : GoodIn wsX9_letter (va_wsS RX9 82 yX8_isLetter wsX8_isLetter) := goodIn_app (goodIn_of _ (by decide +kernel)) ggX9_letter_X8_isLetter
set_option maxRecDepth 20000 in
theorem ggX9_letter_X9_isCells : GoodIn wsX9_letter wsX9_isCells := goodIn_r _ [9] (by decide +kernel) (by decide +kernel)
set_option maxRecDepth 20000 in
theorem gX9_letter_X9_isCells : GoodIn wsX9_letter (va_wsS RX9 86 yX9_isCells wsX9_isCells) := goodIn_app (goodIn_of _ (by decide +kernel)) ggX9_letter_X9_isCells
set_option maxRecDepth 20000 in
theorem ggX9_letter_X8_changeStrokes : GoodIn wsX9_letter wsX8_changeStrokes := goodIn_r _ [13, 14, 29, 30, 31, 32, 33, 34, 35, 36, 37, 38] (by decide +kernel) (by decide +kernel)
set_option maxRecDepth 20000 in
theorem gX9_letter_X8_changeStrokes : GoodIn wsX9_letter (wsV RX9 89 RX8 yX8_changeStrokes wsX8_changeStrokes) := goodIn_app (goodIn_of _ (by decide +kernel)) ggX9_letter_X8_changeStrokes
theorem dX9_letter_0 : decode cX9_letter 0 = .ok (.iload_n 1, 1) := by decide +kernel
theorem dX9_letter_1 : decode cX9_letter 1 = .ok (.invokestatic 82, 3) := by decide +kernel
theorem dX9_letter_4 : decode cX9_letter 4 = .ok (.ifCond .eq 10, 3) := by decide +kernel
theorem dX9_letter_7 : decode cX9_letter 7 = .ok (.iload_n 2, 1) := by decide +kernel
theorem dX9_letter_8 : decode cX9_letter 8 = .ok (.invokestatic 86, 3) := by decide +kernel
theorem dX9_letter_11 : decode cX9_letter 11 = .ok (.ifCond .ne 5, 3) := by decide +kernel
theorem dX9_letter_14 : decode cX9_letter 14 = .ok (.iconst (-1), 1) := by decide +kernel
theorem dX9_letter_15 : decode cX9_letter 15 = .ok (.ireturn, 1) := by decide +kernel
theorem dX9_letter_16 : decode cX9_letter 16 = .ok (.aload_n 0, 1) := by decide +kernel
theorem dX9_letter_17 : decode cX9_letter 17 = .ok (.getfield 19, 3) := by decide +kernel
theorem dX9_letter_20 : decode cX9_letter 20 = .ok (.iload_n 1, 1) := by decide +kernel
theorem dX9_letter_21 : decode cX9_letter 21 = .ok (.iload_n 2, 1) := by decide +kernel
theorem dX9_letter_22 : decode cX9_letter 22 = .ok (.invokevirtual 89, 3) := by decide +kernel
theorem dX9_letter_25 : decode cX9_letter 25 = .ok (.ireturn, 1) := by decide +kernel
set_option maxRecDepth 20000 in
theorem ggX9_sheet_X5_isNumber : GoodIn wsX9_sheet wsX5_isNumber := goodIn_r _ [5] (by decide +kernel) (by decide +kernel)
set_option maxRecDepth 20000 in
theorem gX9_sheet_X5_isNumber : GoodIn wsX9_sheet (va_wsS RX9 93 yX5_isNumber wsX5_isNumber) := goodIn_app (goodIn_of _ (by decide +kernel)) ggX9_sheet_X5_isNumber
set_option maxRecDepth 20000 in
theorem ggX9_sheet_X9_refuse : GoodIn wsX9_sheet wsX9_refuse := goodIn_r _ [10, 11, 12, 23, 24, 25, 26, 27, 28, 29, 30, 31, 32, 33, 34, 35, 36] (by decide +kernel) (by decide +kernel)
set_option maxRecDepth 20000 in
theorem gX9_sheet_X9_refuse : GoodIn wsX9_sheet (wsV RX9 96 RX9 yX9_refuse wsX9_refuse) := goodIn_app (goodIn_of _ (by decide +kernel)) ggX9_sheet_X9_refuse
set_option maxRecDepth 20000 in
theorem ggX9_sheet_X5_bring : GoodIn wsX9_sheet wsX5_bring := goodIn_r _ [16, 17, 18, 19, 20, 21, 22, 37, 38] (by decide +kernel) (by decide +kernel)
set_option maxRecDepth 20000 in
theorem gX9_sheet_X5_bring : GoodIn wsX9_sheet (wsV RX9 100 RX5 yX5_bring wsX5_bring) := goodIn_app (goodIn_of _ (by decide +kernel)) ggX9_sheet_X5_bring
theorem dX9_sheet_0 : decode cX9_sheet 0 = .ok (.iload_n 1, 1) := by decide +kernel
theorem dX9_sheet_1 : decode cX9_sheet 1 = .ok (.invokestatic 93, 3) := by decide +kernel
theorem dX9_sheet_4 : decode cX9_sheet 4 = .ok (.ifCond .eq 9, 3) := by decide +kernel
theorem dX9_sheet_7 : decode cX9_sheet 7 = .ok (.iload_n 2, 1) := by decide +kernel
theorem dX9_sheet_8 : decode cX9_sheet 8 = .ok (.bipush 10, 2) := by decide +kernel
theorem dX9_sheet_10 : decode cX9_sheet 10 = .ok (.if_icmp .le 5, 3) := by decide +kernel
theorem dX9_sheet_13 : decode cX9_sheet 13 = .ok (.iconst (-1), 1) := by decide +kernel
theorem dX9_sheet_14 : decode cX9_sheet 14 = .ok (.ireturn, 1) := by decide +kernel
theorem dX9_sheet_15 : decode cX9_sheet 15 = .ok (.iload_n 2, 1) := by decide +kernel
theorem dX9_sheet_16 : decode cX9_sheet 16 = .ok (.ifCond .ge 9, 3) := by decide +kernel
theorem dX9_sheet_19 : decode cX9_sheet 19 = .ok (.aload_n 0, 1) := by decide +kernel
theorem dX9_sheet_20 : decode cX9_sheet 20 = .ok (.iconst 5, 1) := by decide +kernel
theorem dX9_sheet_21 : decode cX9_sheet 21 = .ok (.invokevirtual 96, 3) := by decide +kernel
theorem dX9_sheet_24 : decode cX9_sheet 24 = .ok (.ireturn, 1) := by decide +kernel
theorem dX9_sheet_25 : decode cX9_sheet 25 = .ok (.aload_n 0, 1) := by decide +kernel
theorem dX9_sheet_26 : decode cX9_sheet 26 = .ok (.getfield 10, 3) := by decide +kernel
theorem dX9_sheet_29 : decode cX9_sheet 29 = .ok (.iload_n 1, 1) := by decide +kernel
theorem dX9_sheet_30 : decode cX9_sheet 30 = .ok (.iload_n 2, 1) := by decide +kernel
theorem dX9_sheet_31 : decode cX9_sheet 31 = .ok (.invokevirtual 100, 3) := by decide +kernel
theorem dX9_sheet_34 : decode cX9_sheet 34 = .ok (.iload_n 2, 1) := by decide +kernel
theorem dX9_sheet_35 : decode cX9_sheet 35 = .ok (.ireturn, 1) := by decide +kernel
set_option maxRecDepth 20000 in
theorem ggX9_lay_X5_isNumber : GoodIn wsX9_lay wsX5_isNumber := goodIn_r _ [5] (by decide +kernel) (by decide +kernel)
set_option maxRecDepth 20000 in
theorem gX9_lay_X5_isNumber : GoodIn wsX9_lay (va_wsS RX9 93 yX5_isNumber wsX5_isNumber) := goodIn_app (goodIn_of _ (by decide +kernel)) ggX9_lay_X5_isNumber
set_option maxRecDepth 20000 in
theorem ggX9_lay_X5_isThere : GoodIn wsX9_lay wsX5_isThere := goodIn_r _ [9, 10, 41, 42] (by decide +kernel) (by decide +kernel)
set_option maxRecDepth 20000 in
theorem gX9_lay_X5_isThere : GoodIn wsX9_lay (wsV RX9 104 RX5 yX5_isThere wsX5_isThere) := goodIn_app (goodIn_of _ (by decide +kernel)) ggX9_lay_X5_isThere
set_option maxRecDepth 20000 in
theorem ggX9_lay_X9_refuse : GoodIn wsX9_lay wsX9_refuse := goodIn_r _ [15, 16, 17, 27, 28, 29, 30, 31, 32, 33, 34, 35, 36, 37, 38, 39, 40] (by decide +kernel) (by decide +kernel)
set_option maxRecDepth 20000 in
theorem gX9_lay_X9_refuse : GoodIn wsX9_lay (wsV RX9 96 RX9 yX9_refuse wsX9_refuse) := goodIn_app (goodIn_of _ (by decide +kernel)) ggX9_lay_X9_refuse
set_option maxRecDepth 20000 in
theorem ggX9_lay_X5_hasRun : GoodIn wsX9_lay wsX5_hasRun := goodIn_r _ [21, 10, 41, 42] (by decide +kernel) (by decide +kernel)
set_option maxRecDepth 20000 in
theorem gX9_lay_X5_hasRun : GoodIn wsX9_lay (wsV RX9 107 RX5 yX5_hasRun wsX5_hasRun) := goodIn_app (goodIn_of _ (by decide +kernel)) ggX9_lay_X5_hasRun
set_option maxRecDepth 20000 in
theorem ggX9_lay_X5_changeByte : GoodIn wsX9_lay wsX5_changeByte := goodIn_r _ [25, 26, 41, 42] (by decide +kernel) (by decide +kernel)
set_option maxRecDepth 20000 in
theorem gX9_lay_X5_changeByte : GoodIn wsX9_lay (wsV RX9 111 RX5 yX5_changeByte wsX5_changeByte) := goodIn_app (goodIn_of _ (by decide +kernel)) ggX9_lay_X5_changeByte
theorem dX9_lay_0 : decode cX9_lay 0 = .ok (.iload_n 1, 1) := by decide +kernel
theorem dX9_lay_1 : decode cX9_lay 1 = .ok (.invokestatic 93, 3) := by decide +kernel
theorem dX9_lay_4 : decode cX9_lay 4 = .ok (.ifCond .ne 5, 3) := by decide +kernel
theorem dX9_lay_7 : decode cX9_lay 7 = .ok (.iconst (-1), 1) := by decide +kernel
theorem dX9_lay_8 : decode cX9_lay 8 = .ok (.ireturn, 1) := by decide +kernel
theorem dX9_lay_9 : decode cX9_lay 9 = .ok (.aload_n 0, 1) := by decide +kernel
theorem dX9_lay_10 : decode cX9_lay 10 = .ok (.getfield 10, 3) := by decide +kernel
theorem dX9_lay_13 : decode cX9_lay 13 = .ok (.iload_n 1, 1) := by decide +kernel
theorem dX9_lay_14 : decode cX9_lay 14 = .ok (.invokevirtual 104, 3) := by decide +kernel
theorem dX9_lay_17 : decode cX9_lay 17 = .ok (.ifCond .ne 9, 3) := by decide +kernel
theorem dX9_lay_20 : decode cX9_lay 20 = .ok (.aload_n 0, 1) := by decide +kernel
theorem dX9_lay_21 : decode cX9_lay 21 = .ok (.iconst 1, 1) := by decide +kernel
theorem dX9_lay_22 : decode cX9_lay 22 = .ok (.invokevirtual 96, 3) := by decide +kernel
theorem dX9_lay_25 : decode cX9_lay 25 = .ok (.ireturn, 1) := by decide +kernel
theorem dX9_lay_26 : decode cX9_lay 26 = .ok (.aload_n 0, 1) := by decide +kernel
theorem dX9_lay_27 : decode cX9_lay 27 = .ok (.getfield 10, 3) := by decide +kernel
theorem dX9_lay_30 : decode cX9_lay 30 = .ok (.iload_n 1, 1) := by decide +kernel
theorem dX9_lay_31 : decode cX9_lay 31 = .ok (.iload_n 2, 1) := by decide +kernel
theorem dX9_lay_32 : decode cX9_lay 32 = .ok (.iconst 1, 1) := by decide +kernel
theorem dX9_lay_33 : decode cX9_lay 33 = .ok (.invokevirtual 107, 3) := by decide +kernel
theorem dX9_lay_36 : decode cX9_lay 36 = .ok (.ifCond .ne 9, 3) := by decide +kernel
theorem dX9_lay_39 : decode cX9_lay 39 = .ok (.aload_n 0, 1) := by decide +kernel
theorem dX9_lay_40 : decode cX9_lay 40 = .ok (.iconst 2, 1) := by decide +kernel
theorem dX9_lay_41 : decode cX9_lay 41 = .ok (.invokevirtual 96, 3) := by decide +kernel
theorem dX9_lay_44 : decode cX9_lay 44 = .ok (.ireturn, 1) := by decide +kernel
theorem dX9_lay_45 : decode cX9_lay 45 = .ok (.aload_n 0, 1) := by decide +kernel
theorem dX9_lay_46 : decode cX9_lay 46 = .ok (.getfield 10, 3) := by decide +kernel
theorem dX9_lay_49 : decode cX9_lay 49 = .ok (.iload_n 1, 1) := by decide +kernel
theorem dX9_lay_50 : decode cX9_lay 50 = .ok (.iload_n 2, 1) := by decide +kernel
theorem dX9_lay_51 : decode cX9_lay 51 = .ok (.iload_n 3, 1) := by decide +kernel
theorem dX9_lay_52 : decode cX9_lay 52 = .ok (.invokevirtual 111, 3) := by decide +kernel
theorem dX9_lay_55 : decode cX9_lay 55 = .ok (.sipush 1000, 3) := by decide +kernel
theorem dX9_lay_58 : decode cX9_lay 58 = .ok (.iadd, 1) := by decide +kernel
theorem dX9_lay_59 : decode cX9_lay 59 = .ok (.ireturn, 1) := by decide +kernel
set_option maxRecDepth 20000 in
theorem ggX9_tear_X5_isNumber : GoodIn wsX9_tear wsX5_isNumber := goodIn_r _ [5] (by decide +kernel) (by decide +kernel)
set_option maxRecDepth 20000 in
theorem gX9_tear_X5_isNumber : GoodIn wsX9_tear (va_wsS RX9 93 yX5_isNumber wsX5_isNumber) := goodIn_app (goodIn_of _ (by decide +kernel)) ggX9_tear_X5_isNumber
set_option maxRecDepth 20000 in
theorem ggX9_tear_X5_isThere : GoodIn wsX9_tear wsX5_isThere := goodIn_r _ [9, 10, 36, 37] (by decide +kernel) (by decide +kernel)
set_option maxRecDepth 20000 in
theorem gX9_tear_X5_isThere : GoodIn wsX9_tear (wsV RX9 104 RX5 yX5_isThere wsX5_isThere) := goodIn_app (goodIn_of _ (by decide +kernel)) ggX9_tear_X5_isThere
set_option maxRecDepth 20000 in
theorem ggX9_tear_X9_refuse : GoodIn wsX9_tear wsX9_refuse := goodIn_r _ [15, 16, 17, 22, 23, 24, 25, 26, 27, 28, 29, 30, 31, 32, 33, 34, 35] (by decide +kernel) (by decide +kernel)
set_option maxRecDepth 20000 in
theorem gX9_tear_X9_refuse : GoodIn wsX9_tear (wsV RX9 96 RX9 yX9_refuse wsX9_refuse) := goodIn_app (goodIn_of _ (by decide +kernel)) ggX9_tear_X9_refuse
set_option maxRecDepth 20000 in
theorem ggX9_tear_X5_remove : GoodIn wsX9_tear wsX5_remove := goodIn_r _ [21, 10, 36, 37] (by decide +kernel) (by decide +kernel)
set_option maxRecDepth 20000 in
theorem gX9_tear_X5_remove : GoodIn wsX9_tear (wsV RX9 115 RX5 yX5_remove wsX5_remove) := goodIn_app (goodIn_of _ (by decide +kernel)) ggX9_tear_X5_remove
theorem dX9_tear_0 : decode cX9_tear 0 = .ok (.iload_n 1, 1) := by decide +kernel
theorem dX9_tear_1 : decode cX9_tear 1 = .ok (.invokestatic 93, 3) := by decide +kernel
theorem dX9_tear_4 : decode cX9_tear 4 = .ok (.ifCond .ne 5, 3) := by decide +kernel
theorem dX9_tear_7 : decode cX9_tear 7 = .ok (.iconst (-1), 1) := by decide +kernel
theorem dX9_tear_8 : decode cX9_tear 8 = .ok (.ireturn, 1) := by decide +kernel
theorem dX9_tear_9 : decode cX9_tear 9 = .ok (.aload_n 0, 1) := by decide +kernel
theorem dX9_tear_10 : decode cX9_tear 10 = .ok (.getfield 10, 3) := by decide +kernel
theorem dX9_tear_13 : decode cX9_tear 13 = .ok (.iload_n 1, 1) := by decide +kernel
theorem dX9_tear_14 : decode cX9_tear 14 = .ok (.invokevirtual 104, 3) := by decide +kernel
theorem dX9_tear_17 : decode cX9_tear 17 = .ok (.ifCond .ne 9, 3) := by decide +kernel
theorem dX9_tear_20 : decode cX9_tear 20 = .ok (.aload_n 0, 1) := by decide +kernel
theorem dX9_tear_21 : decode cX9_tear 21 = .ok (.iconst 1, 1) := by decide +kernel
theorem dX9_tear_22 : decode cX9_tear 22 = .ok (.invokevirtual 96, 3) := by decide +kernel
theorem dX9_tear_25 : decode cX9_tear 25 = .ok (.ireturn, 1) := by decide +kernel
theorem dX9_tear_26 : decode cX9_tear 26 = .ok (.aload_n 0, 1) := by decide +kernel
theorem dX9_tear_27 : decode cX9_tear 27 = .ok (.getfield 10, 3) := by decide +kernel
theorem dX9_tear_30 : decode cX9_tear 30 = .ok (.iload_n 1, 1) := by decide +kernel
theorem dX9_tear_31 : decode cX9_tear 31 = .ok (.invokevirtual 115, 3) := by decide +kernel
theorem dX9_tear_34 : decode cX9_tear 34 = .ok (.iconst 1, 1) := by decide +kernel
theorem dX9_tear_35 : decode cX9_tear 35 = .ok (.ireturn, 1) := by decide +kernel
set_option maxRecDepth 20000 in
theorem ggX9_copy_X5_isNumber : GoodIn wsX9_copy wsX5_isNumber := goodIn_r _ [5] (by decide +kernel) (by decide +kernel)
set_option maxRecDepth 20000 in
theorem gX9_copy_X5_isNumber : GoodIn wsX9_copy (va_wsS RX9 93 yX5_isNumber wsX5_isNumber) := goodIn_app (goodIn_of _ (by decide +kernel)) ggX9_copy_X5_isNumber
set_option maxRecDepth 20000 in
theorem ggX9_copy_X9_refuse : GoodIn wsX9_copy wsX9_refuse := goodIn_r _ [10, 11, 12, 31, 32, 33, 34, 35, 36, 37, 38, 39, 40, 41, 42, 43, 44] (by decide +kernel) (by decide +kernel)
set_option maxRecDepth 20000 in
theorem gX9_copy_X9_refuse : GoodIn wsX9_copy (wsV RX9 96 RX9 yX9_refuse wsX9_refuse) := goodIn_app (goodIn_of _ (by decide +kernel)) ggX9_copy_X9_refuse
set_option maxRecDepth 20000 in
theorem ggX9_copy_X5_isThere : GoodIn wsX9_copy wsX5_isThere := goodIn_r _ [16, 17, 45, 46] (by decide +kernel) (by decide +kernel)
set_option maxRecDepth 20000 in
theorem gX9_copy_X5_isThere : GoodIn wsX9_copy (wsV RX9 104 RX5 yX5_isThere wsX5_isThere) := goodIn_app (goodIn_of _ (by decide +kernel)) ggX9_copy_X5_isThere
set_option maxRecDepth 20000 in
theorem ggX9_copy_X5_hasRun : GoodIn wsX9_copy wsX5_hasRun := goodIn_r _ [21, 17, 45, 46] (by decide +kernel) (by decide +kernel)
set_option maxRecDepth 20000 in
theorem gX9_copy_X5_hasRun : GoodIn wsX9_copy (wsV RX9 107 RX5 yX5_hasRun wsX5_hasRun) := goodIn_app (goodIn_of _ (by decide +kernel)) ggX9_copy_X5_hasRun
set_option maxRecDepth 20000 in
theorem ggX9_copy_X5_carry : GoodIn wsX9_copy wsX5_carry := goodIn_r _ [25, 26, 27, 28, 29, 30, 45, 46] (by decide +kernel) (by decide +kernel)
set_option maxRecDepth 20000 in
theorem gX9_copy_X5_carry : GoodIn wsX9_copy (wsV RX9 119 RX5 yX5_carry wsX5_carry) := goodIn_app (goodIn_of _ (by decide +kernel)) ggX9_copy_X5_carry
theorem dX9_copy_0 : decode cX9_copy 0 = .ok (.iload_n 1, 1) := by decide +kernel
theorem dX9_copy_1 : decode cX9_copy 1 = .ok (.invokestatic 93, 3) := by decide +kernel
theorem dX9_copy_4 : decode cX9_copy 4 = .ok (.ifCond .eq 10, 3) := by decide +kernel
theorem dX9_copy_7 : decode cX9_copy 7 = .ok (.iload_n 3, 1) := by decide +kernel
theorem dX9_copy_8 : decode cX9_copy 8 = .ok (.invokestatic 93, 3) := by decide +kernel
theorem dX9_copy_11 : decode cX9_copy 11 = .ok (.ifCond .ne 5, 3) := by decide +kernel
theorem dX9_copy_14 : decode cX9_copy 14 = .ok (.iconst (-1), 1) := by decide +kernel
theorem dX9_copy_15 : decode cX9_copy 15 = .ok (.ireturn, 1) := by decide +kernel
theorem dX9_copy_16 : decode cX9_copy 16 = .ok (.iload 5, 2) := by decide +kernel
theorem dX9_copy_18 : decode cX9_copy 18 = .ok (.ifCond .ge 9, 3) := by decide +kernel
theorem dX9_copy_21 : decode cX9_copy 21 = .ok (.aload_n 0, 1) := by decide +kernel
theorem dX9_copy_22 : decode cX9_copy 22 = .ok (.iconst 5, 1) := by decide +kernel
theorem dX9_copy_23 : decode cX9_copy 23 = .ok (.invokevirtual 96, 3) := by decide +kernel
theorem dX9_copy_26 : decode cX9_copy 26 = .ok (.ireturn, 1) := by decide +kernel
theorem dX9_copy_27 : decode cX9_copy 27 = .ok (.aload_n 0, 1) := by decide +kernel
theorem dX9_copy_28 : decode cX9_copy 28 = .ok (.getfield 10, 3) := by decide +kernel
theorem dX9_copy_31 : decode cX9_copy 31 = .ok (.iload_n 1, 1) := by decide +kernel
theorem dX9_copy_32 : decode cX9_copy 32 = .ok (.invokevirtual 104, 3) := by decide +kernel
theorem dX9_copy_35 : decode cX9_copy 35 = .ok (.ifCond .eq 14, 3) := by decide +kernel
theorem dX9_copy_38 : decode cX9_copy 38 = .ok (.aload_n 0, 1) := by decide +kernel
theorem dX9_copy_39 : decode cX9_copy 39 = .ok (.getfield 10, 3) := by decide +kernel
theorem dX9_copy_42 : decode cX9_copy 42 = .ok (.iload_n 3, 1) := by decide +kernel
theorem dX9_copy_43 : decode cX9_copy 43 = .ok (.invokevirtual 104, 3) := by decide +kernel
theorem dX9_copy_46 : decode cX9_copy 46 = .ok (.ifCond .ne 9, 3) := by decide +kernel
theorem dX9_copy_49 : decode cX9_copy 49 = .ok (.aload_n 0, 1) := by decide +kernel
theorem dX9_copy_50 : decode cX9_copy 50 = .ok (.iconst 1, 1) := by decide +kernel
theorem dX9_copy_51 : decode cX9_copy 51 = .ok (.invokevirtual 96, 3) := by decide +kernel
theorem dX9_copy_54 : decode cX9_copy 54 = .ok (.ireturn, 1) := by decide +kernel
theorem dX9_copy_55 : decode cX9_copy 55 = .ok (.aload_n 0, 1) := by decide +kernel
theorem dX9_copy_56 : decode cX9_copy 56 = .ok (.getfield 10, 3) := by decide +kernel
theorem dX9_copy_59 : decode cX9_copy 59 = .ok (.iload_n 1, 1) := by decide +kernel
theorem dX9_copy_60 : decode cX9_copy 60 = .ok (.iload_n 2, 1) := by decide +kernel
theorem dX9_copy_61 : decode cX9_copy 61 = .ok (.iload 5, 2) := by decide +kernel
theorem dX9_copy_63 : decode cX9_copy 63 = .ok (.invokevirtual 107, 3) := by decide +kernel
theorem dX9_copy_66 : decode cX9_copy 66 = .ok (.ifCond .eq 18, 3) := by decide +kernel
theorem dX9_copy_69 : decode cX9_copy 69 = .ok (.aload_n 0, 1) := by decide +kernel
theorem dX9_copy_70 : decode cX9_copy 70 = .ok (.getfield 10, 3) := by decide +kernel
theorem dX9_copy_73 : decode cX9_copy 73 = .ok (.iload_n 3, 1) := by decide +kernel
theorem dX9_copy_74 : decode cX9_copy 74 = .ok (.iload 4, 2) := by decide +kernel
theorem dX9_copy_76 : decode cX9_copy 76 = .ok (.iload 5, 2) := by decide +kernel
theorem dX9_copy_78 : decode cX9_copy 78 = .ok (.invokevirtual 107, 3) := by decide +kernel
theorem dX9_copy_81 : decode cX9_copy 81 = .ok (.ifCond .ne 9, 3) := by decide +kernel
theorem dX9_copy_84 : decode cX9_copy 84 = .ok (.aload_n 0, 1) := by decide +kernel
theorem dX9_copy_85 : decode cX9_copy 85 = .ok (.iconst 2, 1) := by decide +kernel
theorem dX9_copy_86 : decode cX9_copy 86 = .ok (.invokevirtual 96, 3) := by decide +kernel
theorem dX9_copy_89 : decode cX9_copy 89 = .ok (.ireturn, 1) := by decide +kernel
theorem dX9_copy_90 : decode cX9_copy 90 = .ok (.aload_n 0, 1) := by decide +kernel
theorem dX9_copy_91 : decode cX9_copy 91 = .ok (.getfield 10, 3) := by decide +kernel
theorem dX9_copy_94 : decode cX9_copy 94 = .ok (.iload_n 1, 1) := by decide +kernel
theorem dX9_copy_95 : decode cX9_copy 95 = .ok (.iload_n 2, 1) := by decide +kernel
theorem dX9_copy_96 : decode cX9_copy 96 = .ok (.iload_n 3, 1) := by decide +kernel
theorem dX9_copy_97 : decode cX9_copy 97 = .ok (.iload 4, 2) := by decide +kernel
theorem dX9_copy_99 : decode cX9_copy 99 = .ok (.iload 5, 2) := by decide +kernel
theorem dX9_copy_101 : decode cX9_copy 101 = .ok (.invokevirtual 119, 3) := by decide +kernel
theorem dX9_copy_104 : decode cX9_copy 104 = .ok (.iconst 1, 1) := by decide +kernel
theorem dX9_copy_105 : decode cX9_copy 105 = .ok (.ireturn, 1) := by decide +kernel
set_option maxRecDepth 20000 in
theorem ggX9_word_X5_isNumber : GoodIn wsX9_word wsX5_isNumber := goodIn_r _ [8] (by decide +kernel) (by decide +kernel)
set_option maxRecDepth 20000 in
theorem gX9_word_X5_isNumber : GoodIn wsX9_word (va_wsS RX9 93 yX5_isNumber wsX5_isNumber) := goodIn_app (goodIn_of _ (by decide +kernel)) ggX9_word_X5_isNumber
set_option maxRecDepth 20000 in
theorem ggX9_word_X8_isFull : GoodIn wsX9_word wsX8_isFull := goodIn_r _ [13, 14, 68, 69, 70, 71, 72, 73, 74, 75, 76, 77] (by decide +kernel) (by decide +kernel)
set_option maxRecDepth 20000 in
theorem gX9_word_X8_isFull : GoodIn wsX9_word (wsV RX9 123 RX8 yX8_isFull wsX8_isFull) := goodIn_app (goodIn_of _ (by decide +kernel)) ggX9_word_X8_isFull
set_option maxRecDepth 20000 in
theorem ggX9_word_X5_isThere : GoodIn wsX9_word wsX5_isThere := goodIn_r _ [18, 19, 66, 67] (by decide +kernel) (by decide +kernel)
set_option maxRecDepth 20000 in
theorem gX9_word_X5_isThere : GoodIn wsX9_word (wsV RX9 104 RX5 yX5_isThere wsX5_isThere) := goodIn_app (goodIn_of _ (by decide +kernel)) ggX9_word_X5_isThere
set_option maxRecDepth 20000 in
theorem ggX9_word_X9_refuse : GoodIn wsX9_word wsX9_refuse := goodIn_r _ [24, 25, 26, 52, 53, 54, 55, 56, 57, 58, 59, 60, 61, 62, 63, 64, 65] (by decide +kernel) (by decide +kernel)
set_option maxRecDepth 20000 in
theorem gX9_word_X9_refuse : GoodIn wsX9_word (wsV RX9 96 RX9 yX9_refuse wsX9_refuse) := goodIn_app (goodIn_of _ (by decide +kernel)) ggX9_word_X9_refuse
set_option maxRecDepth 20000 in
theorem ggX9_word_X9_makesWord : GoodIn wsX9_word wsX9_makesWord := goodIn_r _ [30, 2, 3, 4, 31, 32, 12, 33, 34, 35, 36, 52, 53, 54, 55, 56, 57, 58, 59, 60, 61, 62, 63, 64, 65, 66, 67] (by decide +kernel) (by decide +kernel)
set_option maxRecDepth 20000 in
theorem gX9_word_X9_makesWord : GoodIn wsX9_word (wsV RX9 127 RX9 yX9_makesWord wsX9_makesWord) := goodIn_app (goodIn_of _ (by decide +kernel)) ggX9_word_X9_makesWord
set_option maxRecDepth 20000 in
theorem ggX9_word_X8_add : GoodIn wsX9_word wsX8_add := goodIn_r _ [40, 14, 41, 42, 43, 44, 34, 35, 12, 36, 45, 46, 47, 48, 49, 50, 51, 68, 69, 70, 71, 72, 73, 74, 75, 76, 77] (by decide +kernel) (by decide +kernel)
set_option maxRecDepth 20000 in
theorem gX9_word_X8_add : GoodIn wsX9_word (wsV RX9 137 RX8 yX8_add wsX8_add) := goodIn_app (goodIn_of _ (by decide +kernel)) ggX9_word_X8_add
theorem dX9_word_0 : decode cX9_word 0 = .ok (.iload_n 1, 1) := by decide +kernel
theorem dX9_word_1 : decode cX9_word 1 = .ok (.invokestatic 93, 3) := by decide +kernel
theorem dX9_word_4 : decode cX9_word 4 = .ok (.ifCond .ne 5, 3) := by decide +kernel
theorem dX9_word_7 : decode cX9_word 7 = .ok (.iconst (-1), 1) := by decide +kernel
theorem dX9_word_8 : decode cX9_word 8 = .ok (.ireturn, 1) := by decide +kernel
theorem dX9_word_9 : decode cX9_word 9 = .ok (.aload_n 0, 1) := by decide +kernel
theorem dX9_word_10 : decode cX9_word 10 = .ok (.getfield 19, 3) := by decide +kernel
theorem dX9_word_13 : decode cX9_word 13 = .ok (.invokevirtual 123, 3) := by decide +kernel
theorem dX9_word_16 : decode cX9_word 16 = .ok (.ifCond .eq 6, 3) := by decide +kernel
theorem dX9_word_19 : decode cX9_word 19 = .ok (.bipush (-2), 2) := by decide +kernel
theorem dX9_word_21 : decode cX9_word 21 = .ok (.ireturn, 1) := by decide +kernel
theorem dX9_word_22 : decode cX9_word 22 = .ok (.aload_n 0, 1) := by decide +kernel
theorem dX9_word_23 : decode cX9_word 23 = .ok (.getfield 10, 3) := by decide +kernel
theorem dX9_word_26 : decode cX9_word 26 = .ok (.iload_n 1, 1) := by decide +kernel
theorem dX9_word_27 : decode cX9_word 27 = .ok (.invokevirtual 104, 3) := by decide +kernel
theorem dX9_word_30 : decode cX9_word 30 = .ok (.ifCond .ne 9, 3) := by decide +kernel
theorem dX9_word_33 : decode cX9_word 33 = .ok (.aload_n 0, 1) := by decide +kernel
theorem dX9_word_34 : decode cX9_word 34 = .ok (.iconst 1, 1) := by decide +kernel
theorem dX9_word_35 : decode cX9_word 35 = .ok (.invokevirtual 96, 3) := by decide +kernel
theorem dX9_word_38 : decode cX9_word 38 = .ok (.ireturn, 1) := by decide +kernel
theorem dX9_word_39 : decode cX9_word 39 = .ok (.aload_n 0, 1) := by decide +kernel
theorem dX9_word_40 : decode cX9_word 40 = .ok (.iload_n 1, 1) := by decide +kernel
theorem dX9_word_41 : decode cX9_word 41 = .ok (.invokevirtual 127, 3) := by decide +kernel
theorem dX9_word_44 : decode cX9_word 44 = .ok (.ifCond .ne 9, 3) := by decide +kernel
theorem dX9_word_47 : decode cX9_word 47 = .ok (.aload_n 0, 1) := by decide +kernel
theorem dX9_word_48 : decode cX9_word 48 = .ok (.iconst 5, 1) := by decide +kernel
theorem dX9_word_49 : decode cX9_word 49 = .ok (.invokevirtual 96, 3) := by decide +kernel
theorem dX9_word_52 : decode cX9_word 52 = .ok (.ireturn, 1) := by decide +kernel
theorem dX9_word_53 : decode cX9_word 53 = .ok (.aload_n 0, 1) := by decide +kernel
theorem dX9_word_54 : decode cX9_word 54 = .ok (.getfield 19, 3) := by decide +kernel
theorem dX9_word_57 : decode cX9_word 57 = .ok (.aload_n 0, 1) := by decide +kernel
theorem dX9_word_58 : decode cX9_word 58 = .ok (.getfield 10, 3) := by decide +kernel
theorem dX9_word_61 : decode cX9_word 61 = .ok (.getfield 130, 3) := by decide +kernel
theorem dX9_word_64 : decode cX9_word 64 = .ok (.iload_n 1, 1) := by decide +kernel
theorem dX9_word_65 : decode cX9_word 65 = .ok (.aaload, 1) := by decide +kernel
theorem dX9_word_66 : decode cX9_word 66 = .ok (.aload_n 0, 1) := by decide +kernel
theorem dX9_word_67 : decode cX9_word 67 = .ok (.getfield 10, 3) := by decide +kernel
theorem dX9_word_70 : decode cX9_word 70 = .ok (.getfield 134, 3) := by decide +kernel
theorem dX9_word_73 : decode cX9_word 73 = .ok (.iload_n 1, 1) := by decide +kernel
theorem dX9_word_74 : decode cX9_word 74 = .ok (.iaload, 1) := by decide +kernel
theorem dX9_word_75 : decode cX9_word 75 = .ok (.iconst 0, 1) := by decide +kernel
theorem dX9_word_76 : decode cX9_word 76 = .ok (.bipush (-9), 2) := by decide +kernel
theorem dX9_word_78 : decode cX9_word 78 = .ok (.invokevirtual 137, 3) := by decide +kernel
theorem dX9_word_81 : decode cX9_word 81 = .ok (.ireturn, 1) := by decide +kernel
set_option maxRecDepth 20000 in
theorem ggX9_firm_X5_isNumber : GoodIn wsX9_firm wsX5_isNumber := goodIn_r _ [9] (by decide +kernel) (by decide +kernel)
set_option maxRecDepth 20000 in
theorem gX9_firm_X5_isNumber : GoodIn wsX9_firm (va_wsS RX9 93 yX5_isNumber wsX5_isNumber) := goodIn_app (goodIn_of _ (by decide +kernel)) ggX9_firm_X5_isNumber
set_option maxRecDepth 20000 in
theorem ggX9_firm_X6_isNumber : GoodIn wsX9_firm wsX6_isNumber := goodIn_r _ [13] (by decide +kernel) (by decide +kernel)
set_option maxRecDepth 20000 in
theorem gX9_firm_X6_isNumber : GoodIn wsX9_firm (va_wsS RX9 141 yX6_isNumber wsX6_isNumber) := goodIn_app (goodIn_of _ (by decide +kernel)) ggX9_firm_X6_isNumber
set_option maxRecDepth 20000 in
theorem ggX9_firm_X8_isNumber : GoodIn wsX9_firm wsX8_isNumber := goodIn_r _ [18, 19, 83, 84, 85, 86, 87, 88, 89, 90, 91, 92] (by decide +kernel) (by decide +kernel)
set_option maxRecDepth 20000 in
theorem gX9_firm_X8_isNumber : GoodIn wsX9_firm (wsV RX9 142 RX8 yX8_isNumber wsX8_isNumber) := goodIn_app (goodIn_of _ (by decide +kernel)) ggX9_firm_X8_isNumber
set_option maxRecDepth 20000 in
theorem ggX9_firm_X6_isYear : GoodIn wsX9_firm wsX6_isYear := goodIn_r _ [22] (by decide +kernel) (by decide +kernel)
set_option maxRecDepth 20000 in
theorem gX9_firm_X6_isYear : GoodIn wsX9_firm (va_wsS RX9 143 yX6_isYear wsX6_isYear) := goodIn_app (goodIn_of _ (by decide +kernel)) ggX9_firm_X6_isYear
set_option maxRecDepth 20000 in
theorem ggX9_firm_X8_isFull : GoodIn wsX9_firm wsX8_isFull := goodIn_r _ [26, 19, 83, 84, 85, 86, 87, 88, 89, 90, 91, 92] (by decide +kernel) (by decide +kernel)
set_option maxRecDepth 20000 in
theorem gX9_firm_X8_isFull : GoodIn wsX9_firm (wsV RX9 123 RX8 yX8_isFull wsX8_isFull) := goodIn_app (goodIn_of _ (by decide +kernel)) ggX9_firm_X8_isFull
set_option maxRecDepth 20000 in
theorem ggX9_firm_X5_isThere : GoodIn wsX9_firm wsX5_isThere := goodIn_r _ [30, 31, 93, 94] (by decide +kernel) (by decide +kernel)
set_option maxRecDepth 20000 in
theorem gX9_firm_X5_isThere : GoodIn wsX9_firm (wsV RX9 104 RX5 yX5_isThere wsX5_isThere) := goodIn_app (goodIn_of _ (by decide +kernel)) ggX9_firm_X5_isThere
set_option maxRecDepth 20000 in
theorem ggX9_firm_X9_refuse : GoodIn wsX9_firm wsX9_refuse := goodIn_r _ [36, 37, 38, 69, 70, 71, 72, 73, 74, 75, 76, 77, 78, 79, 80, 81, 82] (by decide +kernel) (by decide +kernel)
set_option maxRecDepth 20000 in
theorem gX9_firm_X9_refuse : GoodIn wsX9_firm (wsV RX9 96 RX9 yX9_refuse wsX9_refuse) := goodIn_app (goodIn_of _ (by decide +kernel)) ggX9_firm_X9_refuse
set_option maxRecDepth 20000 in
theorem ggX9_firm_X8_isOf : GoodIn wsX9_firm wsX8_isOf := goodIn_r _ [42, 43, 83, 84, 85, 86, 87, 88, 89, 90, 91, 92] (by decide +kernel) (by decide +kernel)
set_option maxRecDepth 20000 in
theorem gX9_firm_X8_isOf : GoodIn wsX9_firm (wsV RX9 150 RX8 yX8_isOf wsX8_isOf) := goodIn_app (goodIn_of _ (by decide +kernel)) ggX9_firm_X8_isOf
set_option maxRecDepth 20000 in
theorem ggX9_firm_X9_makesWord : GoodIn wsX9_firm wsX9_makesWord := goodIn_r _ [47, 2, 4, 5, 48, 49, 17, 50, 51, 52, 53, 69, 70, 71, 72, 73, 74, 75, 76, 77, 78, 79, 80, 81, 82, 93, 94] (by decide +kernel) (by decide +kernel)
set_option maxRecDepth 20000 in
theorem gX9_firm_X9_makesWord : GoodIn wsX9_firm (wsV RX9 127 RX9 yX9_makesWord wsX9_makesWord) := goodIn_app (goodIn_of _ (by decide +kernel)) ggX9_firm_X9_makesWord
set_option maxRecDepth 20000 in
theorem ggX9_firm_X8_add : GoodIn wsX9_firm wsX8_add := goodIn_r _ [57, 19, 58, 59, 43, 60, 51, 52, 17, 53, 61, 62, 63, 64, 65, 66, 67, 83, 84, 85, 86, 87, 88, 89, 90, 91, 92] (by decide +kernel) (by decide +kernel)
set_option maxRecDepth 20000 in
theorem gX9_firm_X8_add : GoodIn wsX9_firm (wsV RX9 137 RX8 yX8_add wsX8_add) := goodIn_app (goodIn_of _ (by decide +kernel)) ggX9_firm_X8_add
set_option maxRecDepth 20000 in
theorem ggX9_firm_X8_settle : GoodIn wsX9_firm wsX8_settle := goodIn_r _ [64, 65, 66, 67, 83, 84, 85, 86, 87, 88, 89, 90, 91, 92] (by decide +kernel) (by decide +kernel)
set_option maxRecDepth 20000 in
theorem gX9_firm_X8_settle : GoodIn wsX9_firm (wsV RX9 154 RX8 yX8_settle wsX8_settle) := goodIn_app (goodIn_of _ (by decide +kernel)) ggX9_firm_X8_settle
theorem dX9_firm_0 : decode cX9_firm 0 = .ok (.iload 5, 2) := by decide +kernel
theorem dX9_firm_2 : decode cX9_firm 2 = .ok (.bipush (-9), 2) := by decide +kernel
theorem dX9_firm_4 : decode cX9_firm 4 = .ok (.if_icmp .eq 7, 3) := by decide +kernel
theorem dX9_firm_7 : decode cX9_firm 7 = .ok (.iconst 1, 1) := by decide +kernel
theorem dX9_firm_8 : decode cX9_firm 8 = .ok (.goto 4, 3) := by decide +kernel
theorem dX9_firm_11 : decode cX9_firm 11 = .ok (.iconst 0, 1) := by decide +kernel
theorem dX9_firm_12 : decode cX9_firm 12 = .ok (.istore 6, 2) := by decide +kernel
theorem dX9_firm_14 : decode cX9_firm 14 = .ok (.iload_n 1, 1) := by decide +kernel
theorem dX9_firm_15 : decode cX9_firm 15 = .ok (.invokestatic 93, 3) := by decide +kernel
theorem dX9_firm_18 : decode cX9_firm 18 = .ok (.ifCond .eq 27, 3) := by decide +kernel
theorem dX9_firm_21 : decode cX9_firm 21 = .ok (.iload_n 2, 1) := by decide +kernel
theorem dX9_firm_22 : decode cX9_firm 22 = .ok (.invokestatic 141, 3) := by decide +kernel
theorem dX9_firm_25 : decode cX9_firm 25 = .ok (.ifCond .eq 20, 3) := by decide +kernel
theorem dX9_firm_28 : decode cX9_firm 28 = .ok (.iload 6, 2) := by decide +kernel
theorem dX9_firm_30 : decode cX9_firm 30 = .ok (.ifCond .eq 17, 3) := by decide +kernel
theorem dX9_firm_33 : decode cX9_firm 33 = .ok (.aload_n 0, 1) := by decide +kernel
theorem dX9_firm_34 : decode cX9_firm 34 = .ok (.getfield 19, 3) := by decide +kernel
theorem dX9_firm_37 : decode cX9_firm 37 = .ok (.iload 5, 2) := by decide +kernel
theorem dX9_firm_39 : decode cX9_firm 39 = .ok (.invokevirtual 142, 3) := by decide +kernel
theorem dX9_firm_42 : decode cX9_firm 42 = .ok (.ifCond .ne 5, 3) := by decide +kernel
theorem dX9_firm_45 : decode cX9_firm 45 = .ok (.iconst (-1), 1) := by decide +kernel
theorem dX9_firm_46 : decode cX9_firm 46 = .ok (.ireturn, 1) := by decide +kernel
theorem dX9_firm_47 : decode cX9_firm 47 = .ok (.iload_n 3, 1) := by decide +kernel
theorem dX9_firm_48 : decode cX9_firm 48 = .ok (.invokestatic 143, 3) := by decide +kernel
theorem dX9_firm_51 : decode cX9_firm 51 = .ok (.ifCond .eq 17, 3) := by decide +kernel
theorem dX9_firm_54 : decode cX9_firm 54 = .ok (.iload 4, 2) := by decide +kernel
theorem dX9_firm_56 : decode cX9_firm 56 = .ok (.invokestatic 143, 3) := by decide +kernel
theorem dX9_firm_59 : decode cX9_firm 59 = .ok (.ifCond .eq 9, 3) := by decide +kernel
theorem dX9_firm_62 : decode cX9_firm 62 = .ok (.iload_n 3, 1) := by decide +kernel
theorem dX9_firm_63 : decode cX9_firm 63 = .ok (.iload 4, 2) := by decide +kernel
theorem dX9_firm_65 : decode cX9_firm 65 = .ok (.if_icmp .le 5, 3) := by decide +kernel
theorem dX9_firm_68 : decode cX9_firm 68 = .ok (.iconst (-1), 1) := by decide +kernel
theorem dX9_firm_69 : decode cX9_firm 69 = .ok (.ireturn, 1) := by decide +kernel
theorem dX9_firm_70 : decode cX9_firm 70 = .ok (.aload_n 0, 1) := by decide +kernel
theorem dX9_firm_71 : decode cX9_firm 71 = .ok (.getfield 19, 3) := by decide +kernel
theorem dX9_firm_74 : decode cX9_firm 74 = .ok (.invokevirtual 123, 3) := by decide +kernel
theorem dX9_firm_77 : decode cX9_firm 77 = .ok (.ifCond .eq 6, 3) := by decide +kernel
theorem dX9_firm_80 : decode cX9_firm 80 = .ok (.bipush (-2), 2) := by decide +kernel
theorem dX9_firm_82 : decode cX9_firm 82 = .ok (.ireturn, 1) := by decide +kernel
theorem dX9_firm_83 : decode cX9_firm 83 = .ok (.aload_n 0, 1) := by decide +kernel
theorem dX9_firm_84 : decode cX9_firm 84 = .ok (.getfield 10, 3) := by decide +kernel
theorem dX9_firm_87 : decode cX9_firm 87 = .ok (.iload_n 1, 1) := by decide +kernel
theorem dX9_firm_88 : decode cX9_firm 88 = .ok (.invokevirtual 104, 3) := by decide +kernel
theorem dX9_firm_91 : decode cX9_firm 91 = .ok (.ifCond .eq 21, 3) := by decide +kernel
theorem dX9_firm_94 : decode cX9_firm 94 = .ok (.iload 6, 2) := by decide +kernel
theorem dX9_firm_96 : decode cX9_firm 96 = .ok (.ifCond .eq 22, 3) := by decide +kernel
theorem dX9_firm_99 : decode cX9_firm 99 = .ok (.aload_n 0, 1) := by decide +kernel
theorem dX9_firm_100 : decode cX9_firm 100 = .ok (.getfield 19, 3) := by decide +kernel
theorem dX9_firm_103 : decode cX9_firm 103 = .ok (.getfield 146, 3) := by decide +kernel
theorem dX9_firm_106 : decode cX9_firm 106 = .ok (.iload 5, 2) := by decide +kernel
theorem dX9_firm_108 : decode cX9_firm 108 = .ok (.baload, 1) := by decide +kernel
theorem dX9_firm_109 : decode cX9_firm 109 = .ok (.ifCond .eq 9, 3) := by decide +kernel
theorem dX9_firm_112 : decode cX9_firm 112 = .ok (.aload_n 0, 1) := by decide +kernel
theorem dX9_firm_113 : decode cX9_firm 113 = .ok (.iconst 1, 1) := by decide +kernel
theorem dX9_firm_114 : decode cX9_firm 114 = .ok (.invokevirtual 96, 3) := by decide +kernel
theorem dX9_firm_117 : decode cX9_firm 117 = .ok (.ireturn, 1) := by decide +kernel
theorem dX9_firm_118 : decode cX9_firm 118 = .ok (.iload 6, 2) := by decide +kernel
theorem dX9_firm_120 : decode cX9_firm 120 = .ok (.ifCond .eq 22, 3) := by decide +kernel
theorem dX9_firm_123 : decode cX9_firm 123 = .ok (.aload_n 0, 1) := by decide +kernel
theorem dX9_firm_124 : decode cX9_firm 124 = .ok (.getfield 19, 3) := by decide +kernel
theorem dX9_firm_127 : decode cX9_firm 127 = .ok (.iload 5, 2) := by decide +kernel
theorem dX9_firm_129 : decode cX9_firm 129 = .ok (.iconst 1, 1) := by decide +kernel
theorem dX9_firm_130 : decode cX9_firm 130 = .ok (.invokevirtual 150, 3) := by decide +kernel
theorem dX9_firm_133 : decode cX9_firm 133 = .ok (.ifCond .ne 9, 3) := by decide +kernel
theorem dX9_firm_136 : decode cX9_firm 136 = .ok (.aload_n 0, 1) := by decide +kernel
theorem dX9_firm_137 : decode cX9_firm 137 = .ok (.iconst 3, 1) := by decide +kernel
theorem dX9_firm_138 : decode cX9_firm 138 = .ok (.invokevirtual 96, 3) := by decide +kernel
theorem dX9_firm_141 : decode cX9_firm 141 = .ok (.ireturn, 1) := by decide +kernel
theorem dX9_firm_142 : decode cX9_firm 142 = .ok (.aload_n 0, 1) := by decide +kernel
theorem dX9_firm_143 : decode cX9_firm 143 = .ok (.iload_n 1, 1) := by decide +kernel
theorem dX9_firm_144 : decode cX9_firm 144 = .ok (.invokevirtual 127, 3) := by decide +kernel
theorem dX9_firm_147 : decode cX9_firm 147 = .ok (.ifCond .ne 9, 3) := by decide +kernel
theorem dX9_firm_150 : decode cX9_firm 150 = .ok (.aload_n 0, 1) := by decide +kernel
theorem dX9_firm_151 : decode cX9_firm 151 = .ok (.iconst 5, 1) := by decide +kernel
theorem dX9_firm_152 : decode cX9_firm 152 = .ok (.invokevirtual 96, 3) := by decide +kernel
theorem dX9_firm_155 : decode cX9_firm 155 = .ok (.ireturn, 1) := by decide +kernel
theorem dX9_firm_156 : decode cX9_firm 156 = .ok (.aload_n 0, 1) := by decide +kernel
theorem dX9_firm_157 : decode cX9_firm 157 = .ok (.getfield 19, 3) := by decide +kernel
theorem dX9_firm_160 : decode cX9_firm 160 = .ok (.aload_n 0, 1) := by decide +kernel
theorem dX9_firm_161 : decode cX9_firm 161 = .ok (.getfield 10, 3) := by decide +kernel
theorem dX9_firm_164 : decode cX9_firm 164 = .ok (.getfield 130, 3) := by decide +kernel
theorem dX9_firm_167 : decode cX9_firm 167 = .ok (.iload_n 1, 1) := by decide +kernel
theorem dX9_firm_168 : decode cX9_firm 168 = .ok (.aaload, 1) := by decide +kernel
theorem dX9_firm_169 : decode cX9_firm 169 = .ok (.aload_n 0, 1) := by decide +kernel
theorem dX9_firm_170 : decode cX9_firm 170 = .ok (.getfield 10, 3) := by decide +kernel
theorem dX9_firm_173 : decode cX9_firm 173 = .ok (.getfield 134, 3) := by decide +kernel
theorem dX9_firm_176 : decode cX9_firm 176 = .ok (.iload_n 1, 1) := by decide +kernel
theorem dX9_firm_177 : decode cX9_firm 177 = .ok (.iaload, 1) := by decide +kernel
theorem dX9_firm_178 : decode cX9_firm 178 = .ok (.iload 6, 2) := by decide +kernel
theorem dX9_firm_180 : decode cX9_firm 180 = .ok (.ifCond .eq 7, 3) := by decide +kernel
theorem dX9_firm_183 : decode cX9_firm 183 = .ok (.iconst 2, 1) := by decide +kernel
theorem dX9_firm_184 : decode cX9_firm 184 = .ok (.goto 4, 3) := by decide +kernel
theorem dX9_firm_187 : decode cX9_firm 187 = .ok (.iconst 1, 1) := by decide +kernel
theorem dX9_firm_188 : decode cX9_firm 188 = .ok (.iload 5, 2) := by decide +kernel
theorem dX9_firm_190 : decode cX9_firm 190 = .ok (.invokevirtual 137, 3) := by decide +kernel
theorem dX9_firm_193 : decode cX9_firm 193 = .ok (.istore 7, 2) := by decide +kernel
theorem dX9_firm_195 : decode cX9_firm 195 = .ok (.aload_n 0, 1) := by decide +kernel
theorem dX9_firm_196 : decode cX9_firm 196 = .ok (.getfield 19, 3) := by decide +kernel
theorem dX9_firm_199 : decode cX9_firm 199 = .ok (.iload 7, 2) := by decide +kernel
theorem dX9_firm_201 : decode cX9_firm 201 = .ok (.iload_n 2, 1) := by decide +kernel
theorem dX9_firm_202 : decode cX9_firm 202 = .ok (.iload_n 3, 1) := by decide +kernel
theorem dX9_firm_203 : decode cX9_firm 203 = .ok (.iload 4, 2) := by decide +kernel
theorem dX9_firm_205 : decode cX9_firm 205 = .ok (.invokevirtual 154, 3) := by decide +kernel
theorem dX9_firm_208 : decode cX9_firm 208 = .ok (.iload 7, 2) := by decide +kernel
theorem dX9_firm_210 : decode cX9_firm 210 = .ok (.ireturn, 1) := by decide +kernel
set_option maxRecDepth 20000 in
theorem ggX9_slogan_X5_isNumber : GoodIn wsX9_slogan wsX5_isNumber := goodIn_r _ [12] (by decide +kernel) (by decide +kernel)
set_option maxRecDepth 20000 in
theorem gX9_slogan_X5_isNumber : GoodIn wsX9_slogan (va_wsS RX9 93 yX5_isNumber wsX5_isNumber) := goodIn_app (goodIn_of _ (by decide +kernel)) ggX9_slogan_X5_isNumber
set_option maxRecDepth 20000 in
theorem ggX9_slogan_X8_isNumber : GoodIn wsX9_slogan wsX8_isNumber := goodIn_r _ [17, 18, 79, 80, 81, 82, 83, 84, 85, 86, 87, 88] (by decide +kernel) (by decide +kernel)
set_option maxRecDepth 20000 in
theorem gX9_slogan_X8_isNumber : GoodIn wsX9_slogan (wsV RX9 142 RX8 yX8_isNumber wsX8_isNumber) := goodIn_app (goodIn_of _ (by decide +kernel)) ggX9_slogan_X8_isNumber
set_option maxRecDepth 20000 in
theorem ggX9_slogan_X8_isFull : GoodIn wsX9_slogan wsX8_isFull := goodIn_r _ [22, 18, 79, 80, 81, 82, 83, 84, 85, 86, 87, 88] (by decide +kernel) (by decide +kernel)
set_option maxRecDepth 20000 in
theorem gX9_slogan_X8_isFull : GoodIn wsX9_slogan (wsV RX9 123 RX8 yX8_isFull wsX8_isFull) := goodIn_app (goodIn_of _ (by decide +kernel)) ggX9_slogan_X8_isFull
set_option maxRecDepth 20000 in
theorem ggX9_slogan_X5_isThere : GoodIn wsX9_slogan wsX5_isThere := goodIn_r _ [26, 27, 89, 90] (by decide +kernel) (by decide +kernel)
set_option maxRecDepth 20000 in
theorem gX9_slogan_X5_isThere : GoodIn wsX9_slogan (wsV RX9 104 RX5 yX5_isThere wsX5_isThere) := goodIn_app (goodIn_of _ (by decide +kernel)) ggX9_slogan_X5_isThere
set_option maxRecDepth 20000 in
theorem ggX9_slogan_X9_refuse : GoodIn wsX9_slogan wsX9_refuse := goodIn_r _ [32, 33, 34, 65, 66, 67, 68, 69, 70, 71, 72, 73, 74, 75, 76, 77, 78] (by decide +kernel) (by decide +kernel)
set_option maxRecDepth 20000 in
theorem gX9_slogan_X9_refuse : GoodIn wsX9_slogan (wsV RX9 96 RX9 yX9_refuse wsX9_refuse) := goodIn_app (goodIn_of _ (by decide +kernel)) ggX9_slogan_X9_refuse
set_option maxRecDepth 20000 in
theorem ggX9_slogan_X8_isOf : GoodIn wsX9_slogan wsX8_isOf := goodIn_r _ [38, 39, 79, 80, 81, 82, 83, 84, 85, 86, 87, 88] (by decide +kernel) (by decide +kernel)
set_option maxRecDepth 20000 in
theorem gX9_slogan_X8_isOf : GoodIn wsX9_slogan (wsV RX9 150 RX8 yX8_isOf wsX8_isOf) := goodIn_app (goodIn_of _ (by decide +kernel)) ggX9_slogan_X8_isOf
set_option maxRecDepth 20000 in
theorem ggX9_slogan_X9_makesWord : GoodIn wsX9_slogan wsX9_makesWord := goodIn_r _ [43, 2, 4, 5, 44, 45, 16, 46, 47, 48, 49, 65, 66, 67, 68, 69, 70, 71, 72, 73, 74, 75, 76, 77, 78, 89, 90] (by decide +kernel) (by decide +kernel)
set_option maxRecDepth 20000 in
theorem gX9_slogan_X9_makesWord : GoodIn wsX9_slogan (wsV RX9 127 RX9 yX9_makesWord wsX9_makesWord) := goodIn_app (goodIn_of _ (by decide +kernel)) ggX9_slogan_X9_makesWord
set_option maxRecDepth 20000 in
theorem ggX9_slogan_X8_add : GoodIn wsX9_slogan wsX8_add := goodIn_r _ [53, 18, 54, 55, 39, 56, 47, 48, 16, 49, 57, 58, 59, 60, 61, 62, 63, 79, 80, 81, 82, 83, 84, 85, 86, 87, 88] (by decide +kernel) (by decide +kernel)
set_option maxRecDepth 20000 in
theorem gX9_slogan_X8_add : GoodIn wsX9_slogan (wsV RX9 137 RX8 yX8_add wsX8_add) := goodIn_app (goodIn_of _ (by decide +kernel)) ggX9_slogan_X8_add
set_option maxRecDepth 20000 in
theorem ggX9_slogan_X8_settle : GoodIn wsX9_slogan wsX8_settle := goodIn_r _ [60, 61, 62, 63, 79, 80, 81, 82, 83, 84, 85, 86, 87, 88] (by decide +kernel) (by decide +kernel)
set_option maxRecDepth 20000 in
theorem gX9_slogan_X8_settle : GoodIn wsX9_slogan (wsV RX9 154 RX8 yX8_settle wsX8_settle) := goodIn_app (goodIn_of _ (by decide +kernel)) ggX9_slogan_X8_settle
theorem dX9_slogan_0 : decode cX9_slogan 0 = .ok (.iload_n 1, 1) := by decide +kernel
theorem dX9_slogan_1 : decode cX9_slogan 1 = .ok (.invokestatic 93, 3) := by decide +kernel
theorem dX9_slogan_4 : decode cX9_slogan 4 = .ok (.ifCond .eq 14, 3) := by decide +kernel
theorem dX9_slogan_7 : decode cX9_slogan 7 = .ok (.aload_n 0, 1) := by decide +kernel
theorem dX9_slogan_8 : decode cX9_slogan 8 = .ok (.getfield 19, 3) := by decide +kernel
theorem dX9_slogan_11 : decode cX9_slogan 11 = .ok (.iload_n 2, 1) := by decide +kernel
theorem dX9_slogan_12 : decode cX9_slogan 12 = .ok (.invokevirtual 142, 3) := by decide +kernel
theorem dX9_slogan_15 : decode cX9_slogan 15 = .ok (.ifCond .ne 5, 3) := by decide +kernel
theorem dX9_slogan_18 : decode cX9_slogan 18 = .ok (.iconst (-1), 1) := by decide +kernel
theorem dX9_slogan_19 : decode cX9_slogan 19 = .ok (.ireturn, 1) := by decide +kernel
theorem dX9_slogan_20 : decode cX9_slogan 20 = .ok (.aload_n 0, 1) := by decide +kernel
theorem dX9_slogan_21 : decode cX9_slogan 21 = .ok (.getfield 19, 3) := by decide +kernel
theorem dX9_slogan_24 : decode cX9_slogan 24 = .ok (.invokevirtual 123, 3) := by decide +kernel
theorem dX9_slogan_27 : decode cX9_slogan 27 = .ok (.ifCond .eq 6, 3) := by decide +kernel
theorem dX9_slogan_30 : decode cX9_slogan 30 = .ok (.bipush (-2), 2) := by decide +kernel
theorem dX9_slogan_32 : decode cX9_slogan 32 = .ok (.ireturn, 1) := by decide +kernel
theorem dX9_slogan_33 : decode cX9_slogan 33 = .ok (.aload_n 0, 1) := by decide +kernel
theorem dX9_slogan_34 : decode cX9_slogan 34 = .ok (.getfield 10, 3) := by decide +kernel
theorem dX9_slogan_37 : decode cX9_slogan 37 = .ok (.iload_n 1, 1) := by decide +kernel
theorem dX9_slogan_38 : decode cX9_slogan 38 = .ok (.invokevirtual 104, 3) := by decide +kernel
theorem dX9_slogan_41 : decode cX9_slogan 41 = .ok (.ifCond .eq 15, 3) := by decide +kernel
theorem dX9_slogan_44 : decode cX9_slogan 44 = .ok (.aload_n 0, 1) := by decide +kernel
theorem dX9_slogan_45 : decode cX9_slogan 45 = .ok (.getfield 19, 3) := by decide +kernel
theorem dX9_slogan_48 : decode cX9_slogan 48 = .ok (.getfield 146, 3) := by decide +kernel
theorem dX9_slogan_51 : decode cX9_slogan 51 = .ok (.iload_n 2, 1) := by decide +kernel
theorem dX9_slogan_52 : decode cX9_slogan 52 = .ok (.baload, 1) := by decide +kernel
theorem dX9_slogan_53 : decode cX9_slogan 53 = .ok (.ifCond .eq 9, 3) := by decide +kernel
theorem dX9_slogan_56 : decode cX9_slogan 56 = .ok (.aload_n 0, 1) := by decide +kernel
theorem dX9_slogan_57 : decode cX9_slogan 57 = .ok (.iconst 1, 1) := by decide +kernel
theorem dX9_slogan_58 : decode cX9_slogan 58 = .ok (.invokevirtual 96, 3) := by decide +kernel
theorem dX9_slogan_61 : decode cX9_slogan 61 = .ok (.ireturn, 1) := by decide +kernel
theorem dX9_slogan_62 : decode cX9_slogan 62 = .ok (.aload_n 0, 1) := by decide +kernel
theorem dX9_slogan_63 : decode cX9_slogan 63 = .ok (.getfield 19, 3) := by decide +kernel
theorem dX9_slogan_66 : decode cX9_slogan 66 = .ok (.iload_n 2, 1) := by decide +kernel
theorem dX9_slogan_67 : decode cX9_slogan 67 = .ok (.iconst 1, 1) := by decide +kernel
theorem dX9_slogan_68 : decode cX9_slogan 68 = .ok (.invokevirtual 150, 3) := by decide +kernel
theorem dX9_slogan_71 : decode cX9_slogan 71 = .ok (.ifCond .ne 9, 3) := by decide +kernel
theorem dX9_slogan_74 : decode cX9_slogan 74 = .ok (.aload_n 0, 1) := by decide +kernel
theorem dX9_slogan_75 : decode cX9_slogan 75 = .ok (.iconst 3, 1) := by decide +kernel
theorem dX9_slogan_76 : decode cX9_slogan 76 = .ok (.invokevirtual 96, 3) := by decide +kernel
theorem dX9_slogan_79 : decode cX9_slogan 79 = .ok (.ireturn, 1) := by decide +kernel
theorem dX9_slogan_80 : decode cX9_slogan 80 = .ok (.aload_n 0, 1) := by decide +kernel
theorem dX9_slogan_81 : decode cX9_slogan 81 = .ok (.iload_n 1, 1) := by decide +kernel
theorem dX9_slogan_82 : decode cX9_slogan 82 = .ok (.invokevirtual 127, 3) := by decide +kernel
theorem dX9_slogan_85 : decode cX9_slogan 85 = .ok (.ifCond .ne 9, 3) := by decide +kernel
theorem dX9_slogan_88 : decode cX9_slogan 88 = .ok (.aload_n 0, 1) := by decide +kernel
theorem dX9_slogan_89 : decode cX9_slogan 89 = .ok (.iconst 5, 1) := by decide +kernel
theorem dX9_slogan_90 : decode cX9_slogan 90 = .ok (.invokevirtual 96, 3) := by decide +kernel
theorem dX9_slogan_93 : decode cX9_slogan 93 = .ok (.ireturn, 1) := by decide +kernel
theorem dX9_slogan_94 : decode cX9_slogan 94 = .ok (.aload_n 0, 1) := by decide +kernel
theorem dX9_slogan_95 : decode cX9_slogan 95 = .ok (.getfield 19, 3) := by decide +kernel
theorem dX9_slogan_98 : decode cX9_slogan 98 = .ok (.aload_n 0, 1) := by decide +kernel
theorem dX9_slogan_99 : decode cX9_slogan 99 = .ok (.getfield 10, 3) := by decide +kernel
theorem dX9_slogan_102 : decode cX9_slogan 102 = .ok (.getfield 130, 3) := by decide +kernel
theorem dX9_slogan_105 : decode cX9_slogan 105 = .ok (.iload_n 1, 1) := by decide +kernel
theorem dX9_slogan_106 : decode cX9_slogan 106 = .ok (.aaload, 1) := by decide +kernel
theorem dX9_slogan_107 : decode cX9_slogan 107 = .ok (.aload_n 0, 1) := by decide +kernel
theorem dX9_slogan_108 : decode cX9_slogan 108 = .ok (.getfield 10, 3) := by decide +kernel
theorem dX9_slogan_111 : decode cX9_slogan 111 = .ok (.getfield 134, 3) := by decide +kernel
theorem dX9_slogan_114 : decode cX9_slogan 114 = .ok (.iload_n 1, 1) := by decide +kernel
theorem dX9_slogan_115 : decode cX9_slogan 115 = .ok (.iaload, 1) := by decide +kernel
theorem dX9_slogan_116 : decode cX9_slogan 116 = .ok (.iconst 3, 1) := by decide +kernel
theorem dX9_slogan_117 : decode cX9_slogan 117 = .ok (.iload_n 2, 1) := by decide +kernel
theorem dX9_slogan_118 : decode cX9_slogan 118 = .ok (.invokevirtual 137, 3) := by decide +kernel
theorem dX9_slogan_121 : decode cX9_slogan 121 = .ok (.istore_n 3, 1) := by decide +kernel
theorem dX9_slogan_122 : decode cX9_slogan 122 = .ok (.aload_n 0, 1) := by decide +kernel
theorem dX9_slogan_123 : decode cX9_slogan 123 = .ok (.getfield 19, 3) := by decide +kernel
theorem dX9_slogan_126 : decode cX9_slogan 126 = .ok (.iload_n 3, 1) := by decide +kernel
theorem dX9_slogan_127 : decode cX9_slogan 127 = .ok (.aload_n 0, 1) := by decide +kernel
theorem dX9_slogan_128 : decode cX9_slogan 128 = .ok (.getfield 19, 3) := by decide +kernel
theorem dX9_slogan_131 : decode cX9_slogan 131 = .ok (.getfield 158, 3) := by decide +kernel
theorem dX9_slogan_134 : decode cX9_slogan 134 = .ok (.iload_n 2, 1) := by decide +kernel
theorem dX9_slogan_135 : decode cX9_slogan 135 = .ok (.iaload, 1) := by decide +kernel
theorem dX9_slogan_136 : decode cX9_slogan 136 = .ok (.aload_n 0, 1) := by decide +kernel
theorem dX9_slogan_137 : decode cX9_slogan 137 = .ok (.getfield 19, 3) := by decide +kernel
theorem dX9_slogan_140 : decode cX9_slogan 140 = .ok (.getfield 161, 3) := by decide +kernel
theorem dX9_slogan_143 : decode cX9_slogan 143 = .ok (.iload_n 2, 1) := by decide +kernel
theorem dX9_slogan_144 : decode cX9_slogan 144 = .ok (.iaload, 1) := by decide +kernel
theorem dX9_slogan_145 : decode cX9_slogan 145 = .ok (.aload_n 0, 1) := by decide +kernel
theorem dX9_slogan_146 : decode cX9_slogan 146 = .ok (.getfield 19, 3) := by decide +kernel
theorem dX9_slogan_149 : decode cX9_slogan 149 = .ok (.getfield 164, 3) := by decide +kernel
theorem dX9_slogan_152 : decode cX9_slogan 152 = .ok (.iload_n 2, 1) := by decide +kernel
theorem dX9_slogan_153 : decode cX9_slogan 153 = .ok (.iaload, 1) := by decide +kernel
theorem dX9_slogan_154 : decode cX9_slogan 154 = .ok (.invokevirtual 154, 3) := by decide +kernel
theorem dX9_slogan_157 : decode cX9_slogan 157 = .ok (.iload_n 3, 1) := by decide +kernel
theorem dX9_slogan_158 : decode cX9_slogan 158 = .ok (.ireturn, 1) := by decide +kernel
set_option maxRecDepth 20000 in
theorem ggX9_strike_X8_isNumber : GoodIn wsX9_strike wsX8_isNumber := goodIn_r _ [7, 8, 48, 49, 50, 51, 52, 53, 54, 55, 56, 57] (by decide +kernel) (by decide +kernel)
set_option maxRecDepth 20000 in
theorem gX9_strike_X8_isNumber : GoodIn wsX9_strike (wsV RX9 142 RX8 yX8_isNumber wsX8_isNumber) := goodIn_app (goodIn_of _ (by decide +kernel)) ggX9_strike_X8_isNumber
set_option maxRecDepth 20000 in
theorem ggX9_strike_X9_refuse : GoodIn wsX9_strike wsX9_refuse := goodIn_r _ [13, 14, 15, 34, 35, 36, 37, 38, 39, 40, 41, 42, 43, 44, 45, 46, 47] (by decide +kernel) (by decide +kernel)
set_option maxRecDepth 20000 in
theorem gX9_strike_X9_refuse : GoodIn wsX9_strike (wsV RX9 96 RX9 yX9_refuse wsX9_refuse) := goodIn_app (goodIn_of _ (by decide +kernel)) ggX9_strike_X9_refuse
set_option maxRecDepth 20000 in
theorem ggX9_strike_X9_isLayer : GoodIn wsX9_strike wsX9_isLayer := goodIn_r _ [19, 20, 21, 22, 23, 24, 25, 26, 27, 34, 35, 36, 37, 38, 39, 40, 41, 42, 43, 44, 45, 46, 47, 58, 59, 60, 61, 62] (by decide +kernel) (by decide +kernel)
set_option maxRecDepth 20000 in
theorem gX9_strike_X9_isLayer : GoodIn wsX9_strike (wsV RX9 167 RX9 yX9_isLayer wsX9_isLayer) := goodIn_app (goodIn_of _ (by decide +kernel)) ggX9_strike_X9_isLayer
set_option maxRecDepth 20000 in
theorem ggX9_strike_X8_sizeOfHouse : GoodIn wsX9_strike wsX8_sizeOfHouse := goodIn_r _ [31, 8, 32, 33, 48, 49, 50, 51, 52, 53, 54, 55, 56, 57] (by decide +kernel) (by decide +kernel)
set_option maxRecDepth 20000 in
theorem gX9_strike_X8_sizeOfHouse : GoodIn wsX9_strike (wsV RX9 170 RX8 yX8_sizeOfHouse wsX8_sizeOfHouse) := goodIn_app (goodIn_of _ (by decide +kernel)) ggX9_strike_X8_sizeOfHouse
theorem dX9_strike_0 : decode cX9_strike 0 = .ok (.aload_n 0, 1) := by decide +kernel
theorem dX9_strike_1 : decode cX9_strike 1 = .ok (.getfield 19, 3) := by decide +kernel
theorem dX9_strike_4 : decode cX9_strike 4 = .ok (.iload_n 1, 1) := by decide +kernel
theorem dX9_strike_5 : decode cX9_strike 5 = .ok (.invokevirtual 142, 3) := by decide +kernel
theorem dX9_strike_8 : decode cX9_strike 8 = .ok (.ifCond .ne 5, 3) := by decide +kernel
theorem dX9_strike_11 : decode cX9_strike 11 = .ok (.iconst (-1), 1) := by decide +kernel
theorem dX9_strike_12 : decode cX9_strike 12 = .ok (.ireturn, 1) := by decide +kernel
theorem dX9_strike_13 : decode cX9_strike 13 = .ok (.aload_n 0, 1) := by decide +kernel
theorem dX9_strike_14 : decode cX9_strike 14 = .ok (.getfield 19, 3) := by decide +kernel
theorem dX9_strike_17 : decode cX9_strike 17 = .ok (.getfield 146, 3) := by decide +kernel
theorem dX9_strike_20 : decode cX9_strike 20 = .ok (.iload_n 1, 1) := by decide +kernel
theorem dX9_strike_21 : decode cX9_strike 21 = .ok (.baload, 1) := by decide +kernel
theorem dX9_strike_22 : decode cX9_strike 22 = .ok (.ifCond .eq 9, 3) := by decide +kernel
theorem dX9_strike_25 : decode cX9_strike 25 = .ok (.aload_n 0, 1) := by decide +kernel
theorem dX9_strike_26 : decode cX9_strike 26 = .ok (.iconst 1, 1) := by decide +kernel
theorem dX9_strike_27 : decode cX9_strike 27 = .ok (.invokevirtual 96, 3) := by decide +kernel
theorem dX9_strike_30 : decode cX9_strike 30 = .ok (.ireturn, 1) := by decide +kernel
theorem dX9_strike_31 : decode cX9_strike 31 = .ok (.aload_n 0, 1) := by decide +kernel
theorem dX9_strike_32 : decode cX9_strike 32 = .ok (.iload_n 1, 1) := by decide +kernel
theorem dX9_strike_33 : decode cX9_strike 33 = .ok (.invokevirtual 167, 3) := by decide +kernel
theorem dX9_strike_36 : decode cX9_strike 36 = .ok (.ifCond .ne 14, 3) := by decide +kernel
theorem dX9_strike_39 : decode cX9_strike 39 = .ok (.aload_n 0, 1) := by decide +kernel
theorem dX9_strike_40 : decode cX9_strike 40 = .ok (.getfield 19, 3) := by decide +kernel
theorem dX9_strike_43 : decode cX9_strike 43 = .ok (.iload_n 1, 1) := by decide +kernel
theorem dX9_strike_44 : decode cX9_strike 44 = .ok (.invokevirtual 170, 3) := by decide +kernel
theorem dX9_strike_47 : decode cX9_strike 47 = .ok (.ifCond .le 6, 3) := by decide +kernel
theorem dX9_strike_50 : decode cX9_strike 50 = .ok (.bipush (-4), 2) := by decide +kernel
theorem dX9_strike_52 : decode cX9_strike 52 = .ok (.ireturn, 1) := by decide +kernel
theorem dX9_strike_53 : decode cX9_strike 53 = .ok (.aload_n 0, 1) := by decide +kernel
theorem dX9_strike_54 : decode cX9_strike 54 = .ok (.getfield 19, 3) := by decide +kernel
theorem dX9_strike_57 : decode cX9_strike 57 = .ok (.getfield 146, 3) := by decide +kernel
theorem dX9_strike_60 : decode cX9_strike 60 = .ok (.iload_n 1, 1) := by decide +kernel
theorem dX9_strike_61 : decode cX9_strike 61 = .ok (.iconst 1, 1) := by decide +kernel
theorem dX9_strike_62 : decode cX9_strike 62 = .ok (.bastore, 1) := by decide +kernel
theorem dX9_strike_63 : decode cX9_strike 63 = .ok (.iconst 1, 1) := by decide +kernel
theorem dX9_strike_64 : decode cX9_strike 64 = .ok (.ireturn, 1) := by decide +kernel
set_option maxRecDepth 20000 in
theorem ggX9_told_X8_isNumber : GoodIn wsX9_told wsX8_isNumber := goodIn_r _ [7, 8, 56, 57, 58, 59, 60, 61, 62, 63, 64, 65] (by decide +kernel) (by decide +kernel)
set_option maxRecDepth 20000 in
theorem gX9_told_X8_isNumber : GoodIn wsX9_told (wsV RX9 142 RX8 yX8_isNumber wsX8_isNumber) := goodIn_app (goodIn_of _ (by decide +kernel)) ggX9_told_X8_isNumber
set_option maxRecDepth 20000 in
theorem ggX9_told_X9_refuse : GoodIn wsX9_told wsX9_refuse := goodIn_r _ [13, 14, 15, 42, 43, 44, 45, 46, 47, 48, 49, 50, 51, 52, 53, 54, 55] (by decide +kernel) (by decide +kernel)
set_option maxRecDepth 20000 in
theorem gX9_told_X9_refuse : GoodIn wsX9_told (wsV RX9 96 RX9 yX9_refuse wsX9_refuse) := goodIn_app (goodIn_of _ (by decide +kernel)) ggX9_told_X9_refuse
set_option maxRecDepth 20000 in
theorem ggX9_told_X8_factOf : GoodIn wsX9_told wsX8_factOf := goodIn_r _ [19, 20, 21, 22, 23, 24, 25, 26, 27, 6, 28, 29, 30, 31, 32, 33, 34, 35, 36, 37, 38, 39, 40, 41, 56, 57, 58, 59, 60, 61, 62, 63, 64, 65] (by decide +kernel) (by decide +kernel)
set_option maxRecDepth 20000 in
theorem gX9_told_X8_factOf : GoodIn wsX9_told (wsV RX9 173 RX8 yX8_factOf wsX8_factOf) := goodIn_app (goodIn_of _ (by decide +kernel)) ggX9_told_X8_factOf
theorem dX9_told_0 : decode cX9_told 0 = .ok (.aload_n 0, 1) := by decide +kernel
theorem dX9_told_1 : decode cX9_told 1 = .ok (.getfield 19, 3) := by decide +kernel
theorem dX9_told_4 : decode cX9_told 4 = .ok (.iload_n 1, 1) := by decide +kernel
theorem dX9_told_5 : decode cX9_told 5 = .ok (.invokevirtual 142, 3) := by decide +kernel
theorem dX9_told_8 : decode cX9_told 8 = .ok (.ifCond .eq 12, 3) := by decide +kernel
theorem dX9_told_11 : decode cX9_told 11 = .ok (.iload_n 2, 1) := by decide +kernel
theorem dX9_told_12 : decode cX9_told 12 = .ok (.ifCond .lt 8, 3) := by decide +kernel
theorem dX9_told_15 : decode cX9_told 15 = .ok (.iload_n 2, 1) := by decide +kernel
theorem dX9_told_16 : decode cX9_told 16 = .ok (.iconst 5, 1) := by decide +kernel
theorem dX9_told_17 : decode cX9_told 17 = .ok (.if_icmp .le 5, 3) := by decide +kernel
theorem dX9_told_20 : decode cX9_told 20 = .ok (.iconst (-1), 1) := by decide +kernel
theorem dX9_told_21 : decode cX9_told 21 = .ok (.ireturn, 1) := by decide +kernel
theorem dX9_told_22 : decode cX9_told 22 = .ok (.aload_n 0, 1) := by decide +kernel
theorem dX9_told_23 : decode cX9_told 23 = .ok (.getfield 19, 3) := by decide +kernel
theorem dX9_told_26 : decode cX9_told 26 = .ok (.getfield 146, 3) := by decide +kernel
theorem dX9_told_29 : decode cX9_told 29 = .ok (.iload_n 1, 1) := by decide +kernel
theorem dX9_told_30 : decode cX9_told 30 = .ok (.baload, 1) := by decide +kernel
theorem dX9_told_31 : decode cX9_told 31 = .ok (.ifCond .eq 9, 3) := by decide +kernel
theorem dX9_told_34 : decode cX9_told 34 = .ok (.aload_n 0, 1) := by decide +kernel
theorem dX9_told_35 : decode cX9_told 35 = .ok (.iconst 1, 1) := by decide +kernel
theorem dX9_told_36 : decode cX9_told 36 = .ok (.invokevirtual 96, 3) := by decide +kernel
theorem dX9_told_39 : decode cX9_told 39 = .ok (.ireturn, 1) := by decide +kernel
theorem dX9_told_40 : decode cX9_told 40 = .ok (.aload_n 0, 1) := by decide +kernel
theorem dX9_told_41 : decode cX9_told 41 = .ok (.getfield 19, 3) := by decide +kernel
theorem dX9_told_44 : decode cX9_told 44 = .ok (.iload_n 1, 1) := by decide +kernel
theorem dX9_told_45 : decode cX9_told 45 = .ok (.iload_n 2, 1) := by decide +kernel
theorem dX9_told_46 : decode cX9_told 46 = .ok (.invokevirtual 173, 3) := by decide +kernel
theorem dX9_told_49 : decode cX9_told 49 = .ok (.ireturn, 1) := by decide +kernel
set_option maxRecDepth 20000 in
theorem ggX9_mark_X8_isNumber : GoodIn wsX9_mark wsX8_isNumber := goodIn_r _ [8, 9, 46, 47, 48, 49, 50, 51, 52, 53, 54, 55] (by decide +kernel) (by decide +kernel)
set_option maxRecDepth 20000 in
theorem gX9_mark_X8_isNumber : GoodIn wsX9_mark (wsV RX9 142 RX8 yX8_isNumber wsX8_isNumber) := goodIn_app (goodIn_of _ (by decide +kernel)) ggX9_mark_X8_isNumber
set_option maxRecDepth 20000 in
theorem ggX9_mark_X9_refuse : GoodIn wsX9_mark wsX9_refuse := goodIn_r _ [14, 15, 16, 32, 33, 34, 35, 36, 37, 38, 39, 40, 41, 42, 43, 44, 45] (by decide +kernel) (by decide +kernel)
set_option maxRecDepth 20000 in
theorem gX9_mark_X9_refuse : GoodIn wsX9_mark (wsV RX9 96 RX9 yX9_refuse wsX9_refuse) := goodIn_app (goodIn_of _ (by decide +kernel)) ggX9_mark_X9_refuse
set_option maxRecDepth 20000 in
theorem ggX9_mark_X8_isOf : GoodIn wsX9_mark wsX8_isOf := goodIn_r _ [20, 21, 46, 47, 48, 49, 50, 51, 52, 53, 54, 55] (by decide +kernel) (by decide +kernel)
set_option maxRecDepth 20000 in
theorem gX9_mark_X8_isOf : GoodIn wsX9_mark (wsV RX9 150 RX8 yX8_isOf wsX8_isOf) := goodIn_app (goodIn_of _ (by decide +kernel)) ggX9_mark_X8_isOf
set_option maxRecDepth 20000 in
theorem ggX9_mark_X8_sizeOfHouse : GoodIn wsX9_mark wsX8_sizeOfHouse := goodIn_r _ [25, 9, 26, 27, 46, 47, 48, 49, 50, 51, 52, 53, 54, 55] (by decide +kernel) (by decide +kernel)
set_option maxRecDepth 20000 in
theorem gX9_mark_X8_sizeOfHouse : GoodIn wsX9_mark (wsV RX9 170 RX8 yX8_sizeOfHouse wsX8_sizeOfHouse) := goodIn_app (goodIn_of _ (by decide +kernel)) ggX9_mark_X8_sizeOfHouse
set_option maxRecDepth 20000 in
theorem ggX9_mark_X8_founderOf : GoodIn wsX9_mark wsX8_founderOf := goodIn_r _ [31, 21, 27, 46, 47, 48, 49, 50, 51, 52, 53, 54, 55] (by decide +kernel) (by decide +kernel)
set_option maxRecDepth 20000 in
theorem gX9_mark_X8_founderOf : GoodIn wsX9_mark (wsV RX9 176 RX8 yX8_founderOf wsX8_founderOf) := goodIn_app (goodIn_of _ (by decide +kernel)) ggX9_mark_X8_founderOf
theorem dX9_mark_0 : decode cX9_mark 0 = .ok (.aload_n 0, 1) := by decide +kernel
theorem dX9_mark_1 : decode cX9_mark 1 = .ok (.getfield 19, 3) := by decide +kernel
theorem dX9_mark_4 : decode cX9_mark 4 = .ok (.iload_n 1, 1) := by decide +kernel
theorem dX9_mark_5 : decode cX9_mark 5 = .ok (.invokevirtual 142, 3) := by decide +kernel
theorem dX9_mark_8 : decode cX9_mark 8 = .ok (.ifCond .eq 13, 3) := by decide +kernel
theorem dX9_mark_11 : decode cX9_mark 11 = .ok (.iload_n 2, 1) := by decide +kernel
theorem dX9_mark_12 : decode cX9_mark 12 = .ok (.iconst 1, 1) := by decide +kernel
theorem dX9_mark_13 : decode cX9_mark 13 = .ok (.if_icmp .lt 8, 3) := by decide +kernel
theorem dX9_mark_16 : decode cX9_mark 16 = .ok (.iload_n 2, 1) := by decide +kernel
theorem dX9_mark_17 : decode cX9_mark 17 = .ok (.iconst 3, 1) := by decide +kernel
theorem dX9_mark_18 : decode cX9_mark 18 = .ok (.if_icmp .le 5, 3) := by decide +kernel
theorem dX9_mark_21 : decode cX9_mark 21 = .ok (.iconst (-1), 1) := by decide +kernel
theorem dX9_mark_22 : decode cX9_mark 22 = .ok (.ireturn, 1) := by decide +kernel
theorem dX9_mark_23 : decode cX9_mark 23 = .ok (.aload_n 0, 1) := by decide +kernel
theorem dX9_mark_24 : decode cX9_mark 24 = .ok (.getfield 19, 3) := by decide +kernel
theorem dX9_mark_27 : decode cX9_mark 27 = .ok (.getfield 146, 3) := by decide +kernel
theorem dX9_mark_30 : decode cX9_mark 30 = .ok (.iload_n 1, 1) := by decide +kernel
theorem dX9_mark_31 : decode cX9_mark 31 = .ok (.baload, 1) := by decide +kernel
theorem dX9_mark_32 : decode cX9_mark 32 = .ok (.ifCond .eq 9, 3) := by decide +kernel
theorem dX9_mark_35 : decode cX9_mark 35 = .ok (.aload_n 0, 1) := by decide +kernel
theorem dX9_mark_36 : decode cX9_mark 36 = .ok (.iconst 1, 1) := by decide +kernel
theorem dX9_mark_37 : decode cX9_mark 37 = .ok (.invokevirtual 96, 3) := by decide +kernel
theorem dX9_mark_40 : decode cX9_mark 40 = .ok (.ireturn, 1) := by decide +kernel
theorem dX9_mark_41 : decode cX9_mark 41 = .ok (.aload_n 0, 1) := by decide +kernel
theorem dX9_mark_42 : decode cX9_mark 42 = .ok (.getfield 19, 3) := by decide +kernel
theorem dX9_mark_45 : decode cX9_mark 45 = .ok (.iload_n 1, 1) := by decide +kernel
theorem dX9_mark_46 : decode cX9_mark 46 = .ok (.iload_n 2, 1) := by decide +kernel
theorem dX9_mark_47 : decode cX9_mark 47 = .ok (.invokevirtual 150, 3) := by decide +kernel
theorem dX9_mark_50 : decode cX9_mark 50 = .ok (.ifCond .ne 9, 3) := by decide +kernel
theorem dX9_mark_53 : decode cX9_mark 53 = .ok (.aload_n 0, 1) := by decide +kernel
theorem dX9_mark_54 : decode cX9_mark 54 = .ok (.iconst 3, 1) := by decide +kernel
theorem dX9_mark_55 : decode cX9_mark 55 = .ok (.invokevirtual 96, 3) := by decide +kernel
theorem dX9_mark_58 : decode cX9_mark 58 = .ok (.ireturn, 1) := by decide +kernel
theorem dX9_mark_59 : decode cX9_mark 59 = .ok (.iload_n 2, 1) := by decide +kernel
theorem dX9_mark_60 : decode cX9_mark 60 = .ok (.iconst 1, 1) := by decide +kernel
theorem dX9_mark_61 : decode cX9_mark 61 = .ok (.if_icmp .ne 12, 3) := by decide +kernel
theorem dX9_mark_64 : decode cX9_mark 64 = .ok (.aload_n 0, 1) := by decide +kernel
theorem dX9_mark_65 : decode cX9_mark 65 = .ok (.getfield 19, 3) := by decide +kernel
theorem dX9_mark_68 : decode cX9_mark 68 = .ok (.iload_n 1, 1) := by decide +kernel
theorem dX9_mark_69 : decode cX9_mark 69 = .ok (.invokevirtual 170, 3) := by decide +kernel
theorem dX9_mark_72 : decode cX9_mark 72 = .ok (.ireturn, 1) := by decide +kernel
theorem dX9_mark_73 : decode cX9_mark 73 = .ok (.iload_n 2, 1) := by decide +kernel
theorem dX9_mark_74 : decode cX9_mark 74 = .ok (.iconst 2, 1) := by decide +kernel
theorem dX9_mark_75 : decode cX9_mark 75 = .ok (.if_icmp .ne 14, 3) := by decide +kernel
theorem dX9_mark_78 : decode cX9_mark 78 = .ok (.aload_n 0, 1) := by decide +kernel
theorem dX9_mark_79 : decode cX9_mark 79 = .ok (.getfield 19, 3) := by decide +kernel
theorem dX9_mark_82 : decode cX9_mark 82 = .ok (.iload_n 1, 1) := by decide +kernel
theorem dX9_mark_83 : decode cX9_mark 83 = .ok (.invokevirtual 176, 3) := by decide +kernel
theorem dX9_mark_86 : decode cX9_mark 86 = .ok (.goto 12, 3) := by decide +kernel
theorem dX9_mark_89 : decode cX9_mark 89 = .ok (.aload_n 0, 1) := by decide +kernel
theorem dX9_mark_90 : decode cX9_mark 90 = .ok (.getfield 19, 3) := by decide +kernel
theorem dX9_mark_93 : decode cX9_mark 93 = .ok (.getfield 179, 3) := by decide +kernel
theorem dX9_mark_96 : decode cX9_mark 96 = .ok (.iload_n 1, 1) := by decide +kernel
theorem dX9_mark_97 : decode cX9_mark 97 = .ok (.iaload, 1) := by decide +kernel
theorem dX9_mark_98 : decode cX9_mark 98 = .ok (.ireturn, 1) := by decide +kernel
set_option maxRecDepth 20000 in
theorem ggX9_mean_X8_sizeThere : GoodIn wsX9_mean wsX8_sizeThere := goodIn_r _ [6, 7, 8, 35, 36, 37, 38, 39, 40, 41, 42, 43, 44] (by decide +kernel) (by decide +kernel)
set_option maxRecDepth 20000 in
theorem gX9_mean_X8_sizeThere : GoodIn wsX9_mean (wsV RX9 182 RX8 yX8_sizeThere wsX8_sizeThere) := goodIn_app (goodIn_of _ (by decide +kernel)) ggX9_mean_X8_sizeThere
set_option maxRecDepth 20000 in
theorem ggX9_mean_X9_refuse : GoodIn wsX9_mean wsX9_refuse := goodIn_r _ [13, 14, 15, 21, 22, 23, 24, 25, 26, 27, 28, 29, 30, 31, 32, 33, 34] (by decide +kernel) (by decide +kernel)
set_option maxRecDepth 20000 in
theorem gX9_mean_X9_refuse : GoodIn wsX9_mean (wsV RX9 96 RX9 yX9_refuse wsX9_refuse) := goodIn_app (goodIn_of _ (by decide +kernel)) ggX9_mean_X9_refuse
set_option maxRecDepth 20000 in
theorem ggX9_mean_X8_lettersThere : GoodIn wsX9_mean wsX8_lettersThere := goodIn_r _ [19, 7, 8, 20, 35, 36, 37, 38, 39, 40, 41, 42, 43, 44] (by decide +kernel) (by decide +kernel)
set_option maxRecDepth 20000 in
theorem gX9_mean_X8_lettersThere : GoodIn wsX9_mean (wsV RX9 186 RX8 yX8_lettersThere wsX8_lettersThere) := goodIn_app (goodIn_of _ (by decide +kernel)) ggX9_mean_X8_lettersThere
theorem dX9_mean_0 : decode cX9_mean 0 = .ok (.aload_n 0, 1) := by decide +kernel
theorem dX9_mean_1 : decode cX9_mean 1 = .ok (.getfield 19, 3) := by decide +kernel
theorem dX9_mean_4 : decode cX9_mean 4 = .ok (.invokevirtual 182, 3) := by decide +kernel
theorem dX9_mean_7 : decode cX9_mean 7 = .ok (.istore_n 1, 1) := by decide +kernel
theorem dX9_mean_8 : decode cX9_mean 8 = .ok (.iload_n 1, 1) := by decide +kernel
theorem dX9_mean_9 : decode cX9_mean 9 = .ok (.ifCond .ne 9, 3) := by decide +kernel
theorem dX9_mean_12 : decode cX9_mean 12 = .ok (.aload_n 0, 1) := by decide +kernel
theorem dX9_mean_13 : decode cX9_mean 13 = .ok (.iconst 4, 1) := by decide +kernel
theorem dX9_mean_14 : decode cX9_mean 14 = .ok (.invokevirtual 96, 3) := by decide +kernel
theorem dX9_mean_17 : decode cX9_mean 17 = .ok (.ireturn, 1) := by decide +kernel
theorem dX9_mean_18 : decode cX9_mean 18 = .ok (.aload_n 0, 1) := by decide +kernel
theorem dX9_mean_19 : decode cX9_mean 19 = .ok (.getfield 19, 3) := by decide +kernel
theorem dX9_mean_22 : decode cX9_mean 22 = .ok (.invokevirtual 186, 3) := by decide +kernel
theorem dX9_mean_25 : decode cX9_mean 25 = .ok (.iload_n 1, 1) := by decide +kernel
theorem dX9_mean_26 : decode cX9_mean 26 = .ok (.idiv, 1) := by decide +kernel
theorem dX9_mean_27 : decode cX9_mean 27 = .ok (.ireturn, 1) := by decide +kernel
set_option maxRecDepth 20000 in
theorem ggX9_see_X9_isLine : GoodIn wsX9_see wsX9_isLine := goodIn_r _ [5] (by decide +kernel) (by decide +kernel)
set_option maxRecDepth 20000 in
theorem gX9_see_X9_isLine : GoodIn wsX9_see (va_wsS RX9 189 yX9_isLine wsX9_isLine) := goodIn_app (goodIn_of _ (by decide +kernel)) ggX9_see_X9_isLine
set_option maxRecDepth 20000 in
theorem ggX9_see_X9_isCells : GoodIn wsX9_see wsX9_isCells := goodIn_r _ [8] (by decide +kernel) (by decide +kernel)
set_option maxRecDepth 20000 in
theorem gX9_see_X9_isCells : GoodIn wsX9_see (va_wsS RX9 86 yX9_isCells wsX9_isCells) := goodIn_app (goodIn_of _ (by decide +kernel)) ggX9_see_X9_isCells
set_option maxRecDepth 20000 in
theorem ggX9_see_X9_isSlot : GoodIn wsX9_see wsX9_isSlot := goodIn_r _ [11] (by decide +kernel) (by decide +kernel)
set_option maxRecDepth 20000 in
theorem gX9_see_X9_isSlot : GoodIn wsX9_see (va_wsS RX9 192 yX9_isSlot wsX9_isSlot) := goodIn_app (goodIn_of _ (by decide +kernel)) ggX9_see_X9_isSlot
set_option maxRecDepth 20000 in
theorem ggX9_see_X9_refuse : GoodIn wsX9_see wsX9_refuse := goodIn_r _ [15, 16, 17, 35, 36, 37, 38, 39, 40, 41, 42, 43, 44, 45, 46, 47, 48] (by decide +kernel) (by decide +kernel)
set_option maxRecDepth 20000 in
theorem gX9_see_X9_refuse : GoodIn wsX9_see (wsV RX9 96 RX9 yX9_refuse wsX9_refuse) := goodIn_app (goodIn_of _ (by decide +kernel)) ggX9_see_X9_refuse
set_option maxRecDepth 20000 in
theorem ggX9_see_X2_show : GoodIn wsX9_see wsX2_show := goodIn_r _ [22, 23, 24, 25, 26, 21, 27, 28, 29, 30, 31, 32, 33, 34, 49, 50, 51, 52, 53] (by decide +kernel) (by decide +kernel)
set_option maxRecDepth 20000 in
theorem gX9_see_X2_show : GoodIn wsX9_see (wsV RX9 195 RX2 yX2_show wsX2_show) := goodIn_app (goodIn_of _ (by decide +kernel)) ggX9_see_X2_show
theorem dX9_see_0 : decode cX9_see 0 = .ok (.iload_n 1, 1) := by decide +kernel
theorem dX9_see_1 : decode cX9_see 1 = .ok (.invokestatic 189, 3) := by decide +kernel
theorem dX9_see_4 : decode cX9_see 4 = .ok (.ifCond .eq 21, 3) := by decide +kernel
theorem dX9_see_7 : decode cX9_see 7 = .ok (.iload_n 3, 1) := by decide +kernel
theorem dX9_see_8 : decode cX9_see 8 = .ok (.invokestatic 86, 3) := by decide +kernel
theorem dX9_see_11 : decode cX9_see 11 = .ok (.ifCond .eq 14, 3) := by decide +kernel
theorem dX9_see_14 : decode cX9_see 14 = .ok (.iload 4, 2) := by decide +kernel
theorem dX9_see_16 : decode cX9_see 16 = .ok (.ifCond .lt 9, 3) := by decide +kernel
theorem dX9_see_19 : decode cX9_see 19 = .ok (.iload 4, 2) := by decide +kernel
theorem dX9_see_21 : decode cX9_see 21 = .ok (.iconst 4, 1) := by decide +kernel
theorem dX9_see_22 : decode cX9_see 22 = .ok (.if_icmp .le 5, 3) := by decide +kernel
theorem dX9_see_25 : decode cX9_see 25 = .ok (.iconst (-1), 1) := by decide +kernel
theorem dX9_see_26 : decode cX9_see 26 = .ok (.ireturn, 1) := by decide +kernel
theorem dX9_see_27 : decode cX9_see 27 = .ok (.iload_n 2, 1) := by decide +kernel
theorem dX9_see_28 : decode cX9_see 28 = .ok (.invokestatic 192, 3) := by decide +kernel
theorem dX9_see_31 : decode cX9_see 31 = .ok (.ifCond .ne 9, 3) := by decide +kernel
theorem dX9_see_34 : decode cX9_see 34 = .ok (.aload_n 0, 1) := by decide +kernel
theorem dX9_see_35 : decode cX9_see 35 = .ok (.iconst 2, 1) := by decide +kernel
theorem dX9_see_36 : decode cX9_see 36 = .ok (.invokevirtual 96, 3) := by decide +kernel
theorem dX9_see_39 : decode cX9_see 39 = .ok (.ireturn, 1) := by decide +kernel
theorem dX9_see_40 : decode cX9_see 40 = .ok (.aload_n 0, 1) := by decide +kernel
theorem dX9_see_41 : decode cX9_see 41 = .ok (.getfield 25, 3) := by decide +kernel
theorem dX9_see_44 : decode cX9_see 44 = .ok (.iload_n 1, 1) := by decide +kernel
theorem dX9_see_45 : decode cX9_see 45 = .ok (.aaload, 1) := by decide +kernel
theorem dX9_see_46 : decode cX9_see 46 = .ok (.iload_n 2, 1) := by decide +kernel
theorem dX9_see_47 : decode cX9_see 47 = .ok (.iload_n 3, 1) := by decide +kernel
theorem dX9_see_48 : decode cX9_see 48 = .ok (.iload 4, 2) := by decide +kernel
theorem dX9_see_50 : decode cX9_see 50 = .ok (.invokevirtual 195, 3) := by decide +kernel
theorem dX9_see_53 : decode cX9_see 53 = .ok (.ireturn, 1) := by decide +kernel
set_option maxRecDepth 20000 in
theorem ggX9_seen_X9_isLine : GoodIn wsX9_seen wsX9_isLine := goodIn_r _ [5] (by decide +kernel) (by decide +kernel)
set_option maxRecDepth 20000 in
theorem gX9_seen_X9_isLine : GoodIn wsX9_seen (va_wsS RX9 189 yX9_isLine wsX9_isLine) := goodIn_app (goodIn_of _ (by decide +kernel)) ggX9_seen_X9_isLine
set_option maxRecDepth 20000 in
theorem ggX9_seen_X9_isSlot : GoodIn wsX9_seen wsX9_isSlot := goodIn_r _ [8] (by decide +kernel) (by decide +kernel)
set_option maxRecDepth 20000 in
theorem gX9_seen_X9_isSlot : GoodIn wsX9_seen (va_wsS RX9 192 yX9_isSlot wsX9_isSlot) := goodIn_app (goodIn_of _ (by decide +kernel)) ggX9_seen_X9_isSlot
set_option maxRecDepth 20000 in
theorem ggX9_seen_X9_refuse : GoodIn wsX9_seen wsX9_refuse := goodIn_r _ [12, 13, 14, 21, 22, 23, 24, 25, 26, 27, 28, 29, 30, 31, 32, 33, 34] (by decide +kernel) (by decide +kernel)
set_option maxRecDepth 20000 in
theorem gX9_seen_X9_refuse : GoodIn wsX9_seen (wsV RX9 96 RX9 yX9_refuse wsX9_refuse) := goodIn_app (goodIn_of _ (by decide +kernel)) ggX9_seen_X9_refuse
set_option maxRecDepth 20000 in
theorem ggX9_seen_X2_valueAt : GoodIn wsX9_seen wsX2_valueAt := goodIn_r _ [19, 20, 35, 36, 37, 38, 39] (by decide +kernel) (by decide +kernel)
set_option maxRecDepth 20000 in
theorem gX9_seen_X2_valueAt : GoodIn wsX9_seen (wsV RX9 198 RX2 yX2_valueAt wsX2_valueAt) := goodIn_app (goodIn_of _ (by decide +kernel)) ggX9_seen_X2_valueAt
theorem dX9_seen_0 : decode cX9_seen 0 = .ok (.iload_n 1, 1) := by decide +kernel
theorem dX9_seen_1 : decode cX9_seen 1 = .ok (.invokestatic 189, 3) := by decide +kernel
theorem dX9_seen_4 : decode cX9_seen 4 = .ok (.ifCond .eq 13, 3) := by decide +kernel
theorem dX9_seen_7 : decode cX9_seen 7 = .ok (.iload_n 3, 1) := by decide +kernel
theorem dX9_seen_8 : decode cX9_seen 8 = .ok (.ifCond .lt 9, 3) := by decide +kernel
theorem dX9_seen_11 : decode cX9_seen 11 = .ok (.iload_n 3, 1) := by decide +kernel
theorem dX9_seen_12 : decode cX9_seen 12 = .ok (.bipush 15, 2) := by decide +kernel
theorem dX9_seen_14 : decode cX9_seen 14 = .ok (.if_icmp .lt 5, 3) := by decide +kernel
theorem dX9_seen_17 : decode cX9_seen 17 = .ok (.iconst (-1), 1) := by decide +kernel
theorem dX9_seen_18 : decode cX9_seen 18 = .ok (.ireturn, 1) := by decide +kernel
theorem dX9_seen_19 : decode cX9_seen 19 = .ok (.iload_n 2, 1) := by decide +kernel
theorem dX9_seen_20 : decode cX9_seen 20 = .ok (.invokestatic 192, 3) := by decide +kernel
theorem dX9_seen_23 : decode cX9_seen 23 = .ok (.ifCond .ne 9, 3) := by decide +kernel
theorem dX9_seen_26 : decode cX9_seen 26 = .ok (.aload_n 0, 1) := by decide +kernel
theorem dX9_seen_27 : decode cX9_seen 27 = .ok (.iconst 2, 1) := by decide +kernel
theorem dX9_seen_28 : decode cX9_seen 28 = .ok (.invokevirtual 96, 3) := by decide +kernel
theorem dX9_seen_31 : decode cX9_seen 31 = .ok (.ireturn, 1) := by decide +kernel
theorem dX9_seen_32 : decode cX9_seen 32 = .ok (.aload_n 0, 1) := by decide +kernel
theorem dX9_seen_33 : decode cX9_seen 33 = .ok (.getfield 25, 3) := by decide +kernel
theorem dX9_seen_36 : decode cX9_seen 36 = .ok (.iload_n 1, 1) := by decide +kernel
theorem dX9_seen_37 : decode cX9_seen 37 = .ok (.aaload, 1) := by decide +kernel
theorem dX9_seen_38 : decode cX9_seen 38 = .ok (.iload_n 2, 1) := by decide +kernel
theorem dX9_seen_39 : decode cX9_seen 39 = .ok (.iload_n 3, 1) := by decide +kernel
theorem dX9_seen_40 : decode cX9_seen 40 = .ok (.invokevirtual 198, 3) := by decide +kernel
theorem dX9_seen_43 : decode cX9_seen 43 = .ok (.ireturn, 1) := by decide +kernel
set_option maxRecDepth 20000 in
theorem ggX9_lack_X9_isLine : GoodIn wsX9_lack wsX9_isLine := goodIn_r _ [7] (by decide +kernel) (by decide +kernel)
set_option maxRecDepth 20000 in
theorem gX9_lack_X9_isLine : GoodIn wsX9_lack (va_wsS RX9 189 yX9_isLine wsX9_isLine) := goodIn_app (goodIn_of _ (by decide +kernel)) ggX9_lack_X9_isLine
set_option maxRecDepth 20000 in
theorem ggX9_lack_X8_isNumber : GoodIn wsX9_lack wsX8_isNumber := goodIn_r _ [12, 13, 66, 67, 68, 69, 70, 71, 72, 73, 74, 75] (by decide +kernel) (by decide +kernel)
set_option maxRecDepth 20000 in
theorem gX9_lack_X8_isNumber : GoodIn wsX9_lack (wsV RX9 142 RX8 yX8_isNumber wsX8_isNumber) := goodIn_app (goodIn_of _ (by decide +kernel)) ggX9_lack_X8_isNumber
set_option maxRecDepth 20000 in
theorem ggX9_lack_X9_isColour : GoodIn wsX9_lack wsX9_isColour := goodIn_r _ [16] (by decide +kernel) (by decide +kernel)
set_option maxRecDepth 20000 in
theorem gX9_lack_X9_isColour : GoodIn wsX9_lack (va_wsS RX9 201 yX9_isColour wsX9_isColour) := goodIn_app (goodIn_of _ (by decide +kernel)) ggX9_lack_X9_isColour
set_option maxRecDepth 20000 in
theorem ggX9_lack_X9_refuse : GoodIn wsX9_lack wsX9_refuse := goodIn_r _ [20, 21, 22, 52, 53, 54, 55, 56, 57, 58, 59, 60, 61, 62, 63, 64, 65] (by decide +kernel) (by decide +kernel)
set_option maxRecDepth 20000 in
theorem gX9_lack_X9_refuse : GoodIn wsX9_lack (wsV RX9 96 RX9 yX9_refuse wsX9_refuse) := goodIn_app (goodIn_of _ (by decide +kernel)) ggX9_lack_X9_refuse
set_option maxRecDepth 20000 in
theorem ggX9_lack_X8_isOnLine : GoodIn wsX9_lack wsX8_isOnLine := goodIn_r _ [26, 27, 66, 67, 68, 69, 70, 71, 72, 73, 74, 75] (by decide +kernel) (by decide +kernel)
set_option maxRecDepth 20000 in
theorem gX9_lack_X8_isOnLine : GoodIn wsX9_lack (wsV RX9 204 RX8 yX8_isOnLine wsX8_isOnLine) := goodIn_app (goodIn_of _ (by decide +kernel)) ggX9_lack_X8_isOnLine
set_option maxRecDepth 20000 in
theorem ggX9_lack_X9_lackAt : GoodIn wsX9_lack wsX9_lackAt := goodIn_r _ [31, 1, 32, 33, 34, 35, 11, 36, 27, 37, 38, 39, 40, 41, 42, 43, 44, 45, 46, 47, 48, 49, 50, 51, 52, 53, 54, 55, 56, 57, 58, 59, 60, 61, 62, 63, 64, 65, 76, 77, 78, 79, 80, 66, 67, 68, 69, 70, 71, 72, 73, 74, 75] (by decide +kernel) (by decide +kernel)
set_option maxRecDepth 20000 in
theorem gX9_lack_X9_lackAt : GoodIn wsX9_lack (wsV RX9 207 RX9 yX9_lackAt wsX9_lackAt) := goodIn_app (goodIn_of _ (by decide +kernel)) ggX9_lack_X9_lackAt
theorem dX9_lack_0 : decode cX9_lack 0 = .ok (.iload_n 1, 1) := by decide +kernel
theorem dX9_lack_1 : decode cX9_lack 1 = .ok (.invokestatic 189, 3) := by decide +kernel
theorem dX9_lack_4 : decode cX9_lack 4 = .ok (.ifCond .eq 22, 3) := by decide +kernel
theorem dX9_lack_7 : decode cX9_lack 7 = .ok (.aload_n 0, 1) := by decide +kernel
theorem dX9_lack_8 : decode cX9_lack 8 = .ok (.getfield 19, 3) := by decide +kernel
theorem dX9_lack_11 : decode cX9_lack 11 = .ok (.iload_n 2, 1) := by decide +kernel
theorem dX9_lack_12 : decode cX9_lack 12 = .ok (.invokevirtual 142, 3) := by decide +kernel
theorem dX9_lack_15 : decode cX9_lack 15 = .ok (.ifCond .eq 11, 3) := by decide +kernel
theorem dX9_lack_18 : decode cX9_lack 18 = .ok (.iload 4, 2) := by decide +kernel
theorem dX9_lack_20 : decode cX9_lack 20 = .ok (.invokestatic 201, 3) := by decide +kernel
theorem dX9_lack_23 : decode cX9_lack 23 = .ok (.ifCond .ne 5, 3) := by decide +kernel
theorem dX9_lack_26 : decode cX9_lack 26 = .ok (.iconst (-1), 1) := by decide +kernel
theorem dX9_lack_27 : decode cX9_lack 27 = .ok (.ireturn, 1) := by decide +kernel
theorem dX9_lack_28 : decode cX9_lack 28 = .ok (.aload_n 0, 1) := by decide +kernel
theorem dX9_lack_29 : decode cX9_lack 29 = .ok (.getfield 19, 3) := by decide +kernel
theorem dX9_lack_32 : decode cX9_lack 32 = .ok (.getfield 146, 3) := by decide +kernel
theorem dX9_lack_35 : decode cX9_lack 35 = .ok (.iload_n 2, 1) := by decide +kernel
theorem dX9_lack_36 : decode cX9_lack 36 = .ok (.baload, 1) := by decide +kernel
theorem dX9_lack_37 : decode cX9_lack 37 = .ok (.ifCond .eq 9, 3) := by decide +kernel
theorem dX9_lack_40 : decode cX9_lack 40 = .ok (.aload_n 0, 1) := by decide +kernel
theorem dX9_lack_41 : decode cX9_lack 41 = .ok (.iconst 1, 1) := by decide +kernel
theorem dX9_lack_42 : decode cX9_lack 42 = .ok (.invokevirtual 96, 3) := by decide +kernel
theorem dX9_lack_45 : decode cX9_lack 45 = .ok (.ireturn, 1) := by decide +kernel
theorem dX9_lack_46 : decode cX9_lack 46 = .ok (.aload_n 0, 1) := by decide +kernel
theorem dX9_lack_47 : decode cX9_lack 47 = .ok (.getfield 19, 3) := by decide +kernel
theorem dX9_lack_50 : decode cX9_lack 50 = .ok (.iload_n 2, 1) := by decide +kernel
theorem dX9_lack_51 : decode cX9_lack 51 = .ok (.iload_n 3, 1) := by decide +kernel
theorem dX9_lack_52 : decode cX9_lack 52 = .ok (.invokevirtual 204, 3) := by decide +kernel
theorem dX9_lack_55 : decode cX9_lack 55 = .ok (.ifCond .ne 9, 3) := by decide +kernel
theorem dX9_lack_58 : decode cX9_lack 58 = .ok (.aload_n 0, 1) := by decide +kernel
theorem dX9_lack_59 : decode cX9_lack 59 = .ok (.iconst 2, 1) := by decide +kernel
theorem dX9_lack_60 : decode cX9_lack 60 = .ok (.invokevirtual 96, 3) := by decide +kernel
theorem dX9_lack_63 : decode cX9_lack 63 = .ok (.ireturn, 1) := by decide +kernel
theorem dX9_lack_64 : decode cX9_lack 64 = .ok (.aload_n 0, 1) := by decide +kernel
theorem dX9_lack_65 : decode cX9_lack 65 = .ok (.aload_n 0, 1) := by decide +kernel
theorem dX9_lack_66 : decode cX9_lack 66 = .ok (.getfield 25, 3) := by decide +kernel
theorem dX9_lack_69 : decode cX9_lack 69 = .ok (.iload_n 1, 1) := by decide +kernel
theorem dX9_lack_70 : decode cX9_lack 70 = .ok (.aaload, 1) := by decide +kernel
theorem dX9_lack_71 : decode cX9_lack 71 = .ok (.iload_n 2, 1) := by decide +kernel
theorem dX9_lack_72 : decode cX9_lack 72 = .ok (.iload_n 3, 1) := by decide +kernel
theorem dX9_lack_73 : decode cX9_lack 73 = .ok (.iload 4, 2) := by decide +kernel
theorem dX9_lack_75 : decode cX9_lack 75 = .ok (.invokevirtual 207, 3) := by decide +kernel
theorem dX9_lack_78 : decode cX9_lack 78 = .ok (.ireturn, 1) := by decide +kernel
set_option maxRecDepth 20000 in
theorem ggX9_reading_X9_isLine : GoodIn wsX9_reading wsX9_isLine := goodIn_r _ [9] (by decide +kernel) (by decide +kernel)
set_option maxRecDepth 20000 in
theorem gX9_reading_X9_isLine : GoodIn wsX9_reading (va_wsS RX9 189 yX9_isLine wsX9_isLine) := goodIn_app (goodIn_of _ (by decide +kernel)) ggX9_reading_X9_isLine
set_option maxRecDepth 20000 in
theorem ggX9_reading_X9_isColour : GoodIn wsX9_reading wsX9_isColour := goodIn_r _ [12] (by decide +kernel) (by decide +kernel)
set_option maxRecDepth 20000 in
theorem gX9_reading_X9_isColour : GoodIn wsX9_reading (va_wsS RX9 201 yX9_isColour wsX9_isColour) := goodIn_app (goodIn_of _ (by decide +kernel)) ggX9_reading_X9_isColour
set_option maxRecDepth 20000 in
theorem ggX9_reading_X9_gatherPlaces : GoodIn wsX9_reading wsX9_gatherPlaces := goodIn_r _ [16, 17, 18, 19, 20, 21, 22, 23, 24, 25, 26, 27, 28, 29, 30, 31, 32, 33, 34, 35, 36, 37, 38, 8, 39, 40, 41, 42, 43, 44, 45, 46, 47, 48, 49, 50, 51, 52, 53, 54, 55, 56, 57, 58, 59, 60, 61, 62, 63, 64, 65, 66, 67, 68, 69, 70, 71, 72, 73, 100, 101, 102, 103, 104, 86, 87, 88, 89, 90, 91, 92, 93, 94, 95, 96, 97, 98, 99, 105, 106, 107, 108, 109, 110, 111, 112, 113, 114, 115, 116, 117, 118, 119] (by decide +kernel) (by decide +kernel)
set_option maxRecDepth 20000 in
theorem gX9_reading_X9_gatherPlaces : GoodIn wsX9_reading (wsV RX9 211 RX9 yX9_gatherPlaces wsX9_gatherPlaces) := goodIn_app (goodIn_of _ (by decide +kernel)) ggX9_reading_X9_gatherPlaces
set_option maxRecDepth 20000 in
theorem ggX9_reading_X4_firstRival : GoodIn wsX9_reading wsX4_firstRival := goodIn_r _ [77, 70, 72, 78, 79, 80, 67, 81, 82, 83, 84, 85, 100, 101, 102, 103, 104] (by decide +kernel) (by decide +kernel)
set_option maxRecDepth 20000 in
theorem gX9_reading_X4_firstRival : GoodIn wsX9_reading (wsV RX9 215 RX4 yX4_firstRival wsX4_firstRival) := goodIn_app (goodIn_of _ (by decide +kernel)) ggX9_reading_X4_firstRival
theorem dX9_reading_0 : decode cX9_reading 0 = .ok (.iload_n 1, 1) := by decide +kernel
theorem dX9_reading_1 : decode cX9_reading 1 = .ok (.invokestatic 189, 3) := by decide +kernel
theorem dX9_reading_4 : decode cX9_reading 4 = .ok (.ifCond .eq 10, 3) := by decide +kernel
theorem dX9_reading_7 : decode cX9_reading 7 = .ok (.iload_n 2, 1) := by decide +kernel
theorem dX9_reading_8 : decode cX9_reading 8 = .ok (.invokestatic 201, 3) := by decide +kernel
theorem dX9_reading_11 : decode cX9_reading 11 = .ok (.ifCond .ne 5, 3) := by decide +kernel
theorem dX9_reading_14 : decode cX9_reading 14 = .ok (.iconst (-1), 1) := by decide +kernel
theorem dX9_reading_15 : decode cX9_reading 15 = .ok (.ireturn, 1) := by decide +kernel
theorem dX9_reading_16 : decode cX9_reading 16 = .ok (.aload_n 0, 1) := by decide +kernel
theorem dX9_reading_17 : decode cX9_reading 17 = .ok (.aload_n 0, 1) := by decide +kernel
theorem dX9_reading_18 : decode cX9_reading 18 = .ok (.getfield 25, 3) := by decide +kernel
theorem dX9_reading_21 : decode cX9_reading 21 = .ok (.iload_n 1, 1) := by decide +kernel
theorem dX9_reading_22 : decode cX9_reading 22 = .ok (.aaload, 1) := by decide +kernel
theorem dX9_reading_23 : decode cX9_reading 23 = .ok (.iload_n 2, 1) := by decide +kernel
theorem dX9_reading_24 : decode cX9_reading 24 = .ok (.aload_n 0, 1) := by decide +kernel
theorem dX9_reading_25 : decode cX9_reading 25 = .ok (.getfield 61, 3) := by decide +kernel
theorem dX9_reading_28 : decode cX9_reading 28 = .ok (.invokevirtual 211, 3) := by decide +kernel
theorem dX9_reading_31 : decode cX9_reading 31 = .ok (.aload_n 0, 1) := by decide +kernel
theorem dX9_reading_32 : decode cX9_reading 32 = .ok (.getfield 61, 3) := by decide +kernel
theorem dX9_reading_35 : decode cX9_reading 35 = .ok (.invokevirtual 215, 3) := by decide +kernel
theorem dX9_reading_38 : decode cX9_reading 38 = .ok (.istore_n 3, 1) := by decide +kernel
theorem dX9_reading_39 : decode cX9_reading 39 = .ok (.iload_n 3, 1) := by decide +kernel
theorem dX9_reading_40 : decode cX9_reading 40 = .ok (.bipush (-9), 2) := by decide +kernel
theorem dX9_reading_42 : decode cX9_reading 42 = .ok (.if_icmp .ne 6, 3) := by decide +kernel
theorem dX9_reading_45 : decode cX9_reading 45 = .ok (.bipush (-9), 2) := by decide +kernel
theorem dX9_reading_47 : decode cX9_reading 47 = .ok (.ireturn, 1) := by decide +kernel
theorem dX9_reading_48 : decode cX9_reading 48 = .ok (.aload_n 0, 1) := by decide +kernel
theorem dX9_reading_49 : decode cX9_reading 49 = .ok (.aload_n 0, 1) := by decide +kernel
theorem dX9_reading_50 : decode cX9_reading 50 = .ok (.getfield 61, 3) := by decide +kernel
theorem dX9_reading_53 : decode cX9_reading 53 = .ok (.getfield 218, 3) := by decide +kernel
theorem dX9_reading_56 : decode cX9_reading 56 = .ok (.iload_n 3, 1) := by decide +kernel
theorem dX9_reading_57 : decode cX9_reading 57 = .ok (.iaload, 1) := by decide +kernel
theorem dX9_reading_58 : decode cX9_reading 58 = .ok (.putfield 221, 3) := by decide +kernel
theorem dX9_reading_61 : decode cX9_reading 61 = .ok (.aload_n 0, 1) := by decide +kernel
theorem dX9_reading_62 : decode cX9_reading 62 = .ok (.getfield 61, 3) := by decide +kernel
theorem dX9_reading_65 : decode cX9_reading 65 = .ok (.getfield 225, 3) := by decide +kernel
theorem dX9_reading_68 : decode cX9_reading 68 = .ok (.iload_n 3, 1) := by decide +kernel
theorem dX9_reading_69 : decode cX9_reading 69 = .ok (.iaload, 1) := by decide +kernel
theorem dX9_reading_70 : decode cX9_reading 70 = .ok (.ireturn, 1) := by decide +kernel
set_option maxRecDepth 20000 in
theorem ggX9_rivals_X9_isLine : GoodIn wsX9_rivals wsX9_isLine := goodIn_r _ [6] (by decide +kernel) (by decide +kernel)
set_option maxRecDepth 20000 in
theorem gX9_rivals_X9_isLine : GoodIn wsX9_rivals (va_wsS RX9 189 yX9_isLine wsX9_isLine) := goodIn_app (goodIn_of _ (by decide +kernel)) ggX9_rivals_X9_isLine
set_option maxRecDepth 20000 in
theorem ggX9_rivals_X9_isColour : GoodIn wsX9_rivals wsX9_isColour := goodIn_r _ [9] (by decide +kernel) (by decide +kernel)
set_option maxRecDepth 20000 in
theorem gX9_rivals_X9_isColour : GoodIn wsX9_rivals (va_wsS RX9 201 yX9_isColour wsX9_isColour) := goodIn_app (goodIn_of _ (by decide +kernel)) ggX9_rivals_X9_isColour
set_option maxRecDepth 20000 in
theorem ggX9_rivals_X9_gatherPlaces : GoodIn wsX9_rivals wsX9_gatherPlaces := goodIn_r _ [13, 14, 15, 16, 17, 18, 19, 20, 21, 22, 23, 24, 25, 26, 27, 28, 29, 30, 31, 32, 33, 34, 35, 5, 36, 37, 38, 39, 40, 41, 42, 43, 44, 45, 46, 47, 48, 49, 50, 51, 52, 53, 54, 55, 56, 57, 58, 59, 60, 61, 62, 63, 64, 65, 66, 67, 68, 69, 70, 97, 98, 99, 100, 101, 83, 84, 85, 86, 87, 88, 89, 90, 91, 92, 93, 94, 95, 96, 102, 103, 104, 105, 106, 107, 108, 109, 110, 111, 112, 113, 114, 115, 116] (by decide +kernel) (by decide +kernel)
set_option maxRecDepth 20000 in
theorem gX9_rivals_X9_gatherPlaces : GoodIn wsX9_rivals (wsV RX9 211 RX9 yX9_gatherPlaces wsX9_gatherPlaces) := goodIn_app (goodIn_of _ (by decide +kernel)) ggX9_rivals_X9_gatherPlaces
set_option maxRecDepth 20000 in
theorem ggX9_rivals_X4_sizeOfRivals : GoodIn wsX9_rivals wsX4_sizeOfRivals := goodIn_r _ [74, 67, 69, 75, 76, 77, 64, 78, 79, 80, 81, 82, 97, 98, 99, 100, 101] (by decide +kernel) (by decide +kernel)
set_option maxRecDepth 20000 in
theorem gX9_rivals_X4_sizeOfRivals : GoodIn wsX9_rivals (wsV RX9 227 RX4 yX4_sizeOfRivals wsX4_sizeOfRivals) := goodIn_app (goodIn_of _ (by decide +kernel)) ggX9_rivals_X4_sizeOfRivals
theorem dX9_rivals_0 : decode cX9_rivals 0 = .ok (.iload_n 1, 1) := by decide +kernel
theorem dX9_rivals_1 : decode cX9_rivals 1 = .ok (.invokestatic 189, 3) := by decide +kernel
theorem dX9_rivals_4 : decode cX9_rivals 4 = .ok (.ifCond .eq 10, 3) := by decide +kernel
theorem dX9_rivals_7 : decode cX9_rivals 7 = .ok (.iload_n 2, 1) := by decide +kernel
theorem dX9_rivals_8 : decode cX9_rivals 8 = .ok (.invokestatic 201, 3) := by decide +kernel
theorem dX9_rivals_11 : decode cX9_rivals 11 = .ok (.ifCond .ne 5, 3) := by decide +kernel
theorem dX9_rivals_14 : decode cX9_rivals 14 = .ok (.iconst (-1), 1) := by decide +kernel
theorem dX9_rivals_15 : decode cX9_rivals 15 = .ok (.ireturn, 1) := by decide +kernel
theorem dX9_rivals_16 : decode cX9_rivals 16 = .ok (.aload_n 0, 1) := by decide +kernel
theorem dX9_rivals_17 : decode cX9_rivals 17 = .ok (.aload_n 0, 1) := by decide +kernel
theorem dX9_rivals_18 : decode cX9_rivals 18 = .ok (.getfield 25, 3) := by decide +kernel
theorem dX9_rivals_21 : decode cX9_rivals 21 = .ok (.iload_n 1, 1) := by decide +kernel
theorem dX9_rivals_22 : decode cX9_rivals 22 = .ok (.aaload, 1) := by decide +kernel
theorem dX9_rivals_23 : decode cX9_rivals 23 = .ok (.iload_n 2, 1) := by decide +kernel
theorem dX9_rivals_24 : decode cX9_rivals 24 = .ok (.aload_n 0, 1) := by decide +kernel
theorem dX9_rivals_25 : decode cX9_rivals 25 = .ok (.getfield 61, 3) := by decide +kernel
theorem dX9_rivals_28 : decode cX9_rivals 28 = .ok (.invokevirtual 211, 3) := by decide +kernel
theorem dX9_rivals_31 : decode cX9_rivals 31 = .ok (.aload_n 0, 1) := by decide +kernel
theorem dX9_rivals_32 : decode cX9_rivals 32 = .ok (.getfield 61, 3) := by decide +kernel
theorem dX9_rivals_35 : decode cX9_rivals 35 = .ok (.invokevirtual 227, 3) := by decide +kernel
theorem dX9_rivals_38 : decode cX9_rivals 38 = .ok (.ireturn, 1) := by decide +kernel
set_option maxRecDepth 20000 in
theorem ggX9_layer_X9_isLine : GoodIn wsX9_layer wsX9_isLine := goodIn_r _ [8] (by decide +kernel) (by decide +kernel)
set_option maxRecDepth 20000 in
theorem gX9_layer_X9_isLine : GoodIn wsX9_layer (va_wsS RX9 189 yX9_isLine wsX9_isLine) := goodIn_app (goodIn_of _ (by decide +kernel)) ggX9_layer_X9_isLine
set_option maxRecDepth 20000 in
theorem ggX9_layer_X8_isNumber : GoodIn wsX9_layer wsX8_isNumber := goodIn_r _ [13, 14, 60, 61, 62, 63, 64, 65, 66, 67, 68, 69] (by decide +kernel) (by decide +kernel)
set_option maxRecDepth 20000 in
theorem gX9_layer_X8_isNumber : GoodIn wsX9_layer (wsV RX9 142 RX8 yX8_isNumber wsX8_isNumber) := goodIn_app (goodIn_of _ (by decide +kernel)) ggX9_layer_X8_isNumber
set_option maxRecDepth 20000 in
theorem ggX9_layer_X9_isColour : GoodIn wsX9_layer wsX9_isColour := goodIn_r _ [17] (by decide +kernel) (by decide +kernel)
set_option maxRecDepth 20000 in
theorem gX9_layer_X9_isColour : GoodIn wsX9_layer (va_wsS RX9 201 yX9_isColour wsX9_isColour) := goodIn_app (goodIn_of _ (by decide +kernel)) ggX9_layer_X9_isColour
set_option maxRecDepth 20000 in
theorem ggX9_layer_X2_isFull : GoodIn wsX9_layer wsX2_isFull := goodIn_r _ [22, 23, 70, 71, 72, 73, 74] (by decide +kernel) (by decide +kernel)
set_option maxRecDepth 20000 in
theorem gX9_layer_X2_isFull : GoodIn wsX9_layer (wsV RX9 230 RX2 yX2_isFull wsX2_isFull) := goodIn_app (goodIn_of _ (by decide +kernel)) ggX9_layer_X2_isFull
set_option maxRecDepth 20000 in
theorem ggX9_layer_X2_hasLayerIn : GoodIn wsX9_layer wsX2_hasLayerIn := goodIn_r _ [27, 23, 28, 70, 71, 72, 73, 74] (by decide +kernel) (by decide +kernel)
set_option maxRecDepth 20000 in
theorem gX9_layer_X2_hasLayerIn : GoodIn wsX9_layer (wsV RX9 231 RX2 yX2_hasLayerIn wsX2_hasLayerIn) := goodIn_app (goodIn_of _ (by decide +kernel)) ggX9_layer_X2_hasLayerIn
set_option maxRecDepth 20000 in
theorem ggX9_layer_X9_refuse : GoodIn wsX9_layer wsX9_refuse := goodIn_r _ [32, 33, 34, 46, 47, 48, 49, 50, 51, 52, 53, 54, 55, 56, 57, 58, 59] (by decide +kernel) (by decide +kernel)
set_option maxRecDepth 20000 in
theorem gX9_layer_X9_refuse : GoodIn wsX9_layer (wsV RX9 96 RX9 yX9_refuse wsX9_refuse) := goodIn_app (goodIn_of _ (by decide +kernel)) ggX9_layer_X9_refuse
set_option maxRecDepth 20000 in
theorem ggX9_layer_X8_isOnLine : GoodIn wsX9_layer wsX8_isOnLine := goodIn_r _ [38, 39, 60, 61, 62, 63, 64, 65, 66, 67, 68, 69] (by decide +kernel) (by decide +kernel)
set_option maxRecDepth 20000 in
theorem gX9_layer_X8_isOnLine : GoodIn wsX9_layer (wsV RX9 204 RX8 yX8_isOnLine wsX8_isOnLine) := goodIn_app (goodIn_of _ (by decide +kernel)) ggX9_layer_X8_isOnLine
set_option maxRecDepth 20000 in
theorem ggX9_layer_X2_addLayer : GoodIn wsX9_layer wsX2_addLayer := goodIn_r _ [43, 44, 23, 45, 28, 70, 71, 72, 73, 74] (by decide +kernel) (by decide +kernel)
set_option maxRecDepth 20000 in
theorem gX9_layer_X2_addLayer : GoodIn wsX9_layer (wsV RX9 234 RX2 yX2_addLayer wsX2_addLayer) := goodIn_app (goodIn_of _ (by decide +kernel)) ggX9_layer_X2_addLayer
theorem dX9_layer_0 : decode cX9_layer 0 = .ok (.iload_n 1, 1) := by decide +kernel
theorem dX9_layer_1 : decode cX9_layer 1 = .ok (.invokestatic 189, 3) := by decide +kernel
theorem dX9_layer_4 : decode cX9_layer 4 = .ok (.ifCond .eq 22, 3) := by decide +kernel
theorem dX9_layer_7 : decode cX9_layer 7 = .ok (.aload_n 0, 1) := by decide +kernel
theorem dX9_layer_8 : decode cX9_layer 8 = .ok (.getfield 19, 3) := by decide +kernel
theorem dX9_layer_11 : decode cX9_layer 11 = .ok (.iload_n 2, 1) := by decide +kernel
theorem dX9_layer_12 : decode cX9_layer 12 = .ok (.invokevirtual 142, 3) := by decide +kernel
theorem dX9_layer_15 : decode cX9_layer 15 = .ok (.ifCond .eq 11, 3) := by decide +kernel
theorem dX9_layer_18 : decode cX9_layer 18 = .ok (.iload 4, 2) := by decide +kernel
theorem dX9_layer_20 : decode cX9_layer 20 = .ok (.invokestatic 201, 3) := by decide +kernel
theorem dX9_layer_23 : decode cX9_layer 23 = .ok (.ifCond .ne 5, 3) := by decide +kernel
theorem dX9_layer_26 : decode cX9_layer 26 = .ok (.iconst (-1), 1) := by decide +kernel
theorem dX9_layer_27 : decode cX9_layer 27 = .ok (.ireturn, 1) := by decide +kernel
theorem dX9_layer_28 : decode cX9_layer 28 = .ok (.aload_n 0, 1) := by decide +kernel
theorem dX9_layer_29 : decode cX9_layer 29 = .ok (.getfield 25, 3) := by decide +kernel
theorem dX9_layer_32 : decode cX9_layer 32 = .ok (.iload_n 1, 1) := by decide +kernel
theorem dX9_layer_33 : decode cX9_layer 33 = .ok (.aaload, 1) := by decide +kernel
theorem dX9_layer_34 : decode cX9_layer 34 = .ok (.astore 5, 2) := by decide +kernel
theorem dX9_layer_36 : decode cX9_layer 36 = .ok (.aload 5, 2) := by decide +kernel
theorem dX9_layer_38 : decode cX9_layer 38 = .ok (.invokevirtual 230, 3) := by decide +kernel
theorem dX9_layer_41 : decode cX9_layer 41 = .ok (.ifCond .eq 6, 3) := by decide +kernel
theorem dX9_layer_44 : decode cX9_layer 44 = .ok (.bipush (-2), 2) := by decide +kernel
theorem dX9_layer_46 : decode cX9_layer 46 = .ok (.ireturn, 1) := by decide +kernel
theorem dX9_layer_47 : decode cX9_layer 47 = .ok (.aload 5, 2) := by decide +kernel
theorem dX9_layer_49 : decode cX9_layer 49 = .ok (.iload 4, 2) := by decide +kernel
theorem dX9_layer_51 : decode cX9_layer 51 = .ok (.invokevirtual 231, 3) := by decide +kernel
theorem dX9_layer_54 : decode cX9_layer 54 = .ok (.ifCond .eq 6, 3) := by decide +kernel
theorem dX9_layer_57 : decode cX9_layer 57 = .ok (.bipush (-4), 2) := by decide +kernel
theorem dX9_layer_59 : decode cX9_layer 59 = .ok (.ireturn, 1) := by decide +kernel
theorem dX9_layer_60 : decode cX9_layer 60 = .ok (.aload_n 0, 1) := by decide +kernel
theorem dX9_layer_61 : decode cX9_layer 61 = .ok (.getfield 19, 3) := by decide +kernel
theorem dX9_layer_64 : decode cX9_layer 64 = .ok (.getfield 146, 3) := by decide +kernel
theorem dX9_layer_67 : decode cX9_layer 67 = .ok (.iload_n 2, 1) := by decide +kernel
theorem dX9_layer_68 : decode cX9_layer 68 = .ok (.baload, 1) := by decide +kernel
theorem dX9_layer_69 : decode cX9_layer 69 = .ok (.ifCond .eq 9, 3) := by decide +kernel
theorem dX9_layer_72 : decode cX9_layer 72 = .ok (.aload_n 0, 1) := by decide +kernel
theorem dX9_layer_73 : decode cX9_layer 73 = .ok (.iconst 1, 1) := by decide +kernel
theorem dX9_layer_74 : decode cX9_layer 74 = .ok (.invokevirtual 96, 3) := by decide +kernel
theorem dX9_layer_77 : decode cX9_layer 77 = .ok (.ireturn, 1) := by decide +kernel
theorem dX9_layer_78 : decode cX9_layer 78 = .ok (.aload_n 0, 1) := by decide +kernel
theorem dX9_layer_79 : decode cX9_layer 79 = .ok (.getfield 19, 3) := by decide +kernel
theorem dX9_layer_82 : decode cX9_layer 82 = .ok (.iload_n 2, 1) := by decide +kernel
theorem dX9_layer_83 : decode cX9_layer 83 = .ok (.iload_n 3, 1) := by decide +kernel
theorem dX9_layer_84 : decode cX9_layer 84 = .ok (.invokevirtual 204, 3) := by decide +kernel
theorem dX9_layer_87 : decode cX9_layer 87 = .ok (.ifCond .ne 9, 3) := by decide +kernel
theorem dX9_layer_90 : decode cX9_layer 90 = .ok (.aload_n 0, 1) := by decide +kernel
theorem dX9_layer_91 : decode cX9_layer 91 = .ok (.iconst 2, 1) := by decide +kernel
theorem dX9_layer_92 : decode cX9_layer 92 = .ok (.invokevirtual 96, 3) := by decide +kernel
theorem dX9_layer_95 : decode cX9_layer 95 = .ok (.ireturn, 1) := by decide +kernel
theorem dX9_layer_96 : decode cX9_layer 96 = .ok (.aload 5, 2) := by decide +kernel
theorem dX9_layer_98 : decode cX9_layer 98 = .ok (.iload_n 2, 1) := by decide +kernel
theorem dX9_layer_99 : decode cX9_layer 99 = .ok (.iload_n 3, 1) := by decide +kernel
theorem dX9_layer_100 : decode cX9_layer 100 = .ok (.iload 4, 2) := by decide +kernel
theorem dX9_layer_102 : decode cX9_layer 102 = .ok (.invokevirtual 234, 3) := by decide +kernel
theorem dX9_layer_105 : decode cX9_layer 105 = .ok (.aload 5, 2) := by decide +kernel
theorem dX9_layer_107 : decode cX9_layer 107 = .ok (.getfield 238, 3) := by decide +kernel
theorem dX9_layer_110 : decode cX9_layer 110 = .ok (.ireturn, 1) := by decide +kernel
set_option maxRecDepth 20000 in
theorem ggX9_bare_X9_isLine : GoodIn wsX9_bare wsX9_isLine := goodIn_r _ [6] (by decide +kernel) (by decide +kernel)
set_option maxRecDepth 20000 in
theorem gX9_bare_X9_isLine : GoodIn wsX9_bare (va_wsS RX9 189 yX9_isLine wsX9_isLine) := goodIn_app (goodIn_of _ (by decide +kernel)) ggX9_bare_X9_isLine
theorem dX9_bare_0 : decode cX9_bare 0 = .ok (.iload_n 1, 1) := by decide +kernel
theorem dX9_bare_1 : decode cX9_bare 1 = .ok (.invokestatic 189, 3) := by decide +kernel
theorem dX9_bare_4 : decode cX9_bare 4 = .ok (.ifCond .ne 5, 3) := by decide +kernel
theorem dX9_bare_7 : decode cX9_bare 7 = .ok (.iconst (-1), 1) := by decide +kernel
theorem dX9_bare_8 : decode cX9_bare 8 = .ok (.ireturn, 1) := by decide +kernel
theorem dX9_bare_9 : decode cX9_bare 9 = .ok (.aload_n 0, 1) := by decide +kernel
theorem dX9_bare_10 : decode cX9_bare 10 = .ok (.getfield 25, 3) := by decide +kernel
theorem dX9_bare_13 : decode cX9_bare 13 = .ok (.iload_n 1, 1) := by decide +kernel
theorem dX9_bare_14 : decode cX9_bare 14 = .ok (.aaload, 1) := by decide +kernel
theorem dX9_bare_15 : decode cX9_bare 15 = .ok (.getfield 238, 3) := by decide +kernel
theorem dX9_bare_18 : decode cX9_bare 18 = .ok (.istore_n 2, 1) := by decide +kernel
theorem dX9_bare_19 : decode cX9_bare 19 = .ok (.aload_n 0, 1) := by decide +kernel
theorem dX9_bare_20 : decode cX9_bare 20 = .ok (.getfield 25, 3) := by decide +kernel
theorem dX9_bare_23 : decode cX9_bare 23 = .ok (.iload_n 1, 1) := by decide +kernel
theorem dX9_bare_24 : decode cX9_bare 24 = .ok (.aaload, 1) := by decide +kernel
theorem dX9_bare_25 : decode cX9_bare 25 = .ok (.iconst 0, 1) := by decide +kernel
theorem dX9_bare_26 : decode cX9_bare 26 = .ok (.putfield 238, 3) := by decide +kernel
theorem dX9_bare_29 : decode cX9_bare 29 = .ok (.iload_n 2, 1) := by decide +kernel
theorem dX9_bare_30 : decode cX9_bare 30 = .ok (.ireturn, 1) := by decide +kernel
set_option maxRecDepth 20000 in
theorem ggX9_layerTold_X9_isLine : GoodIn wsX9_layerTold wsX9_isLine := goodIn_r _ [6] (by decide +kernel) (by decide +kernel)
set_option maxRecDepth 20000 in
theorem gX9_layerTold_X9_isLine : GoodIn wsX9_layerTold (va_wsS RX9 189 yX9_isLine wsX9_isLine) := goodIn_app (goodIn_of _ (by decide +kernel)) ggX9_layerTold_X9_isLine
set_option maxRecDepth 20000 in
theorem ggX9_layerTold_X2_factOf : GoodIn wsX9_layerTold wsX2_factOf := goodIn_r _ [11, 12, 13, 14, 29, 30, 31, 32, 33] (by decide +kernel) (by decide +kernel)
set_option maxRecDepth 20000 in
theorem gX9_layerTold_X2_factOf : GoodIn wsX9_layerTold (wsV RX9 241 RX2 yX2_factOf wsX2_factOf) := goodIn_app (goodIn_of _ (by decide +kernel)) ggX9_layerTold_X2_factOf
theorem dX9_layerTold_0 : decode cX9_layerTold 0 = .ok (.iload_n 1, 1) := by decide +kernel
theorem dX9_layerTold_1 : decode cX9_layerTold 1 = .ok (.invokestatic 189, 3) := by decide +kernel
theorem dX9_layerTold_4 : decode cX9_layerTold 4 = .ok (.ifCond .eq 12, 3) := by decide +kernel
theorem dX9_layerTold_7 : decode cX9_layerTold 7 = .ok (.iload_n 3, 1) := by decide +kernel
theorem dX9_layerTold_8 : decode cX9_layerTold 8 = .ok (.ifCond .lt 8, 3) := by decide +kernel
theorem dX9_layerTold_11 : decode cX9_layerTold 11 = .ok (.iload_n 3, 1) := by decide +kernel
theorem dX9_layerTold_12 : decode cX9_layerTold 12 = .ok (.iconst 2, 1) := by decide +kernel
theorem dX9_layerTold_13 : decode cX9_layerTold 13 = .ok (.if_icmp .le 5, 3) := by decide +kernel
theorem dX9_layerTold_16 : decode cX9_layerTold 16 = .ok (.iconst (-1), 1) := by decide +kernel
theorem dX9_layerTold_17 : decode cX9_layerTold 17 = .ok (.ireturn, 1) := by decide +kernel
theorem dX9_layerTold_18 : decode cX9_layerTold 18 = .ok (.iload_n 2, 1) := by decide +kernel
theorem dX9_layerTold_19 : decode cX9_layerTold 19 = .ok (.ifCond .lt 16, 3) := by decide +kernel
theorem dX9_layerTold_22 : decode cX9_layerTold 22 = .ok (.iload_n 2, 1) := by decide +kernel
theorem dX9_layerTold_23 : decode cX9_layerTold 23 = .ok (.aload_n 0, 1) := by decide +kernel
theorem dX9_layerTold_24 : decode cX9_layerTold 24 = .ok (.getfield 25, 3) := by decide +kernel
theorem dX9_layerTold_27 : decode cX9_layerTold 27 = .ok (.iload_n 1, 1) := by decide +kernel
theorem dX9_layerTold_28 : decode cX9_layerTold 28 = .ok (.aaload, 1) := by decide +kernel
theorem dX9_layerTold_29 : decode cX9_layerTold 29 = .ok (.getfield 238, 3) := by decide +kernel
theorem dX9_layerTold_32 : decode cX9_layerTold 32 = .ok (.if_icmp .lt 6, 3) := by decide +kernel
theorem dX9_layerTold_35 : decode cX9_layerTold 35 = .ok (.bipush (-9), 2) := by decide +kernel
theorem dX9_layerTold_37 : decode cX9_layerTold 37 = .ok (.ireturn, 1) := by decide +kernel
theorem dX9_layerTold_38 : decode cX9_layerTold 38 = .ok (.aload_n 0, 1) := by decide +kernel
theorem dX9_layerTold_39 : decode cX9_layerTold 39 = .ok (.getfield 25, 3) := by decide +kernel
theorem dX9_layerTold_42 : decode cX9_layerTold 42 = .ok (.iload_n 1, 1) := by decide +kernel
theorem dX9_layerTold_43 : decode cX9_layerTold 43 = .ok (.aaload, 1) := by decide +kernel
theorem dX9_layerTold_44 : decode cX9_layerTold 44 = .ok (.iload_n 2, 1) := by decide +kernel
theorem dX9_layerTold_45 : decode cX9_layerTold 45 = .ok (.iload_n 3, 1) := by decide +kernel
theorem dX9_layerTold_46 : decode cX9_layerTold 46 = .ok (.invokevirtual 241, 3) := by decide +kernel
theorem dX9_layerTold_49 : decode cX9_layerTold 49 = .ok (.ireturn, 1) := by decide +kernel
set_option maxRecDepth 20000 in
theorem ggX9_faded_X9_isLine : GoodIn wsX9_faded wsX9_isLine := goodIn_r _ [5] (by decide +kernel) (by decide +kernel)
set_option maxRecDepth 20000 in
theorem gX9_faded_X9_isLine : GoodIn wsX9_faded (va_wsS RX9 189 yX9_isLine wsX9_isLine) := goodIn_app (goodIn_of _ (by decide +kernel)) ggX9_faded_X9_isLine
set_option maxRecDepth 20000 in
theorem ggX9_faded_X9_fitsIn : GoodIn wsX9_faded wsX9_fitsIn := goodIn_r _ [9, 10, 11, 12, 13, 14, 15, 4, 16, 17, 18, 19, 20, 21, 22, 23, 24, 25, 26, 27, 53, 54, 55, 56, 57, 39, 40, 41, 42, 43, 44, 45, 46, 47, 48, 49, 50, 51, 52, 58, 59, 60, 61, 62, 63, 64, 65, 66, 67] (by decide +kernel) (by decide +kernel)
set_option maxRecDepth 20000 in
theorem gX9_faded_X9_fitsIn : GoodIn wsX9_faded (wsV RX9 242 RX9 yX9_fitsIn wsX9_fitsIn) := goodIn_app (goodIn_of _ (by decide +kernel)) ggX9_faded_X9_fitsIn
set_option maxRecDepth 20000 in
theorem ggX9_faded_X9_fadedIn : GoodIn wsX9_faded wsX9_fadedIn := goodIn_r _ [31, 12, 10, 11, 13, 14, 15, 4, 16, 17, 18, 19, 20, 21, 22, 23, 24, 25, 26, 27, 32, 33, 34, 35, 36, 37, 38, 53, 54, 55, 56, 57, 39, 40, 41, 42, 43, 44, 45, 46, 47, 48, 49, 50, 51, 52, 58, 59, 60, 61, 62, 63, 64, 65, 66, 67] (by decide +kernel) (by decide +kernel)
set_option maxRecDepth 20000 in
theorem gX9_faded_X9_fadedIn : GoodIn wsX9_faded (wsV RX9 246 RX9 yX9_fadedIn wsX9_fadedIn) := goodIn_app (goodIn_of _ (by decide +kernel)) ggX9_faded_X9_fadedIn
theorem dX9_faded_0 : decode cX9_faded 0 = .ok (.iload_n 1, 1) := by decide +kernel
theorem dX9_faded_1 : decode cX9_faded 1 = .ok (.invokestatic 189, 3) := by decide +kernel
theorem dX9_faded_4 : decode cX9_faded 4 = .ok (.ifCond .ne 5, 3) := by decide +kernel
theorem dX9_faded_7 : decode cX9_faded 7 = .ok (.iconst (-1), 1) := by decide +kernel
theorem dX9_faded_8 : decode cX9_faded 8 = .ok (.ireturn, 1) := by decide +kernel
theorem dX9_faded_9 : decode cX9_faded 9 = .ok (.iconst 0, 1) := by decide +kernel
theorem dX9_faded_10 : decode cX9_faded 10 = .ok (.istore_n 2, 1) := by decide +kernel
theorem dX9_faded_11 : decode cX9_faded 11 = .ok (.iconst 0, 1) := by decide +kernel
theorem dX9_faded_12 : decode cX9_faded 12 = .ok (.istore_n 3, 1) := by decide +kernel
theorem dX9_faded_13 : decode cX9_faded 13 = .ok (.iload_n 3, 1) := by decide +kernel
theorem dX9_faded_14 : decode cX9_faded 14 = .ok (.bipush 10, 2) := by decide +kernel
theorem dX9_faded_16 : decode cX9_faded 16 = .ok (.if_icmp .ge 40, 3) := by decide +kernel
theorem dX9_faded_19 : decode cX9_faded 19 = .ok (.aload_n 0, 1) := by decide +kernel
theorem dX9_faded_20 : decode cX9_faded 20 = .ok (.aload_n 0, 1) := by decide +kernel
theorem dX9_faded_21 : decode cX9_faded 21 = .ok (.getfield 25, 3) := by decide +kernel
theorem dX9_faded_24 : decode cX9_faded 24 = .ok (.iload_n 1, 1) := by decide +kernel
theorem dX9_faded_25 : decode cX9_faded 25 = .ok (.aaload, 1) := by decide +kernel
theorem dX9_faded_26 : decode cX9_faded 26 = .ok (.iload_n 3, 1) := by decide +kernel
theorem dX9_faded_27 : decode cX9_faded 27 = .ok (.invokevirtual 242, 3) := by decide +kernel
theorem dX9_faded_30 : decode cX9_faded 30 = .ok (.ifCond .ne 6, 3) := by decide +kernel
theorem dX9_faded_33 : decode cX9_faded 33 = .ok (.bipush (-9), 2) := by decide +kernel
theorem dX9_faded_35 : decode cX9_faded 35 = .ok (.ireturn, 1) := by decide +kernel
theorem dX9_faded_36 : decode cX9_faded 36 = .ok (.iload_n 2, 1) := by decide +kernel
theorem dX9_faded_37 : decode cX9_faded 37 = .ok (.aload_n 0, 1) := by decide +kernel
theorem dX9_faded_38 : decode cX9_faded 38 = .ok (.aload_n 0, 1) := by decide +kernel
theorem dX9_faded_39 : decode cX9_faded 39 = .ok (.getfield 25, 3) := by decide +kernel
theorem dX9_faded_42 : decode cX9_faded 42 = .ok (.iload_n 1, 1) := by decide +kernel
theorem dX9_faded_43 : decode cX9_faded 43 = .ok (.aaload, 1) := by decide +kernel
theorem dX9_faded_44 : decode cX9_faded 44 = .ok (.iload_n 3, 1) := by decide +kernel
theorem dX9_faded_45 : decode cX9_faded 45 = .ok (.invokevirtual 246, 3) := by decide +kernel
theorem dX9_faded_48 : decode cX9_faded 48 = .ok (.iadd, 1) := by decide +kernel
theorem dX9_faded_49 : decode cX9_faded 49 = .ok (.istore_n 2, 1) := by decide +kernel
theorem dX9_faded_50 : decode cX9_faded 50 = .ok (.iinc 3 1, 3) := by decide +kernel
theorem dX9_faded_53 : decode cX9_faded 53 = .ok (.goto (-40), 3) := by decide +kernel
theorem dX9_faded_56 : decode cX9_faded 56 = .ok (.iload_n 2, 1) := by decide +kernel
theorem dX9_faded_57 : decode cX9_faded 57 = .ok (.ireturn, 1) := by decide +kernel
set_option maxRecDepth 20000 in
theorem ggX9_two_X9_isLine : GoodIn wsX9_two wsX9_isLine := goodIn_r _ [13] (by decide +kernel) (by decide +kernel)
set_option maxRecDepth 20000 in
theorem gX9_two_X9_isLine : GoodIn wsX9_two (va_wsS RX9 189 yX9_isLine wsX9_isLine) := goodIn_app (goodIn_of _ (by decide +kernel)) ggX9_two_X9_isLine
set_option maxRecDepth 20000 in
theorem ggX9_two_X9_isColour : GoodIn wsX9_two wsX9_isColour := goodIn_r _ [16] (by decide +kernel) (by decide +kernel)
set_option maxRecDepth 20000 in
theorem gX9_two_X9_isColour : GoodIn wsX9_two (va_wsS RX9 201 yX9_isColour wsX9_isColour) := goodIn_app (goodIn_of _ (by decide +kernel)) ggX9_two_X9_isColour
set_option maxRecDepth 20000 in
theorem ggX9_two_X9_gatherPlaces : GoodIn wsX9_two wsX9_gatherPlaces := goodIn_r _ [20, 21, 22, 23, 24, 25, 26, 27, 28, 29, 30, 31, 32, 33, 34, 35, 36, 37, 38, 39, 40, 41, 42, 12, 43, 44, 45, 46, 47, 48, 49, 50, 51, 52, 53, 54, 55, 56, 57, 58, 59, 60, 61, 62, 63, 64, 65, 66, 67, 68, 69, 70, 71, 72, 73, 74, 75, 76, 77, 139, 140, 141, 142, 143, 116, 117, 118, 119, 120, 121, 122, 123, 124, 125, 126, 127, 128, 129, 144, 145, 146, 147, 148, 149, 150, 151, 152, 153, 130, 131, 132, 133, 134] (by decide +kernel) (by decide +kernel)
set_option maxRecDepth 20000 in
theorem gX9_two_X9_gatherPlaces : GoodIn wsX9_two (wsV RX9 211 RX9 yX9_gatherPlaces wsX9_gatherPlaces) := goodIn_app (goodIn_of _ (by decide +kernel)) ggX9_two_X9_gatherPlaces
set_option maxRecDepth 20000 in
theorem ggX9_two_X3_tries : GoodIn wsX9_two wsX3_tries := goodIn_r _ [82, 83, 84, 139, 140, 141, 142, 143] (by decide +kernel) (by decide +kernel)
set_option maxRecDepth 20000 in
theorem gX9_two_X3_tries : GoodIn wsX9_two (wsV RX9 250 RX3 yX3_tries wsX3_tries) := goodIn_app (goodIn_of _ (by decide +kernel)) ggX9_two_X3_tries
set_option maxRecDepth 20000 in
theorem ggX9_two_X2_shows : GoodIn wsX9_two wsX2_shows := goodIn_r _ [88, 56, 130, 131, 132, 133, 134] (by decide +kernel) (by decide +kernel)
set_option maxRecDepth 20000 in
theorem gX9_two_X2_shows : GoodIn wsX9_two (wsV RX9 254 RX2 yX2_shows wsX2_shows) := goodIn_app (goodIn_of _ (by decide +kernel)) ggX9_two_X2_shows
set_option maxRecDepth 20000 in
theorem ggX9_two_X3_seek : GoodIn wsX9_two wsX3_seek := goodIn_r _ [92, 93, 83, 84, 94, 95, 96, 97, 98, 81, 99, 100, 101, 102, 135, 136, 137, 138, 139, 140, 141, 142, 143] (by decide +kernel) (by decide +kernel)
set_option maxRecDepth 20000 in
theorem gX9_two_X3_seek : GoodIn wsX9_two (wsV RX9 257 RX3 yX3_seek wsX3_seek) := goodIn_app (goodIn_of _ (by decide +kernel)) ggX9_two_X3_seek
set_option maxRecDepth 20000 in
theorem ggX9_two_X9_addPlace : GoodIn wsX9_two wsX9_addPlace := goodIn_r _ [105, 106, 107, 108, 109, 110, 54, 111, 112, 113, 114, 115, 139, 140, 141, 142, 143, 130, 131, 132, 133, 134] (by decide +kernel) (by decide +kernel)
set_option maxRecDepth 20000 in
theorem gX9_two_X9_addPlace : GoodIn wsX9_two (va_wsS RX9 268 yX9_addPlace wsX9_addPlace) := goodIn_app (goodIn_of _ (by decide +kernel)) ggX9_two_X9_addPlace
theorem dX9_two_0 : decode cX9_two 0 = .ok (.iload_n 1, 1) := by decide +kernel
theorem dX9_two_1 : decode cX9_two 1 = .ok (.invokestatic 189, 3) := by decide +kernel
theorem dX9_two_4 : decode cX9_two 4 = .ok (.ifCond .eq 22, 3) := by decide +kernel
theorem dX9_two_7 : decode cX9_two 7 = .ok (.iload_n 2, 1) := by decide +kernel
theorem dX9_two_8 : decode cX9_two 8 = .ok (.invokestatic 201, 3) := by decide +kernel
theorem dX9_two_11 : decode cX9_two 11 = .ok (.ifCond .eq 15, 3) := by decide +kernel
theorem dX9_two_14 : decode cX9_two 14 = .ok (.iload_n 3, 1) := by decide +kernel
theorem dX9_two_15 : decode cX9_two 15 = .ok (.invokestatic 201, 3) := by decide +kernel
theorem dX9_two_18 : decode cX9_two 18 = .ok (.ifCond .eq 8, 3) := by decide +kernel
theorem dX9_two_21 : decode cX9_two 21 = .ok (.iload_n 2, 1) := by decide +kernel
theorem dX9_two_22 : decode cX9_two 22 = .ok (.iload_n 3, 1) := by decide +kernel
theorem dX9_two_23 : decode cX9_two 23 = .ok (.if_icmp .ne 5, 3) := by decide +kernel
theorem dX9_two_26 : decode cX9_two 26 = .ok (.iconst (-1), 1) := by decide +kernel
theorem dX9_two_27 : decode cX9_two 27 = .ok (.ireturn, 1) := by decide +kernel
theorem dX9_two_28 : decode cX9_two 28 = .ok (.iload 4, 2) := by decide +kernel
theorem dX9_two_30 : decode cX9_two 30 = .ok (.iconst 1, 1) := by decide +kernel
theorem dX9_two_31 : decode cX9_two 31 = .ok (.if_icmp .lt 11, 3) := by decide +kernel
theorem dX9_two_34 : decode cX9_two 34 = .ok (.iload 4, 2) := by decide +kernel
theorem dX9_two_36 : decode cX9_two 36 = .ok (.sipush 20000, 3) := by decide +kernel
theorem dX9_two_39 : decode cX9_two 39 = .ok (.if_icmp .le 5, 3) := by decide +kernel
theorem dX9_two_42 : decode cX9_two 42 = .ok (.iconst (-1), 1) := by decide +kernel
theorem dX9_two_43 : decode cX9_two 43 = .ok (.ireturn, 1) := by decide +kernel
theorem dX9_two_44 : decode cX9_two 44 = .ok (.aload_n 0, 1) := by decide +kernel
theorem dX9_two_45 : decode cX9_two 45 = .ok (.getfield 25, 3) := by decide +kernel
theorem dX9_two_48 : decode cX9_two 48 = .ok (.iload_n 1, 1) := by decide +kernel
theorem dX9_two_49 : decode cX9_two 49 = .ok (.aaload, 1) := by decide +kernel
theorem dX9_two_50 : decode cX9_two 50 = .ok (.astore 5, 2) := by decide +kernel
theorem dX9_two_52 : decode cX9_two 52 = .ok (.aload_n 0, 1) := by decide +kernel
theorem dX9_two_53 : decode cX9_two 53 = .ok (.aload 5, 2) := by decide +kernel
theorem dX9_two_55 : decode cX9_two 55 = .ok (.iload_n 2, 1) := by decide +kernel
theorem dX9_two_56 : decode cX9_two 56 = .ok (.aload_n 0, 1) := by decide +kernel
theorem dX9_two_57 : decode cX9_two 57 = .ok (.getfield 61, 3) := by decide +kernel
theorem dX9_two_60 : decode cX9_two 60 = .ok (.invokevirtual 211, 3) := by decide +kernel
theorem dX9_two_63 : decode cX9_two 63 = .ok (.aload_n 0, 1) := by decide +kernel
theorem dX9_two_64 : decode cX9_two 64 = .ok (.aload 5, 2) := by decide +kernel
theorem dX9_two_66 : decode cX9_two 66 = .ok (.iload_n 3, 1) := by decide +kernel
theorem dX9_two_67 : decode cX9_two 67 = .ok (.aload_n 0, 1) := by decide +kernel
theorem dX9_two_68 : decode cX9_two 68 = .ok (.getfield 65, 3) := by decide +kernel
theorem dX9_two_71 : decode cX9_two 71 = .ok (.invokevirtual 211, 3) := by decide +kernel
theorem dX9_two_74 : decode cX9_two 74 = .ok (.aload_n 0, 1) := by decide +kernel
theorem dX9_two_75 : decode cX9_two 75 = .ok (.getfield 71, 3) := by decide +kernel
theorem dX9_two_78 : decode cX9_two 78 = .ok (.aload_n 0, 1) := by decide +kernel
theorem dX9_two_79 : decode cX9_two 79 = .ok (.getfield 61, 3) := by decide +kernel
theorem dX9_two_82 : decode cX9_two 82 = .ok (.aload_n 0, 1) := by decide +kernel
theorem dX9_two_83 : decode cX9_two 83 = .ok (.getfield 65, 3) := by decide +kernel
theorem dX9_two_86 : decode cX9_two 86 = .ok (.invokevirtual 250, 3) := by decide +kernel
theorem dX9_two_89 : decode cX9_two 89 = .ok (.iload 4, 2) := by decide +kernel
theorem dX9_two_91 : decode cX9_two 91 = .ok (.if_icmp .le 6, 3) := by decide +kernel
theorem dX9_two_94 : decode cX9_two 94 = .ok (.bipush (-6), 2) := by decide +kernel
theorem dX9_two_96 : decode cX9_two 96 = .ok (.ireturn, 1) := by decide +kernel
theorem dX9_two_97 : decode cX9_two 97 = .ok (.bipush 6, 2) := by decide +kernel
theorem dX9_two_99 : decode cX9_two 99 = .ok (.iload_n 2, 1) := by decide +kernel
theorem dX9_two_100 : decode cX9_two 100 = .ok (.isub, 1) := by decide +kernel
