theorem dX10_bare_23 : decode cX10_bare 23 = .ok (.iload_n 2, 1) := by decide +kernel
theorem dX10_bare_24 : decode cX10_bare 24 = .ok (.ireturn, 1) := by decide +kernel
set_option maxRecDepth 20000 in
theorem ggX10_layerTold_X10_isLine : GoodIn wsX10_layerTold wsX10_isLine := goodIn_r _ [8, 9, 10, 7, 11] (by decide +kernel) (by decide +kernel)
set_option maxRecDepth 20000 in
theorem gX10_layerTold_X10_isLine : GoodIn wsX10_layerTold (va_wsS RX10 173 yX10_isLine wsX10_isLine) := goodIn_app (goodIn_of _ (by decide +kernel)) ggX10_layerTold_X10_isLine
set_option maxRecDepth 20000 in
theorem ggX10_layerTold_X10_in : GoodIn wsX10_layerTold wsX10_in := goodIn_r _ [11] (by decide +kernel) (by decide +kernel)
set_option maxRecDepth 20000 in
theorem gX10_layerTold_X10_in : GoodIn wsX10_layerTold (va_wsS RX10 120 yX10_in wsX10_in) := goodIn_app (goodIn_of _ (by decide +kernel)) ggX10_layerTold_X10_in
theorem dX10_layerTold_0 : decode cX10_layerTold 0 = .ok (.iload_n 1, 1) := by decide +kernel
theorem dX10_layerTold_1 : decode cX10_layerTold 1 = .ok (.invokestatic 173, 3) := by decide +kernel
theorem dX10_layerTold_4 : decode cX10_layerTold 4 = .ok (.ifCond .eq 12, 3) := by decide +kernel
theorem dX10_layerTold_7 : decode cX10_layerTold 7 = .ok (.iload_n 3, 1) := by decide +kernel
theorem dX10_layerTold_8 : decode cX10_layerTold 8 = .ok (.iconst 0, 1) := by decide +kernel
theorem dX10_layerTold_9 : decode cX10_layerTold 9 = .ok (.iconst 2, 1) := by decide +kernel
theorem dX10_layerTold_10 : decode cX10_layerTold 10 = .ok (.invokestatic 120, 3) := by decide +kernel
theorem dX10_layerTold_13 : decode cX10_layerTold 13 = .ok (.ifCond .ne 5, 3) := by decide +kernel
theorem dX10_layerTold_16 : decode cX10_layerTold 16 = .ok (.iconst (-1), 1) := by decide +kernel
theorem dX10_layerTold_17 : decode cX10_layerTold 17 = .ok (.ireturn, 1) := by decide +kernel
theorem dX10_layerTold_18 : decode cX10_layerTold 18 = .ok (.iconst 3, 1) := by decide +kernel
theorem dX10_layerTold_19 : decode cX10_layerTold 19 = .ok (.iload_n 1, 1) := by decide +kernel
theorem dX10_layerTold_20 : decode cX10_layerTold 20 = .ok (.imul, 1) := by decide +kernel
theorem dX10_layerTold_21 : decode cX10_layerTold 21 = .ok (.iload_n 2, 1) := by decide +kernel
theorem dX10_layerTold_22 : decode cX10_layerTold 22 = .ok (.iadd, 1) := by decide +kernel
theorem dX10_layerTold_23 : decode cX10_layerTold 23 = .ok (.istore 4, 2) := by decide +kernel
theorem dX10_layerTold_25 : decode cX10_layerTold 25 = .ok (.iload_n 2, 1) := by decide +kernel
theorem dX10_layerTold_26 : decode cX10_layerTold 26 = .ok (.iconst 0, 1) := by decide +kernel
theorem dX10_layerTold_27 : decode cX10_layerTold 27 = .ok (.aload_n 0, 1) := by decide +kernel
theorem dX10_layerTold_28 : decode cX10_layerTold 28 = .ok (.getfield 56, 3) := by decide +kernel
theorem dX10_layerTold_31 : decode cX10_layerTold 31 = .ok (.iload_n 1, 1) := by decide +kernel
theorem dX10_layerTold_32 : decode cX10_layerTold 32 = .ok (.iaload, 1) := by decide +kernel
theorem dX10_layerTold_33 : decode cX10_layerTold 33 = .ok (.iconst 1, 1) := by decide +kernel
theorem dX10_layerTold_34 : decode cX10_layerTold 34 = .ok (.isub, 1) := by decide +kernel
theorem dX10_layerTold_35 : decode cX10_layerTold 35 = .ok (.invokestatic 120, 3) := by decide +kernel
theorem dX10_layerTold_38 : decode cX10_layerTold 38 = .ok (.ifCond .ne 8, 3) := by decide +kernel
theorem dX10_layerTold_41 : decode cX10_layerTold 41 = .ok (.bipush (-9), 2) := by decide +kernel
theorem dX10_layerTold_43 : decode cX10_layerTold 43 = .ok (.goto 39, 3) := by decide +kernel
theorem dX10_layerTold_46 : decode cX10_layerTold 46 = .ok (.iload_n 3, 1) := by decide +kernel
theorem dX10_layerTold_47 : decode cX10_layerTold 47 = .ok (.ifCond .ne 13, 3) := by decide +kernel
theorem dX10_layerTold_50 : decode cX10_layerTold 50 = .ok (.aload_n 0, 1) := by decide +kernel
theorem dX10_layerTold_51 : decode cX10_layerTold 51 = .ok (.getfield 59, 3) := by decide +kernel
theorem dX10_layerTold_54 : decode cX10_layerTold 54 = .ok (.iload 4, 2) := by decide +kernel
theorem dX10_layerTold_56 : decode cX10_layerTold 56 = .ok (.iaload, 1) := by decide +kernel
theorem dX10_layerTold_57 : decode cX10_layerTold 57 = .ok (.goto 25, 3) := by decide +kernel
theorem dX10_layerTold_60 : decode cX10_layerTold 60 = .ok (.iload_n 3, 1) := by decide +kernel
theorem dX10_layerTold_61 : decode cX10_layerTold 61 = .ok (.iconst 1, 1) := by decide +kernel
theorem dX10_layerTold_62 : decode cX10_layerTold 62 = .ok (.if_icmp .ne 13, 3) := by decide +kernel
theorem dX10_layerTold_65 : decode cX10_layerTold 65 = .ok (.aload_n 0, 1) := by decide +kernel
theorem dX10_layerTold_66 : decode cX10_layerTold 66 = .ok (.getfield 62, 3) := by decide +kernel
theorem dX10_layerTold_69 : decode cX10_layerTold 69 = .ok (.iload 4, 2) := by decide +kernel
theorem dX10_layerTold_71 : decode cX10_layerTold 71 = .ok (.iaload, 1) := by decide +kernel
theorem dX10_layerTold_72 : decode cX10_layerTold 72 = .ok (.goto 10, 3) := by decide +kernel
theorem dX10_layerTold_75 : decode cX10_layerTold 75 = .ok (.aload_n 0, 1) := by decide +kernel
theorem dX10_layerTold_76 : decode cX10_layerTold 76 = .ok (.getfield 65, 3) := by decide +kernel
theorem dX10_layerTold_79 : decode cX10_layerTold 79 = .ok (.iload 4, 2) := by decide +kernel
theorem dX10_layerTold_81 : decode cX10_layerTold 81 = .ok (.iaload, 1) := by decide +kernel
theorem dX10_layerTold_82 : decode cX10_layerTold 82 = .ok (.ireturn, 1) := by decide +kernel
set_option maxRecDepth 20000 in
theorem ggX10_fadedOf_X10_has : GoodIn wsX10_fadedOf wsX10_has := goodIn_r _ [10, 11, 12, 13, 14, 15, 9, 16, 17, 18, 19, 20, 21, 22, 23, 24, 25, 26, 27, 28, 29, 30, 31, 32, 33, 34, 35, 36, 37, 38, 39, 40, 41, 42, 43, 44, 45, 46, 47, 48, 49, 50, 51, 52, 53, 54, 55, 56, 57, 58, 59, 60] (by decide +kernel) (by decide +kernel)
set_option maxRecDepth 20000 in
theorem gX10_fadedOf_X10_has : GoodIn wsX10_fadedOf (wsV RX10 179 RX10 yX10_has wsX10_has) := goodIn_app (goodIn_of _ (by decide +kernel)) ggX10_fadedOf_X10_has
theorem dX10_fadedOf_0 : decode cX10_fadedOf 0 = .ok (.iconst 0, 1) := by decide +kernel
theorem dX10_fadedOf_1 : decode cX10_fadedOf 1 = .ok (.istore_n 2, 1) := by decide +kernel
theorem dX10_fadedOf_2 : decode cX10_fadedOf 2 = .ok (.iconst 0, 1) := by decide +kernel
theorem dX10_fadedOf_3 : decode cX10_fadedOf 3 = .ok (.istore_n 3, 1) := by decide +kernel
theorem dX10_fadedOf_4 : decode cX10_fadedOf 4 = .ok (.iload_n 3, 1) := by decide +kernel
theorem dX10_fadedOf_5 : decode cX10_fadedOf 5 = .ok (.sipush 150, 3) := by decide +kernel
theorem dX10_fadedOf_8 : decode cX10_fadedOf 8 = .ok (.if_icmp .ge 148, 3) := by decide +kernel
theorem dX10_fadedOf_11 : decode cX10_fadedOf 11 = .ok (.aload_n 0, 1) := by decide +kernel
theorem dX10_fadedOf_12 : decode cX10_fadedOf 12 = .ok (.getfield 50, 3) := by decide +kernel
theorem dX10_fadedOf_15 : decode cX10_fadedOf 15 = .ok (.sipush 150, 3) := by decide +kernel
theorem dX10_fadedOf_18 : decode cX10_fadedOf 18 = .ok (.iload_n 1, 1) := by decide +kernel
theorem dX10_fadedOf_19 : decode cX10_fadedOf 19 = .ok (.imul, 1) := by decide +kernel
theorem dX10_fadedOf_20 : decode cX10_fadedOf 20 = .ok (.iload_n 3, 1) := by decide +kernel
theorem dX10_fadedOf_21 : decode cX10_fadedOf 21 = .ok (.iadd, 1) := by decide +kernel
theorem dX10_fadedOf_22 : decode cX10_fadedOf 22 = .ok (.iaload, 1) := by decide +kernel
theorem dX10_fadedOf_23 : decode cX10_fadedOf 23 = .ok (.istore 4, 2) := by decide +kernel
theorem dX10_fadedOf_25 : decode cX10_fadedOf 25 = .ok (.iconst 0, 1) := by decide +kernel
theorem dX10_fadedOf_26 : decode cX10_fadedOf 26 = .ok (.istore 5, 2) := by decide +kernel
theorem dX10_fadedOf_28 : decode cX10_fadedOf 28 = .ok (.aload_n 0, 1) := by decide +kernel
theorem dX10_fadedOf_29 : decode cX10_fadedOf 29 = .ok (.getfield 56, 3) := by decide +kernel
theorem dX10_fadedOf_32 : decode cX10_fadedOf 32 = .ok (.iload_n 1, 1) := by decide +kernel
theorem dX10_fadedOf_33 : decode cX10_fadedOf 33 = .ok (.iaload, 1) := by decide +kernel
theorem dX10_fadedOf_34 : decode cX10_fadedOf 34 = .ok (.iconst 1, 1) := by decide +kernel
theorem dX10_fadedOf_35 : decode cX10_fadedOf 35 = .ok (.isub, 1) := by decide +kernel
theorem dX10_fadedOf_36 : decode cX10_fadedOf 36 = .ok (.istore 6, 2) := by decide +kernel
theorem dX10_fadedOf_38 : decode cX10_fadedOf 38 = .ok (.iload 6, 2) := by decide +kernel
theorem dX10_fadedOf_40 : decode cX10_fadedOf 40 = .ok (.ifCond .lt 91, 3) := by decide +kernel
theorem dX10_fadedOf_43 : decode cX10_fadedOf 43 = .ok (.iload 5, 2) := by decide +kernel
theorem dX10_fadedOf_45 : decode cX10_fadedOf 45 = .ok (.ifCond .ne 86, 3) := by decide +kernel
theorem dX10_fadedOf_48 : decode cX10_fadedOf 48 = .ok (.iconst 3, 1) := by decide +kernel
theorem dX10_fadedOf_49 : decode cX10_fadedOf 49 = .ok (.iload_n 1, 1) := by decide +kernel
theorem dX10_fadedOf_50 : decode cX10_fadedOf 50 = .ok (.imul, 1) := by decide +kernel
theorem dX10_fadedOf_51 : decode cX10_fadedOf 51 = .ok (.iload 6, 2) := by decide +kernel
theorem dX10_fadedOf_53 : decode cX10_fadedOf 53 = .ok (.iadd, 1) := by decide +kernel
theorem dX10_fadedOf_54 : decode cX10_fadedOf 54 = .ok (.istore 7, 2) := by decide +kernel
theorem dX10_fadedOf_56 : decode cX10_fadedOf 56 = .ok (.aload_n 0, 1) := by decide +kernel
theorem dX10_fadedOf_57 : decode cX10_fadedOf 57 = .ok (.aload_n 0, 1) := by decide +kernel
theorem dX10_fadedOf_58 : decode cX10_fadedOf 58 = .ok (.getfield 59, 3) := by decide +kernel
theorem dX10_fadedOf_61 : decode cX10_fadedOf 61 = .ok (.iload 7, 2) := by decide +kernel
theorem dX10_fadedOf_63 : decode cX10_fadedOf 63 = .ok (.iaload, 1) := by decide +kernel
theorem dX10_fadedOf_64 : decode cX10_fadedOf 64 = .ok (.aload_n 0, 1) := by decide +kernel
theorem dX10_fadedOf_65 : decode cX10_fadedOf 65 = .ok (.getfield 62, 3) := by decide +kernel
theorem dX10_fadedOf_68 : decode cX10_fadedOf 68 = .ok (.iload 7, 2) := by decide +kernel
theorem dX10_fadedOf_70 : decode cX10_fadedOf 70 = .ok (.iaload, 1) := by decide +kernel
theorem dX10_fadedOf_71 : decode cX10_fadedOf 71 = .ok (.iload_n 3, 1) := by decide +kernel
theorem dX10_fadedOf_72 : decode cX10_fadedOf 72 = .ok (.invokevirtual 179, 3) := by decide +kernel
theorem dX10_fadedOf_75 : decode cX10_fadedOf 75 = .ok (.istore 8, 2) := by decide +kernel
theorem dX10_fadedOf_77 : decode cX10_fadedOf 77 = .ok (.iload 8, 2) := by decide +kernel
theorem dX10_fadedOf_79 : decode cX10_fadedOf 79 = .ok (.ifCond .eq 19, 3) := by decide +kernel
theorem dX10_fadedOf_82 : decode cX10_fadedOf 82 = .ok (.aload_n 0, 1) := by decide +kernel
theorem dX10_fadedOf_83 : decode cX10_fadedOf 83 = .ok (.getfield 65, 3) := by decide +kernel
theorem dX10_fadedOf_86 : decode cX10_fadedOf 86 = .ok (.iload 7, 2) := by decide +kernel
theorem dX10_fadedOf_88 : decode cX10_fadedOf 88 = .ok (.iaload, 1) := by decide +kernel
theorem dX10_fadedOf_89 : decode cX10_fadedOf 89 = .ok (.iload 4, 2) := by decide +kernel
theorem dX10_fadedOf_91 : decode cX10_fadedOf 91 = .ok (.if_icmp .ne 7, 3) := by decide +kernel
theorem dX10_fadedOf_94 : decode cX10_fadedOf 94 = .ok (.iconst 1, 1) := by decide +kernel
theorem dX10_fadedOf_95 : decode cX10_fadedOf 95 = .ok (.goto 4, 3) := by decide +kernel
theorem dX10_fadedOf_98 : decode cX10_fadedOf 98 = .ok (.iconst 0, 1) := by decide +kernel
theorem dX10_fadedOf_99 : decode cX10_fadedOf 99 = .ok (.istore 5, 2) := by decide +kernel
theorem dX10_fadedOf_101 : decode cX10_fadedOf 101 = .ok (.iload_n 2, 1) := by decide +kernel
theorem dX10_fadedOf_102 : decode cX10_fadedOf 102 = .ok (.iload 8, 2) := by decide +kernel
theorem dX10_fadedOf_104 : decode cX10_fadedOf 104 = .ok (.ifCond .eq 18, 3) := by decide +kernel
theorem dX10_fadedOf_107 : decode cX10_fadedOf 107 = .ok (.iload 4, 2) := by decide +kernel
theorem dX10_fadedOf_109 : decode cX10_fadedOf 109 = .ok (.iconst 4, 1) := by decide +kernel
theorem dX10_fadedOf_110 : decode cX10_fadedOf 110 = .ok (.if_icmp .eq 12, 3) := by decide +kernel
theorem dX10_fadedOf_113 : decode cX10_fadedOf 113 = .ok (.iload 5, 2) := by decide +kernel
theorem dX10_fadedOf_115 : decode cX10_fadedOf 115 = .ok (.ifCond .ne 7, 3) := by decide +kernel
theorem dX10_fadedOf_118 : decode cX10_fadedOf 118 = .ok (.iconst 1, 1) := by decide +kernel
theorem dX10_fadedOf_119 : decode cX10_fadedOf 119 = .ok (.goto 4, 3) := by decide +kernel
theorem dX10_fadedOf_122 : decode cX10_fadedOf 122 = .ok (.iconst 0, 1) := by decide +kernel
theorem dX10_fadedOf_123 : decode cX10_fadedOf 123 = .ok (.iadd, 1) := by decide +kernel
theorem dX10_fadedOf_124 : decode cX10_fadedOf 124 = .ok (.istore_n 2, 1) := by decide +kernel
theorem dX10_fadedOf_125 : decode cX10_fadedOf 125 = .ok (.iinc 6 (-1), 3) := by decide +kernel
theorem dX10_fadedOf_128 : decode cX10_fadedOf 128 = .ok (.goto (-90), 3) := by decide +kernel
theorem dX10_fadedOf_131 : decode cX10_fadedOf 131 = .ok (.iload 5, 2) := by decide +kernel
theorem dX10_fadedOf_133 : decode cX10_fadedOf 133 = .ok (.ifCond .ne 17, 3) := by decide +kernel
theorem dX10_fadedOf_136 : decode cX10_fadedOf 136 = .ok (.iload 4, 2) := by decide +kernel
theorem dX10_fadedOf_138 : decode cX10_fadedOf 138 = .ok (.ifCond .eq 12, 3) := by decide +kernel
theorem dX10_fadedOf_141 : decode cX10_fadedOf 141 = .ok (.iload 4, 2) := by decide +kernel
theorem dX10_fadedOf_143 : decode cX10_fadedOf 143 = .ok (.iconst 4, 1) := by decide +kernel
theorem dX10_fadedOf_144 : decode cX10_fadedOf 144 = .ok (.if_icmp .eq 6, 3) := by decide +kernel
theorem dX10_fadedOf_147 : decode cX10_fadedOf 147 = .ok (.bipush (-9), 2) := by decide +kernel
theorem dX10_fadedOf_149 : decode cX10_fadedOf 149 = .ok (.ireturn, 1) := by decide +kernel
theorem dX10_fadedOf_150 : decode cX10_fadedOf 150 = .ok (.iinc 3 1, 3) := by decide +kernel
theorem dX10_fadedOf_153 : decode cX10_fadedOf 153 = .ok (.goto (-149), 3) := by decide +kernel
theorem dX10_fadedOf_156 : decode cX10_fadedOf 156 = .ok (.iload_n 2, 1) := by decide +kernel
theorem dX10_fadedOf_157 : decode cX10_fadedOf 157 = .ok (.ireturn, 1) := by decide +kernel
set_option maxRecDepth 20000 in
theorem ggX10_faded_X10_isLine : GoodIn wsX10_faded wsX10_isLine := goodIn_r _ [4, 5, 6, 3, 7] (by decide +kernel) (by decide +kernel)
set_option maxRecDepth 20000 in
theorem gX10_faded_X10_isLine : GoodIn wsX10_faded (va_wsS RX10 173 yX10_isLine wsX10_isLine) := goodIn_app (goodIn_of _ (by decide +kernel)) ggX10_faded_X10_isLine
set_option maxRecDepth 20000 in
theorem ggX10_faded_X10_fadedOf : GoodIn wsX10_faded wsX10_fadedOf := goodIn_r _ [11, 12, 13, 14, 15, 16, 17, 18, 19, 3, 20, 21, 22, 23, 5, 6, 7, 24, 25, 26, 27, 28, 29, 30, 31, 32, 33, 34, 35, 36, 37, 38, 39, 40, 41, 42, 43, 44, 45, 46, 47, 48, 49, 50, 51, 52, 53, 54, 55, 56, 57, 58, 59, 60, 61, 62, 63, 64, 65, 66, 67] (by decide +kernel) (by decide +kernel)
set_option maxRecDepth 20000 in
theorem gX10_faded_X10_fadedOf : GoodIn wsX10_faded (wsV RX10 207 RX10 yX10_fadedOf wsX10_fadedOf) := goodIn_app (goodIn_of _ (by decide +kernel)) ggX10_faded_X10_fadedOf
theorem dX10_faded_0 : decode cX10_faded 0 = .ok (.iload_n 1, 1) := by decide +kernel
theorem dX10_faded_1 : decode cX10_faded 1 = .ok (.invokestatic 173, 3) := by decide +kernel
theorem dX10_faded_4 : decode cX10_faded 4 = .ok (.ifCond .eq 11, 3) := by decide +kernel
theorem dX10_faded_7 : decode cX10_faded 7 = .ok (.aload_n 0, 1) := by decide +kernel
theorem dX10_faded_8 : decode cX10_faded 8 = .ok (.iload_n 1, 1) := by decide +kernel
theorem dX10_faded_9 : decode cX10_faded 9 = .ok (.invokevirtual 207, 3) := by decide +kernel
theorem dX10_faded_12 : decode cX10_faded 12 = .ok (.goto 4, 3) := by decide +kernel
theorem dX10_faded_15 : decode cX10_faded 15 = .ok (.iconst (-1), 1) := by decide +kernel
theorem dX10_faded_16 : decode cX10_faded 16 = .ok (.ireturn, 1) := by decide +kernel
set_option maxRecDepth 20000 in
theorem ggX10_tryTwo_X10_lays : GoodIn wsX10_tryTwo wsX10_lays := goodIn_r _ [8, 1, 9, 10, 11, 27, 28, 29, 30, 31, 32, 33, 34, 35, 36, 37, 38, 39, 40, 41, 42, 43, 44, 45, 46, 47, 48, 49, 50, 51, 52, 53, 54, 55, 56, 57, 58, 59, 60, 61, 62, 63, 64, 65, 66, 67, 68, 69, 70] (by decide +kernel) (by decide +kernel)
set_option maxRecDepth 20000 in
theorem gX10_tryTwo_X10_lays : GoodIn wsX10_tryTwo (wsV RX10 203 RX10 yX10_lays wsX10_lays) := goodIn_app (goodIn_of _ (by decide +kernel)) ggX10_tryTwo_X10_lays
set_option maxRecDepth 20000 in
theorem ggX10_tryTwo_X10_fadedOf : GoodIn wsX10_tryTwo wsX10_fadedOf := goodIn_r _ [15, 16, 1, 9, 10, 11, 17, 18, 19, 7, 20, 21, 22, 23, 24, 25, 26, 27, 28, 29, 30, 31, 32, 33, 34, 35, 36, 37, 38, 39, 40, 41, 42, 43, 44, 45, 46, 47, 48, 49, 50, 51, 52, 53, 54, 55, 56, 57, 58, 59, 60, 61, 62, 63, 64, 65, 66, 67, 68, 69, 70] (by decide +kernel) (by decide +kernel)
set_option maxRecDepth 20000 in
theorem gX10_tryTwo_X10_fadedOf : GoodIn wsX10_tryTwo (wsV RX10 207 RX10 yX10_fadedOf wsX10_fadedOf) := goodIn_app (goodIn_of _ (by decide +kernel)) ggX10_tryTwo_X10_fadedOf
theorem dX10_tryTwo_0 : decode cX10_tryTwo 0 = .ok (.aload_n 0, 1) := by decide +kernel
theorem dX10_tryTwo_1 : decode cX10_tryTwo 1 = .ok (.getfield 56, 3) := by decide +kernel
theorem dX10_tryTwo_4 : decode cX10_tryTwo 4 = .ok (.iload_n 1, 1) := by decide +kernel
theorem dX10_tryTwo_5 : decode cX10_tryTwo 5 = .ok (.iconst 0, 1) := by decide +kernel
theorem dX10_tryTwo_6 : decode cX10_tryTwo 6 = .ok (.iastore, 1) := by decide +kernel
theorem dX10_tryTwo_7 : decode cX10_tryTwo 7 = .ok (.aload_n 0, 1) := by decide +kernel
theorem dX10_tryTwo_8 : decode cX10_tryTwo 8 = .ok (.iload_n 1, 1) := by decide +kernel
theorem dX10_tryTwo_9 : decode cX10_tryTwo 9 = .ok (.iload_n 2, 1) := by decide +kernel
theorem dX10_tryTwo_10 : decode cX10_tryTwo 10 = .ok (.iload_n 3, 1) := by decide +kernel
theorem dX10_tryTwo_11 : decode cX10_tryTwo 11 = .ok (.iload 4, 2) := by decide +kernel
theorem dX10_tryTwo_13 : decode cX10_tryTwo 13 = .ok (.invokevirtual 203, 3) := by decide +kernel
theorem dX10_tryTwo_16 : decode cX10_tryTwo 16 = .ok (.aload_n 0, 1) := by decide +kernel
theorem dX10_tryTwo_17 : decode cX10_tryTwo 17 = .ok (.iload_n 1, 1) := by decide +kernel
theorem dX10_tryTwo_18 : decode cX10_tryTwo 18 = .ok (.iload 5, 2) := by decide +kernel
theorem dX10_tryTwo_20 : decode cX10_tryTwo 20 = .ok (.iload 6, 2) := by decide +kernel
theorem dX10_tryTwo_22 : decode cX10_tryTwo 22 = .ok (.iload 7, 2) := by decide +kernel
theorem dX10_tryTwo_24 : decode cX10_tryTwo 24 = .ok (.invokevirtual 203, 3) := by decide +kernel
theorem dX10_tryTwo_27 : decode cX10_tryTwo 27 = .ok (.aload_n 0, 1) := by decide +kernel
theorem dX10_tryTwo_28 : decode cX10_tryTwo 28 = .ok (.iload_n 1, 1) := by decide +kernel
theorem dX10_tryTwo_29 : decode cX10_tryTwo 29 = .ok (.invokevirtual 207, 3) := by decide +kernel
theorem dX10_tryTwo_32 : decode cX10_tryTwo 32 = .ok (.istore 8, 2) := by decide +kernel
theorem dX10_tryTwo_34 : decode cX10_tryTwo 34 = .ok (.iload 8, 2) := by decide +kernel
theorem dX10_tryTwo_36 : decode cX10_tryTwo 36 = .ok (.bipush (-9), 2) := by decide +kernel
theorem dX10_tryTwo_38 : decode cX10_tryTwo 38 = .ok (.if_icmp .eq 73, 3) := by decide +kernel
theorem dX10_tryTwo_41 : decode cX10_tryTwo 41 = .ok (.aload_n 0, 1) := by decide +kernel
theorem dX10_tryTwo_42 : decode cX10_tryTwo 42 = .ok (.getfield 210, 3) := by decide +kernel
theorem dX10_tryTwo_45 : decode cX10_tryTwo 45 = .ok (.bipush (-9), 2) := by decide +kernel
theorem dX10_tryTwo_47 : decode cX10_tryTwo 47 = .ok (.if_icmp .eq 12, 3) := by decide +kernel
theorem dX10_tryTwo_50 : decode cX10_tryTwo 50 = .ok (.iload 8, 2) := by decide +kernel
theorem dX10_tryTwo_52 : decode cX10_tryTwo 52 = .ok (.aload_n 0, 1) := by decide +kernel
theorem dX10_tryTwo_53 : decode cX10_tryTwo 53 = .ok (.getfield 210, 3) := by decide +kernel
theorem dX10_tryTwo_56 : decode cX10_tryTwo 56 = .ok (.if_icmp .ge 55, 3) := by decide +kernel
theorem dX10_tryTwo_59 : decode cX10_tryTwo 59 = .ok (.aload_n 0, 1) := by decide +kernel
theorem dX10_tryTwo_60 : decode cX10_tryTwo 60 = .ok (.iload 8, 2) := by decide +kernel
theorem dX10_tryTwo_62 : decode cX10_tryTwo 62 = .ok (.putfield 210, 3) := by decide +kernel
theorem dX10_tryTwo_65 : decode cX10_tryTwo 65 = .ok (.aload_n 0, 1) := by decide +kernel
theorem dX10_tryTwo_66 : decode cX10_tryTwo 66 = .ok (.getfield 68, 3) := by decide +kernel
theorem dX10_tryTwo_69 : decode cX10_tryTwo 69 = .ok (.iconst 0, 1) := by decide +kernel
theorem dX10_tryTwo_70 : decode cX10_tryTwo 70 = .ok (.iload_n 2, 1) := by decide +kernel
theorem dX10_tryTwo_71 : decode cX10_tryTwo 71 = .ok (.iastore, 1) := by decide +kernel
theorem dX10_tryTwo_72 : decode cX10_tryTwo 72 = .ok (.aload_n 0, 1) := by decide +kernel
theorem dX10_tryTwo_73 : decode cX10_tryTwo 73 = .ok (.getfield 68, 3) := by decide +kernel
theorem dX10_tryTwo_76 : decode cX10_tryTwo 76 = .ok (.iconst 1, 1) := by decide +kernel
theorem dX10_tryTwo_77 : decode cX10_tryTwo 77 = .ok (.iload_n 3, 1) := by decide +kernel
theorem dX10_tryTwo_78 : decode cX10_tryTwo 78 = .ok (.iastore, 1) := by decide +kernel
theorem dX10_tryTwo_79 : decode cX10_tryTwo 79 = .ok (.aload_n 0, 1) := by decide +kernel
theorem dX10_tryTwo_80 : decode cX10_tryTwo 80 = .ok (.getfield 68, 3) := by decide +kernel
theorem dX10_tryTwo_83 : decode cX10_tryTwo 83 = .ok (.iconst 2, 1) := by decide +kernel
theorem dX10_tryTwo_84 : decode cX10_tryTwo 84 = .ok (.iload 4, 2) := by decide +kernel
theorem dX10_tryTwo_86 : decode cX10_tryTwo 86 = .ok (.iastore, 1) := by decide +kernel
theorem dX10_tryTwo_87 : decode cX10_tryTwo 87 = .ok (.aload_n 0, 1) := by decide +kernel
theorem dX10_tryTwo_88 : decode cX10_tryTwo 88 = .ok (.getfield 68, 3) := by decide +kernel
theorem dX10_tryTwo_91 : decode cX10_tryTwo 91 = .ok (.iconst 3, 1) := by decide +kernel
theorem dX10_tryTwo_92 : decode cX10_tryTwo 92 = .ok (.iload 5, 2) := by decide +kernel
theorem dX10_tryTwo_94 : decode cX10_tryTwo 94 = .ok (.iastore, 1) := by decide +kernel
theorem dX10_tryTwo_95 : decode cX10_tryTwo 95 = .ok (.aload_n 0, 1) := by decide +kernel
theorem dX10_tryTwo_96 : decode cX10_tryTwo 96 = .ok (.getfield 68, 3) := by decide +kernel
theorem dX10_tryTwo_99 : decode cX10_tryTwo 99 = .ok (.iconst 4, 1) := by decide +kernel
theorem dX10_tryTwo_100 : decode cX10_tryTwo 100 = .ok (.iload 6, 2) := by decide +kernel
theorem dX10_tryTwo_102 : decode cX10_tryTwo 102 = .ok (.iastore, 1) := by decide +kernel
theorem dX10_tryTwo_103 : decode cX10_tryTwo 103 = .ok (.aload_n 0, 1) := by decide +kernel
theorem dX10_tryTwo_104 : decode cX10_tryTwo 104 = .ok (.getfield 68, 3) := by decide +kernel
theorem dX10_tryTwo_107 : decode cX10_tryTwo 107 = .ok (.iconst 5, 1) := by decide +kernel
theorem dX10_tryTwo_108 : decode cX10_tryTwo 108 = .ok (.iload 7, 2) := by decide +kernel
theorem dX10_tryTwo_110 : decode cX10_tryTwo 110 = .ok (.iastore, 1) := by decide +kernel
theorem dX10_tryTwo_111 : decode cX10_tryTwo 111 = .ok (.return_, 1) := by decide +kernel
theorem dX10_keepLayers_0 : decode cX10_keepLayers 0 = .ok (.iconst 0, 1) := by decide +kernel
theorem dX10_keepLayers_1 : decode cX10_keepLayers 1 = .ok (.istore_n 3, 1) := by decide +kernel
theorem dX10_keepLayers_2 : decode cX10_keepLayers 2 = .ok (.iload_n 3, 1) := by decide +kernel
theorem dX10_keepLayers_3 : decode cX10_keepLayers 3 = .ok (.iconst 3, 1) := by decide +kernel
theorem dX10_keepLayers_4 : decode cX10_keepLayers 4 = .ok (.if_icmp .ge 121, 3) := by decide +kernel
theorem dX10_keepLayers_7 : decode cX10_keepLayers 7 = .ok (.iconst 3, 1) := by decide +kernel
theorem dX10_keepLayers_8 : decode cX10_keepLayers 8 = .ok (.iload_n 1, 1) := by decide +kernel
theorem dX10_keepLayers_9 : decode cX10_keepLayers 9 = .ok (.imul, 1) := by decide +kernel
theorem dX10_keepLayers_10 : decode cX10_keepLayers 10 = .ok (.iload_n 3, 1) := by decide +kernel
theorem dX10_keepLayers_11 : decode cX10_keepLayers 11 = .ok (.iadd, 1) := by decide +kernel
theorem dX10_keepLayers_12 : decode cX10_keepLayers 12 = .ok (.istore 4, 2) := by decide +kernel
theorem dX10_keepLayers_14 : decode cX10_keepLayers 14 = .ok (.iload_n 2, 1) := by decide +kernel
theorem dX10_keepLayers_15 : decode cX10_keepLayers 15 = .ok (.ifCond .eq 55, 3) := by decide +kernel
theorem dX10_keepLayers_18 : decode cX10_keepLayers 18 = .ok (.aload_n 0, 1) := by decide +kernel
theorem dX10_keepLayers_19 : decode cX10_keepLayers 19 = .ok (.getfield 59, 3) := by decide +kernel
theorem dX10_keepLayers_22 : decode cX10_keepLayers 22 = .ok (.iload 4, 2) := by decide +kernel
theorem dX10_keepLayers_24 : decode cX10_keepLayers 24 = .ok (.aload_n 0, 1) := by decide +kernel
theorem dX10_keepLayers_25 : decode cX10_keepLayers 25 = .ok (.getfield 71, 3) := by decide +kernel
theorem dX10_keepLayers_28 : decode cX10_keepLayers 28 = .ok (.iconst 3, 1) := by decide +kernel
theorem dX10_keepLayers_29 : decode cX10_keepLayers 29 = .ok (.iload_n 3, 1) := by decide +kernel
theorem dX10_keepLayers_30 : decode cX10_keepLayers 30 = .ok (.imul, 1) := by decide +kernel
theorem dX10_keepLayers_31 : decode cX10_keepLayers 31 = .ok (.iaload, 1) := by decide +kernel
theorem dX10_keepLayers_32 : decode cX10_keepLayers 32 = .ok (.iastore, 1) := by decide +kernel
theorem dX10_keepLayers_33 : decode cX10_keepLayers 33 = .ok (.aload_n 0, 1) := by decide +kernel
theorem dX10_keepLayers_34 : decode cX10_keepLayers 34 = .ok (.getfield 62, 3) := by decide +kernel
theorem dX10_keepLayers_37 : decode cX10_keepLayers 37 = .ok (.iload 4, 2) := by decide +kernel
theorem dX10_keepLayers_39 : decode cX10_keepLayers 39 = .ok (.aload_n 0, 1) := by decide +kernel
theorem dX10_keepLayers_40 : decode cX10_keepLayers 40 = .ok (.getfield 71, 3) := by decide +kernel
theorem dX10_keepLayers_43 : decode cX10_keepLayers 43 = .ok (.iconst 3, 1) := by decide +kernel
theorem dX10_keepLayers_44 : decode cX10_keepLayers 44 = .ok (.iload_n 3, 1) := by decide +kernel
theorem dX10_keepLayers_45 : decode cX10_keepLayers 45 = .ok (.imul, 1) := by decide +kernel
theorem dX10_keepLayers_46 : decode cX10_keepLayers 46 = .ok (.iconst 1, 1) := by decide +kernel
theorem dX10_keepLayers_47 : decode cX10_keepLayers 47 = .ok (.iadd, 1) := by decide +kernel
theorem dX10_keepLayers_48 : decode cX10_keepLayers 48 = .ok (.iaload, 1) := by decide +kernel
theorem dX10_keepLayers_49 : decode cX10_keepLayers 49 = .ok (.iastore, 1) := by decide +kernel
theorem dX10_keepLayers_50 : decode cX10_keepLayers 50 = .ok (.aload_n 0, 1) := by decide +kernel
theorem dX10_keepLayers_51 : decode cX10_keepLayers 51 = .ok (.getfield 65, 3) := by decide +kernel
theorem dX10_keepLayers_54 : decode cX10_keepLayers 54 = .ok (.iload 4, 2) := by decide +kernel
theorem dX10_keepLayers_56 : decode cX10_keepLayers 56 = .ok (.aload_n 0, 1) := by decide +kernel
theorem dX10_keepLayers_57 : decode cX10_keepLayers 57 = .ok (.getfield 71, 3) := by decide +kernel
theorem dX10_keepLayers_60 : decode cX10_keepLayers 60 = .ok (.iconst 3, 1) := by decide +kernel
theorem dX10_keepLayers_61 : decode cX10_keepLayers 61 = .ok (.iload_n 3, 1) := by decide +kernel
theorem dX10_keepLayers_62 : decode cX10_keepLayers 62 = .ok (.imul, 1) := by decide +kernel
theorem dX10_keepLayers_63 : decode cX10_keepLayers 63 = .ok (.iconst 2, 1) := by decide +kernel
theorem dX10_keepLayers_64 : decode cX10_keepLayers 64 = .ok (.iadd, 1) := by decide +kernel
theorem dX10_keepLayers_65 : decode cX10_keepLayers 65 = .ok (.iaload, 1) := by decide +kernel
theorem dX10_keepLayers_66 : decode cX10_keepLayers 66 = .ok (.iastore, 1) := by decide +kernel
theorem dX10_keepLayers_67 : decode cX10_keepLayers 67 = .ok (.goto 52, 3) := by decide +kernel
theorem dX10_keepLayers_70 : decode cX10_keepLayers 70 = .ok (.aload_n 0, 1) := by decide +kernel
theorem dX10_keepLayers_71 : decode cX10_keepLayers 71 = .ok (.getfield 71, 3) := by decide +kernel
theorem dX10_keepLayers_74 : decode cX10_keepLayers 74 = .ok (.iconst 3, 1) := by decide +kernel
theorem dX10_keepLayers_75 : decode cX10_keepLayers 75 = .ok (.iload_n 3, 1) := by decide +kernel
theorem dX10_keepLayers_76 : decode cX10_keepLayers 76 = .ok (.imul, 1) := by decide +kernel
theorem dX10_keepLayers_77 : decode cX10_keepLayers 77 = .ok (.aload_n 0, 1) := by decide +kernel
theorem dX10_keepLayers_78 : decode cX10_keepLayers 78 = .ok (.getfield 59, 3) := by decide +kernel
theorem dX10_keepLayers_81 : decode cX10_keepLayers 81 = .ok (.iload 4, 2) := by decide +kernel
theorem dX10_keepLayers_83 : decode cX10_keepLayers 83 = .ok (.iaload, 1) := by decide +kernel
theorem dX10_keepLayers_84 : decode cX10_keepLayers 84 = .ok (.iastore, 1) := by decide +kernel
theorem dX10_keepLayers_85 : decode cX10_keepLayers 85 = .ok (.aload_n 0, 1) := by decide +kernel
theorem dX10_keepLayers_86 : decode cX10_keepLayers 86 = .ok (.getfield 71, 3) := by decide +kernel
theorem dX10_keepLayers_89 : decode cX10_keepLayers 89 = .ok (.iconst 3, 1) := by decide +kernel
theorem dX10_keepLayers_90 : decode cX10_keepLayers 90 = .ok (.iload_n 3, 1) := by decide +kernel
theorem dX10_keepLayers_91 : decode cX10_keepLayers 91 = .ok (.imul, 1) := by decide +kernel
theorem dX10_keepLayers_92 : decode cX10_keepLayers 92 = .ok (.iconst 1, 1) := by decide +kernel
theorem dX10_keepLayers_93 : decode cX10_keepLayers 93 = .ok (.iadd, 1) := by decide +kernel
theorem dX10_keepLayers_94 : decode cX10_keepLayers 94 = .ok (.aload_n 0, 1) := by decide +kernel
theorem dX10_keepLayers_95 : decode cX10_keepLayers 95 = .ok (.getfield 62, 3) := by decide +kernel
theorem dX10_keepLayers_98 : decode cX10_keepLayers 98 = .ok (.iload 4, 2) := by decide +kernel
theorem dX10_keepLayers_100 : decode cX10_keepLayers 100 = .ok (.iaload, 1) := by decide +kernel
theorem dX10_keepLayers_101 : decode cX10_keepLayers 101 = .ok (.iastore, 1) := by decide +kernel
theorem dX10_keepLayers_102 : decode cX10_keepLayers 102 = .ok (.aload_n 0, 1) := by decide +kernel
theorem dX10_keepLayers_103 : decode cX10_keepLayers 103 = .ok (.getfield 71, 3) := by decide +kernel
theorem dX10_keepLayers_106 : decode cX10_keepLayers 106 = .ok (.iconst 3, 1) := by decide +kernel
theorem dX10_keepLayers_107 : decode cX10_keepLayers 107 = .ok (.iload_n 3, 1) := by decide +kernel
theorem dX10_keepLayers_108 : decode cX10_keepLayers 108 = .ok (.imul, 1) := by decide +kernel
theorem dX10_keepLayers_109 : decode cX10_keepLayers 109 = .ok (.iconst 2, 1) := by decide +kernel
theorem dX10_keepLayers_110 : decode cX10_keepLayers 110 = .ok (.iadd, 1) := by decide +kernel
theorem dX10_keepLayers_111 : decode cX10_keepLayers 111 = .ok (.aload_n 0, 1) := by decide +kernel
theorem dX10_keepLayers_112 : decode cX10_keepLayers 112 = .ok (.getfield 65, 3) := by decide +kernel
theorem dX10_keepLayers_115 : decode cX10_keepLayers 115 = .ok (.iload 4, 2) := by decide +kernel
theorem dX10_keepLayers_117 : decode cX10_keepLayers 117 = .ok (.iaload, 1) := by decide +kernel
theorem dX10_keepLayers_118 : decode cX10_keepLayers 118 = .ok (.iastore, 1) := by decide +kernel
theorem dX10_keepLayers_119 : decode cX10_keepLayers 119 = .ok (.iinc 3 1, 3) := by decide +kernel
theorem dX10_keepLayers_122 : decode cX10_keepLayers 122 = .ok (.goto (-120), 3) := by decide +kernel
theorem dX10_keepLayers_125 : decode cX10_keepLayers 125 = .ok (.iload_n 2, 1) := by decide +kernel
theorem dX10_keepLayers_126 : decode cX10_keepLayers 126 = .ok (.ifCond .eq 19, 3) := by decide +kernel
theorem dX10_keepLayers_129 : decode cX10_keepLayers 129 = .ok (.aload_n 0, 1) := by decide +kernel
theorem dX10_keepLayers_130 : decode cX10_keepLayers 130 = .ok (.getfield 56, 3) := by decide +kernel
theorem dX10_keepLayers_133 : decode cX10_keepLayers 133 = .ok (.iload_n 1, 1) := by decide +kernel
theorem dX10_keepLayers_134 : decode cX10_keepLayers 134 = .ok (.aload_n 0, 1) := by decide +kernel
theorem dX10_keepLayers_135 : decode cX10_keepLayers 135 = .ok (.getfield 71, 3) := by decide +kernel
theorem dX10_keepLayers_138 : decode cX10_keepLayers 138 = .ok (.bipush 9, 2) := by decide +kernel
theorem dX10_keepLayers_140 : decode cX10_keepLayers 140 = .ok (.iaload, 1) := by decide +kernel
theorem dX10_keepLayers_141 : decode cX10_keepLayers 141 = .ok (.iastore, 1) := by decide +kernel
theorem dX10_keepLayers_142 : decode cX10_keepLayers 142 = .ok (.goto 16, 3) := by decide +kernel
theorem dX10_keepLayers_145 : decode cX10_keepLayers 145 = .ok (.aload_n 0, 1) := by decide +kernel
theorem dX10_keepLayers_146 : decode cX10_keepLayers 146 = .ok (.getfield 71, 3) := by decide +kernel
theorem dX10_keepLayers_149 : decode cX10_keepLayers 149 = .ok (.bipush 9, 2) := by decide +kernel
theorem dX10_keepLayers_151 : decode cX10_keepLayers 151 = .ok (.aload_n 0, 1) := by decide +kernel
theorem dX10_keepLayers_152 : decode cX10_keepLayers 152 = .ok (.getfield 56, 3) := by decide +kernel
theorem dX10_keepLayers_155 : decode cX10_keepLayers 155 = .ok (.iload_n 1, 1) := by decide +kernel
theorem dX10_keepLayers_156 : decode cX10_keepLayers 156 = .ok (.iaload, 1) := by decide +kernel
theorem dX10_keepLayers_157 : decode cX10_keepLayers 157 = .ok (.iastore, 1) := by decide +kernel
theorem dX10_keepLayers_158 : decode cX10_keepLayers 158 = .ok (.return_, 1) := by decide +kernel
set_option maxRecDepth 20000 in
theorem ggX10_can_X10_isOn : GoodIn wsX10_can wsX10_isOn := goodIn_r _ [6, 7, 22, 23, 24, 25, 26, 27, 28, 29, 30, 31, 32, 33, 34, 35, 36, 37, 38, 39, 40, 41, 42, 43, 44, 45, 46, 47, 48, 49, 50, 51, 52, 53, 54, 55, 56, 57, 58, 59, 60, 61, 62, 63, 64, 65] (by decide +kernel) (by decide +kernel)
set_option maxRecDepth 20000 in
theorem gX10_can_X10_isOn : GoodIn wsX10_can (wsV RX10 185 RX10 yX10_isOn wsX10_isOn) := goodIn_app (goodIn_of _ (by decide +kernel)) ggX10_can_X10_isOn
set_option maxRecDepth 20000 in
theorem ggX10_can_X10_lackOf : GoodIn wsX10_can wsX10_lackOf := goodIn_r _ [11, 12, 13, 14, 15, 5, 16, 7, 17, 18, 19, 20, 21, 22, 23, 24, 25, 26, 27, 28, 29, 30, 31, 32, 33, 34, 35, 36, 37, 38, 39, 40, 41, 42, 43, 44, 45, 46, 47, 48, 49, 50, 51, 52, 53, 54, 55, 56, 57, 58, 59, 60, 61, 62, 63, 64, 65] (by decide +kernel) (by decide +kernel)
set_option maxRecDepth 20000 in
theorem gX10_can_X10_lackOf : GoodIn wsX10_can (wsV RX10 189 RX10 yX10_lackOf wsX10_lackOf) := goodIn_app (goodIn_of _ (by decide +kernel)) ggX10_can_X10_lackOf
theorem dX10_can_0 : decode cX10_can 0 = .ok (.iload_n 2, 1) := by decide +kernel
theorem dX10_can_1 : decode cX10_can 1 = .ok (.bipush 10, 2) := by decide +kernel
theorem dX10_can_3 : decode cX10_can 3 = .ok (.idiv, 1) := by decide +kernel
theorem dX10_can_4 : decode cX10_can 4 = .ok (.istore 4, 2) := by decide +kernel
theorem dX10_can_6 : decode cX10_can 6 = .ok (.aload_n 0, 1) := by decide +kernel
theorem dX10_can_7 : decode cX10_can 7 = .ok (.getfield 34, 3) := by decide +kernel
theorem dX10_can_10 : decode cX10_can 10 = .ok (.iload 4, 2) := by decide +kernel
theorem dX10_can_12 : decode cX10_can 12 = .ok (.baload, 1) := by decide +kernel
theorem dX10_can_13 : decode cX10_can 13 = .ok (.ifCond .ne 37, 3) := by decide +kernel
theorem dX10_can_16 : decode cX10_can 16 = .ok (.aload_n 0, 1) := by decide +kernel
theorem dX10_can_17 : decode cX10_can 17 = .ok (.iload 4, 2) := by decide +kernel
theorem dX10_can_19 : decode cX10_can 19 = .ok (.iload_n 2, 1) := by decide +kernel
theorem dX10_can_20 : decode cX10_can 20 = .ok (.bipush 10, 2) := by decide +kernel
theorem dX10_can_22 : decode cX10_can 22 = .ok (.irem, 1) := by decide +kernel
theorem dX10_can_23 : decode cX10_can 23 = .ok (.invokevirtual 185, 3) := by decide +kernel
theorem dX10_can_26 : decode cX10_can 26 = .ok (.ifCond .eq 24, 3) := by decide +kernel
theorem dX10_can_29 : decode cX10_can 29 = .ok (.aload_n 0, 1) := by decide +kernel
theorem dX10_can_30 : decode cX10_can 30 = .ok (.iload_n 1, 1) := by decide +kernel
theorem dX10_can_31 : decode cX10_can 31 = .ok (.iload 4, 2) := by decide +kernel
theorem dX10_can_33 : decode cX10_can 33 = .ok (.iload_n 2, 1) := by decide +kernel
theorem dX10_can_34 : decode cX10_can 34 = .ok (.bipush 10, 2) := by decide +kernel
theorem dX10_can_36 : decode cX10_can 36 = .ok (.irem, 1) := by decide +kernel
theorem dX10_can_37 : decode cX10_can 37 = .ok (.iload_n 3, 1) := by decide +kernel
theorem dX10_can_38 : decode cX10_can 38 = .ok (.invokevirtual 189, 3) := by decide +kernel
theorem dX10_can_41 : decode cX10_can 41 = .ok (.bipush (-9), 2) := by decide +kernel
theorem dX10_can_43 : decode cX10_can 43 = .ok (.if_icmp .eq 7, 3) := by decide +kernel
theorem dX10_can_46 : decode cX10_can 46 = .ok (.iconst 1, 1) := by decide +kernel
theorem dX10_can_47 : decode cX10_can 47 = .ok (.goto 4, 3) := by decide +kernel
theorem dX10_can_50 : decode cX10_can 50 = .ok (.iconst 0, 1) := by decide +kernel
theorem dX10_can_51 : decode cX10_can 51 = .ok (.ireturn, 1) := by decide +kernel
set_option maxRecDepth 20000 in
theorem ggX10_two_X10_isLine : GoodIn wsX10_two wsX10_isLine := goodIn_r _ [8, 9, 10, 7, 11] (by decide +kernel) (by decide +kernel)
set_option maxRecDepth 20000 in
theorem gX10_two_X10_isLine : GoodIn wsX10_two (va_wsS RX10 173 yX10_isLine wsX10_isLine) := goodIn_app (goodIn_of _ (by decide +kernel)) ggX10_two_X10_isLine
set_option maxRecDepth 20000 in
theorem ggX10_two_X10_isColour : GoodIn wsX10_two wsX10_isColour := goodIn_r _ [14, 9, 10, 7, 11] (by decide +kernel) (by decide +kernel)
set_option maxRecDepth 20000 in
theorem gX10_two_X10_isColour : GoodIn wsX10_two (va_wsS RX10 182 yX10_isColour wsX10_isColour) := goodIn_app (goodIn_of _ (by decide +kernel)) ggX10_two_X10_isColour
set_option maxRecDepth 20000 in
theorem ggX10_two_X10_in : GoodIn wsX10_two wsX10_in := goodIn_r _ [11] (by decide +kernel) (by decide +kernel)
set_option maxRecDepth 20000 in
theorem gX10_two_X10_in : GoodIn wsX10_two (va_wsS RX10 120 yX10_in wsX10_in) := goodIn_app (goodIn_of _ (by decide +kernel)) ggX10_two_X10_in
set_option maxRecDepth 20000 in
theorem ggX10_two_X10_keepLayers : GoodIn wsX10_two wsX10_keepLayers := goodIn_r _ [18, 19, 20, 21, 22, 3, 56, 57, 58, 59, 60, 61, 62, 63, 64, 65, 66, 67, 68, 69, 70, 71, 72, 73, 74, 75, 76, 77, 78, 79, 80, 81, 82, 83, 84, 85, 86, 87, 88, 89, 90, 91, 92, 93, 94, 95, 96, 97, 98, 99] (by decide +kernel) (by decide +kernel)
set_option maxRecDepth 20000 in
theorem gX10_two_X10_keepLayers : GoodIn wsX10_two (wsV RX10 213 RX10 yX10_keepLayers wsX10_keepLayers) := goodIn_app (goodIn_of _ (by decide +kernel)) ggX10_two_X10_keepLayers
set_option maxRecDepth 20000 in
theorem ggX10_two_X10_can : GoodIn wsX10_two wsX10_can := goodIn_r _ [26, 27, 28, 29, 30, 7, 31, 32, 33, 34, 35, 36, 37, 38, 39, 40, 41, 42, 43, 9, 10, 11, 56, 57, 58, 59, 60, 61, 62, 63, 64, 65, 66, 67, 68, 69, 70, 71, 72, 73, 74, 75, 76, 77, 78, 79, 80, 81, 82, 83, 84, 85, 86, 87, 88, 89, 90, 91, 92, 93, 94, 95, 96, 97, 98, 99] (by decide +kernel) (by decide +kernel)
set_option maxRecDepth 20000 in
theorem gX10_two_X10_can : GoodIn wsX10_two (wsV RX10 217 RX10 yX10_can wsX10_can) := goodIn_app (goodIn_of _ (by decide +kernel)) ggX10_two_X10_can
set_option maxRecDepth 20000 in
theorem ggX10_two_X10_tryTwo : GoodIn wsX10_two wsX10_tryTwo := goodIn_r _ [47, 3, 1, 4, 48, 49, 50, 7, 51, 19, 21, 22, 52, 53, 54, 55, 37, 38, 39, 40, 41, 32, 42, 43, 9, 10, 11, 56, 57, 58, 59, 60, 61, 62, 63, 64, 65, 66, 67, 68, 69, 70, 71, 72, 73, 74, 75, 76, 77, 78, 79, 80, 81, 82, 83, 84, 85, 86, 87, 88, 89, 90, 91, 92, 93, 94, 95, 96, 97, 98, 99] (by decide +kernel) (by decide +kernel)
set_option maxRecDepth 20000 in
theorem gX10_two_X10_tryTwo : GoodIn wsX10_two (wsV RX10 220 RX10 yX10_tryTwo wsX10_tryTwo) := goodIn_app (goodIn_of _ (by decide +kernel)) ggX10_two_X10_tryTwo
set_option maxRecDepth 20000 in
theorem ggX10_two_X10_lays : GoodIn wsX10_two wsX10_lays := goodIn_r _ [51, 3, 19, 21, 22, 56, 57, 58, 59, 60, 61, 62, 63, 64, 65, 66, 67, 68, 69, 70, 71, 72, 73, 74, 75, 76, 77, 78, 79, 80, 81, 82, 83, 84, 85, 86, 87, 88, 89, 90, 91, 92, 93, 94, 95, 96, 97, 98, 99] (by decide +kernel) (by decide +kernel)
set_option maxRecDepth 20000 in
theorem gX10_two_X10_lays : GoodIn wsX10_two (wsV RX10 203 RX10 yX10_lays wsX10_lays) := goodIn_app (goodIn_of _ (by decide +kernel)) ggX10_two_X10_lays
theorem dX10_two_0 : decode cX10_two 0 = .ok (.iload_n 1, 1) := by decide +kernel
theorem dX10_two_1 : decode cX10_two 1 = .ok (.invokestatic 173, 3) := by decide +kernel
theorem dX10_two_4 : decode cX10_two 4 = .ok (.ifCond .eq 34, 3) := by decide +kernel
theorem dX10_two_7 : decode cX10_two 7 = .ok (.iload_n 2, 1) := by decide +kernel
theorem dX10_two_8 : decode cX10_two 8 = .ok (.invokestatic 182, 3) := by decide +kernel
theorem dX10_two_11 : decode cX10_two 11 = .ok (.ifCond .eq 27, 3) := by decide +kernel
theorem dX10_two_14 : decode cX10_two 14 = .ok (.iload_n 3, 1) := by decide +kernel
theorem dX10_two_15 : decode cX10_two 15 = .ok (.invokestatic 182, 3) := by decide +kernel
theorem dX10_two_18 : decode cX10_two 18 = .ok (.ifCond .eq 20, 3) := by decide +kernel
theorem dX10_two_21 : decode cX10_two 21 = .ok (.iload_n 2, 1) := by decide +kernel
theorem dX10_two_22 : decode cX10_two 22 = .ok (.iload_n 3, 1) := by decide +kernel
theorem dX10_two_23 : decode cX10_two 23 = .ok (.if_icmp .eq 15, 3) := by decide +kernel
theorem dX10_two_26 : decode cX10_two 26 = .ok (.iload 4, 2) := by decide +kernel
theorem dX10_two_28 : decode cX10_two 28 = .ok (.iconst 1, 1) := by decide +kernel
theorem dX10_two_29 : decode cX10_two 29 = .ok (.sipush 20000, 3) := by decide +kernel
theorem dX10_two_32 : decode cX10_two 32 = .ok (.invokestatic 120, 3) := by decide +kernel
theorem dX10_two_35 : decode cX10_two 35 = .ok (.ifCond .ne 5, 3) := by decide +kernel
theorem dX10_two_38 : decode cX10_two 38 = .ok (.iconst (-1), 1) := by decide +kernel
theorem dX10_two_39 : decode cX10_two 39 = .ok (.ireturn, 1) := by decide +kernel
theorem dX10_two_40 : decode cX10_two 40 = .ok (.aload_n 0, 1) := by decide +kernel
theorem dX10_two_41 : decode cX10_two 41 = .ok (.iload_n 1, 1) := by decide +kernel
theorem dX10_two_42 : decode cX10_two 42 = .ok (.iconst 0, 1) := by decide +kernel
theorem dX10_two_43 : decode cX10_two 43 = .ok (.invokevirtual 213, 3) := by decide +kernel
theorem dX10_two_46 : decode cX10_two 46 = .ok (.aload_n 0, 1) := by decide +kernel
theorem dX10_two_47 : decode cX10_two 47 = .ok (.bipush (-9), 2) := by decide +kernel
theorem dX10_two_49 : decode cX10_two 49 = .ok (.putfield 210, 3) := by decide +kernel
theorem dX10_two_52 : decode cX10_two 52 = .ok (.iconst 0, 1) := by decide +kernel
theorem dX10_two_53 : decode cX10_two 53 = .ok (.istore 5, 2) := by decide +kernel
theorem dX10_two_55 : decode cX10_two 55 = .ok (.iconst 0, 1) := by decide +kernel
theorem dX10_two_56 : decode cX10_two 56 = .ok (.istore 6, 2) := by decide +kernel
theorem dX10_two_58 : decode cX10_two 58 = .ok (.iload 6, 2) := by decide +kernel
theorem dX10_two_60 : decode cX10_two 60 = .ok (.bipush 10, 2) := by decide +kernel
theorem dX10_two_62 : decode cX10_two 62 = .ok (.aload_n 0, 1) := by decide +kernel
theorem dX10_two_63 : decode cX10_two 63 = .ok (.getfield 141, 3) := by decide +kernel
theorem dX10_two_66 : decode cX10_two 66 = .ok (.imul, 1) := by decide +kernel
theorem dX10_two_67 : decode cX10_two 67 = .ok (.if_icmp .ge 142, 3) := by decide +kernel
theorem dX10_two_70 : decode cX10_two 70 = .ok (.aload_n 0, 1) := by decide +kernel
theorem dX10_two_71 : decode cX10_two 71 = .ok (.iload_n 1, 1) := by decide +kernel
theorem dX10_two_72 : decode cX10_two 72 = .ok (.iload 6, 2) := by decide +kernel
theorem dX10_two_74 : decode cX10_two 74 = .ok (.iload_n 2, 1) := by decide +kernel
theorem dX10_two_75 : decode cX10_two 75 = .ok (.invokevirtual 217, 3) := by decide +kernel
theorem dX10_two_78 : decode cX10_two 78 = .ok (.istore 7, 2) := by decide +kernel
theorem dX10_two_80 : decode cX10_two 80 = .ok (.iconst 0, 1) := by decide +kernel
theorem dX10_two_81 : decode cX10_two 81 = .ok (.istore 8, 2) := by decide +kernel
theorem dX10_two_83 : decode cX10_two 83 = .ok (.iload 8, 2) := by decide +kernel
theorem dX10_two_85 : decode cX10_two 85 = .ok (.bipush 10, 2) := by decide +kernel
theorem dX10_two_87 : decode cX10_two 87 = .ok (.aload_n 0, 1) := by decide +kernel
theorem dX10_two_88 : decode cX10_two 88 = .ok (.getfield 141, 3) := by decide +kernel
theorem dX10_two_91 : decode cX10_two 91 = .ok (.imul, 1) := by decide +kernel
theorem dX10_two_92 : decode cX10_two 92 = .ok (.if_icmp .ge 111, 3) := by decide +kernel
theorem dX10_two_95 : decode cX10_two 95 = .ok (.iload 7, 2) := by decide +kernel
theorem dX10_two_97 : decode cX10_two 97 = .ok (.ifCond .eq 106, 3) := by decide +kernel
theorem dX10_two_100 : decode cX10_two 100 = .ok (.iload 6, 2) := by decide +kernel
theorem dX10_two_102 : decode cX10_two 102 = .ok (.bipush 10, 2) := by decide +kernel
theorem dX10_two_104 : decode cX10_two 104 = .ok (.idiv, 1) := by decide +kernel
theorem dX10_two_105 : decode cX10_two 105 = .ok (.iload 8, 2) := by decide +kernel
theorem dX10_two_107 : decode cX10_two 107 = .ok (.bipush 10, 2) := by decide +kernel
theorem dX10_two_109 : decode cX10_two 109 = .ok (.idiv, 1) := by decide +kernel
theorem dX10_two_110 : decode cX10_two 110 = .ok (.if_icmp .eq 87, 3) := by decide +kernel
theorem dX10_two_113 : decode cX10_two 113 = .ok (.aload_n 0, 1) := by decide +kernel
theorem dX10_two_114 : decode cX10_two 114 = .ok (.iload_n 1, 1) := by decide +kernel
theorem dX10_two_115 : decode cX10_two 115 = .ok (.iload 8, 2) := by decide +kernel
theorem dX10_two_117 : decode cX10_two 117 = .ok (.iload_n 3, 1) := by decide +kernel
theorem dX10_two_118 : decode cX10_two 118 = .ok (.invokevirtual 217, 3) := by decide +kernel
theorem dX10_two_121 : decode cX10_two 121 = .ok (.ifCond .eq 76, 3) := by decide +kernel
theorem dX10_two_124 : decode cX10_two 124 = .ok (.iload 5, 2) := by decide +kernel
theorem dX10_two_126 : decode cX10_two 126 = .ok (.iload 4, 2) := by decide +kernel
theorem dX10_two_128 : decode cX10_two 128 = .ok (.if_icmp .ne 12, 3) := by decide +kernel
theorem dX10_two_131 : decode cX10_two 131 = .ok (.aload_n 0, 1) := by decide +kernel
theorem dX10_two_132 : decode cX10_two 132 = .ok (.iload_n 1, 1) := by decide +kernel
theorem dX10_two_133 : decode cX10_two 133 = .ok (.iconst 1, 1) := by decide +kernel
theorem dX10_two_134 : decode cX10_two 134 = .ok (.invokevirtual 213, 3) := by decide +kernel
theorem dX10_two_137 : decode cX10_two 137 = .ok (.bipush (-6), 2) := by decide +kernel
theorem dX10_two_139 : decode cX10_two 139 = .ok (.ireturn, 1) := by decide +kernel
theorem dX10_two_140 : decode cX10_two 140 = .ok (.iinc 5 1, 3) := by decide +kernel
theorem dX10_two_143 : decode cX10_two 143 = .ok (.aload_n 0, 1) := by decide +kernel
theorem dX10_two_144 : decode cX10_two 144 = .ok (.iload_n 1, 1) := by decide +kernel
theorem dX10_two_145 : decode cX10_two 145 = .ok (.iload 6, 2) := by decide +kernel
theorem dX10_two_147 : decode cX10_two 147 = .ok (.bipush 10, 2) := by decide +kernel
theorem dX10_two_149 : decode cX10_two 149 = .ok (.idiv, 1) := by decide +kernel
theorem dX10_two_150 : decode cX10_two 150 = .ok (.iload 6, 2) := by decide +kernel
theorem dX10_two_152 : decode cX10_two 152 = .ok (.bipush 10, 2) := by decide +kernel
theorem dX10_two_154 : decode cX10_two 154 = .ok (.irem, 1) := by decide +kernel
theorem dX10_two_155 : decode cX10_two 155 = .ok (.iload_n 2, 1) := by decide +kernel
theorem dX10_two_156 : decode cX10_two 156 = .ok (.iload 8, 2) := by decide +kernel
theorem dX10_two_158 : decode cX10_two 158 = .ok (.bipush 10, 2) := by decide +kernel
theorem dX10_two_160 : decode cX10_two 160 = .ok (.idiv, 1) := by decide +kernel
theorem dX10_two_161 : decode cX10_two 161 = .ok (.iload 8, 2) := by decide +kernel
theorem dX10_two_163 : decode cX10_two 163 = .ok (.bipush 10, 2) := by decide +kernel
theorem dX10_two_165 : decode cX10_two 165 = .ok (.irem, 1) := by decide +kernel
theorem dX10_two_166 : decode cX10_two 166 = .ok (.iload_n 3, 1) := by decide +kernel
theorem dX10_two_167 : decode cX10_two 167 = .ok (.invokevirtual 220, 3) := by decide +kernel
theorem dX10_two_170 : decode cX10_two 170 = .ok (.aload_n 0, 1) := by decide +kernel
theorem dX10_two_171 : decode cX10_two 171 = .ok (.iload_n 1, 1) := by decide +kernel
theorem dX10_two_172 : decode cX10_two 172 = .ok (.iload 8, 2) := by decide +kernel
theorem dX10_two_174 : decode cX10_two 174 = .ok (.bipush 10, 2) := by decide +kernel
theorem dX10_two_176 : decode cX10_two 176 = .ok (.idiv, 1) := by decide +kernel
theorem dX10_two_177 : decode cX10_two 177 = .ok (.iload 8, 2) := by decide +kernel
theorem dX10_two_179 : decode cX10_two 179 = .ok (.bipush 10, 2) := by decide +kernel
theorem dX10_two_181 : decode cX10_two 181 = .ok (.irem, 1) := by decide +kernel
theorem dX10_two_182 : decode cX10_two 182 = .ok (.iload_n 3, 1) := by decide +kernel
theorem dX10_two_183 : decode cX10_two 183 = .ok (.iload 6, 2) := by decide +kernel
theorem dX10_two_185 : decode cX10_two 185 = .ok (.bipush 10, 2) := by decide +kernel
theorem dX10_two_187 : decode cX10_two 187 = .ok (.idiv, 1) := by decide +kernel
theorem dX10_two_188 : decode cX10_two 188 = .ok (.iload 6, 2) := by decide +kernel
theorem dX10_two_190 : decode cX10_two 190 = .ok (.bipush 10, 2) := by decide +kernel
theorem dX10_two_192 : decode cX10_two 192 = .ok (.irem, 1) := by decide +kernel
theorem dX10_two_193 : decode cX10_two 193 = .ok (.iload_n 2, 1) := by decide +kernel
theorem dX10_two_194 : decode cX10_two 194 = .ok (.invokevirtual 220, 3) := by decide +kernel
theorem dX10_two_197 : decode cX10_two 197 = .ok (.iinc 8 1, 3) := by decide +kernel
theorem dX10_two_200 : decode cX10_two 200 = .ok (.goto (-117), 3) := by decide +kernel
theorem dX10_two_203 : decode cX10_two 203 = .ok (.iinc 6 1, 3) := by decide +kernel
theorem dX10_two_206 : decode cX10_two 206 = .ok (.goto (-148), 3) := by decide +kernel
theorem dX10_two_209 : decode cX10_two 209 = .ok (.aload_n 0, 1) := by decide +kernel
theorem dX10_two_210 : decode cX10_two 210 = .ok (.getfield 210, 3) := by decide +kernel
theorem dX10_two_213 : decode cX10_two 213 = .ok (.bipush (-9), 2) := by decide +kernel
theorem dX10_two_215 : decode cX10_two 215 = .ok (.if_icmp .ne 12, 3) := by decide +kernel
theorem dX10_two_218 : decode cX10_two 218 = .ok (.aload_n 0, 1) := by decide +kernel
theorem dX10_two_219 : decode cX10_two 219 = .ok (.iload_n 1, 1) := by decide +kernel
theorem dX10_two_220 : decode cX10_two 220 = .ok (.iconst 1, 1) := by decide +kernel
theorem dX10_two_221 : decode cX10_two 221 = .ok (.invokevirtual 213, 3) := by decide +kernel
theorem dX10_two_224 : decode cX10_two 224 = .ok (.bipush (-9), 2) := by decide +kernel
theorem dX10_two_226 : decode cX10_two 226 = .ok (.ireturn, 1) := by decide +kernel
theorem dX10_two_227 : decode cX10_two 227 = .ok (.aload_n 0, 1) := by decide +kernel
theorem dX10_two_228 : decode cX10_two 228 = .ok (.getfield 56, 3) := by decide +kernel
theorem dX10_two_231 : decode cX10_two 231 = .ok (.iload_n 1, 1) := by decide +kernel
theorem dX10_two_232 : decode cX10_two 232 = .ok (.iconst 0, 1) := by decide +kernel
theorem dX10_two_233 : decode cX10_two 233 = .ok (.iastore, 1) := by decide +kernel
theorem dX10_two_234 : decode cX10_two 234 = .ok (.aload_n 0, 1) := by decide +kernel
theorem dX10_two_235 : decode cX10_two 235 = .ok (.iload_n 1, 1) := by decide +kernel
theorem dX10_two_236 : decode cX10_two 236 = .ok (.aload_n 0, 1) := by decide +kernel
theorem dX10_two_237 : decode cX10_two 237 = .ok (.getfield 68, 3) := by decide +kernel
theorem dX10_two_240 : decode cX10_two 240 = .ok (.iconst 0, 1) := by decide +kernel
theorem dX10_two_241 : decode cX10_two 241 = .ok (.iaload, 1) := by decide +kernel
theorem dX10_two_242 : decode cX10_two 242 = .ok (.aload_n 0, 1) := by decide +kernel
theorem dX10_two_243 : decode cX10_two 243 = .ok (.getfield 68, 3) := by decide +kernel
theorem dX10_two_246 : decode cX10_two 246 = .ok (.iconst 1, 1) := by decide +kernel
theorem dX10_two_247 : decode cX10_two 247 = .ok (.iaload, 1) := by decide +kernel
theorem dX10_two_248 : decode cX10_two 248 = .ok (.aload_n 0, 1) := by decide +kernel
theorem dX10_two_249 : decode cX10_two 249 = .ok (.getfield 68, 3) := by decide +kernel
theorem dX10_two_252 : decode cX10_two 252 = .ok (.iconst 2, 1) := by decide +kernel
theorem dX10_two_253 : decode cX10_two 253 = .ok (.iaload, 1) := by decide +kernel
theorem dX10_two_254 : decode cX10_two 254 = .ok (.invokevirtual 203, 3) := by decide +kernel
theorem dX10_two_257 : decode cX10_two 257 = .ok (.aload_n 0, 1) := by decide +kernel
theorem dX10_two_258 : decode cX10_two 258 = .ok (.iload_n 1, 1) := by decide +kernel
theorem dX10_two_259 : decode cX10_two 259 = .ok (.aload_n 0, 1) := by decide +kernel
theorem dX10_two_260 : decode cX10_two 260 = .ok (.getfield 68, 3) := by decide +kernel
theorem dX10_two_263 : decode cX10_two 263 = .ok (.iconst 3, 1) := by decide +kernel
theorem dX10_two_264 : decode cX10_two 264 = .ok (.iaload, 1) := by decide +kernel
theorem dX10_two_265 : decode cX10_two 265 = .ok (.aload_n 0, 1) := by decide +kernel
theorem dX10_two_266 : decode cX10_two 266 = .ok (.getfield 68, 3) := by decide +kernel
theorem dX10_two_269 : decode cX10_two 269 = .ok (.iconst 4, 1) := by decide +kernel
theorem dX10_two_270 : decode cX10_two 270 = .ok (.iaload, 1) := by decide +kernel
theorem dX10_two_271 : decode cX10_two 271 = .ok (.aload_n 0, 1) := by decide +kernel
theorem dX10_two_272 : decode cX10_two 272 = .ok (.getfield 68, 3) := by decide +kernel
theorem dX10_two_275 : decode cX10_two 275 = .ok (.iconst 5, 1) := by decide +kernel
theorem dX10_two_276 : decode cX10_two 276 = .ok (.iaload, 1) := by decide +kernel
theorem dX10_two_277 : decode cX10_two 277 = .ok (.invokevirtual 203, 3) := by decide +kernel
theorem dX10_two_280 : decode cX10_two 280 = .ok (.aload_n 0, 1) := by decide +kernel
theorem dX10_two_281 : decode cX10_two 281 = .ok (.getfield 210, 3) := by decide +kernel
theorem dX10_two_284 : decode cX10_two 284 = .ok (.ireturn, 1) := by decide +kernel
set_option maxRecDepth 20000 in
theorem ggX10_renumber_X10_isYear : GoodIn wsX10_renumber wsX10_isYear := goodIn_r _ [8, 9, 10, 7, 11] (by decide +kernel) (by decide +kernel)
set_option maxRecDepth 20000 in
theorem gX10_renumber_X10_isYear : GoodIn wsX10_renumber (va_wsS RX10 151 yX10_isYear wsX10_isYear) := goodIn_app (goodIn_of _ (by decide +kernel)) ggX10_renumber_X10_isYear
set_option maxRecDepth 20000 in
theorem ggX10_renumber_X10_in : GoodIn wsX10_renumber wsX10_in := goodIn_r _ [11] (by decide +kernel) (by decide +kernel)
set_option maxRecDepth 20000 in
theorem gX10_renumber_X10_in : GoodIn wsX10_renumber (va_wsS RX10 120 yX10_in wsX10_in) := goodIn_app (goodIn_of _ (by decide +kernel)) ggX10_renumber_X10_in
theorem dX10_renumber_0 : decode cX10_renumber 0 = .ok (.iload_n 1, 1) := by decide +kernel
theorem dX10_renumber_1 : decode cX10_renumber 1 = .ok (.invokestatic 151, 3) := by decide +kernel
theorem dX10_renumber_4 : decode cX10_renumber 4 = .ok (.ifCond .eq 45, 3) := by decide +kernel
theorem dX10_renumber_7 : decode cX10_renumber 7 = .ok (.iload_n 2, 1) := by decide +kernel
theorem dX10_renumber_8 : decode cX10_renumber 8 = .ok (.iconst 1, 1) := by decide +kernel
theorem dX10_renumber_9 : decode cX10_renumber 9 = .ok (.iconst 3, 1) := by decide +kernel
theorem dX10_renumber_10 : decode cX10_renumber 10 = .ok (.invokestatic 120, 3) := by decide +kernel
theorem dX10_renumber_13 : decode cX10_renumber 13 = .ok (.ifCond .eq 36, 3) := by decide +kernel
theorem dX10_renumber_16 : decode cX10_renumber 16 = .ok (.iload_n 3, 1) := by decide +kernel
theorem dX10_renumber_17 : decode cX10_renumber 17 = .ok (.bipush (-100), 2) := by decide +kernel
theorem dX10_renumber_19 : decode cX10_renumber 19 = .ok (.bipush 100, 2) := by decide +kernel
theorem dX10_renumber_21 : decode cX10_renumber 21 = .ok (.invokestatic 120, 3) := by decide +kernel
theorem dX10_renumber_24 : decode cX10_renumber 24 = .ok (.ifCond .eq 25, 3) := by decide +kernel
theorem dX10_renumber_27 : decode cX10_renumber 27 = .ok (.aload_n 0, 1) := by decide +kernel
theorem dX10_renumber_28 : decode cX10_renumber 28 = .ok (.getfield 224, 3) := by decide +kernel
theorem dX10_renumber_31 : decode cX10_renumber 31 = .ok (.ifCond .le 20, 3) := by decide +kernel
theorem dX10_renumber_34 : decode cX10_renumber 34 = .ok (.iload_n 1, 1) := by decide +kernel
theorem dX10_renumber_35 : decode cX10_renumber 35 = .ok (.aload_n 0, 1) := by decide +kernel
theorem dX10_renumber_36 : decode cX10_renumber 36 = .ok (.getfield 74, 3) := by decide +kernel
theorem dX10_renumber_39 : decode cX10_renumber 39 = .ok (.aload_n 0, 1) := by decide +kernel
theorem dX10_renumber_40 : decode cX10_renumber 40 = .ok (.getfield 224, 3) := by decide +kernel
theorem dX10_renumber_43 : decode cX10_renumber 43 = .ok (.iconst 1, 1) := by decide +kernel
theorem dX10_renumber_44 : decode cX10_renumber 44 = .ok (.isub, 1) := by decide +kernel
theorem dX10_renumber_45 : decode cX10_renumber 45 = .ok (.iaload, 1) := by decide +kernel
theorem dX10_renumber_46 : decode cX10_renumber 46 = .ok (.if_icmp .gt 5, 3) := by decide +kernel
theorem dX10_renumber_49 : decode cX10_renumber 49 = .ok (.iconst (-1), 1) := by decide +kernel
theorem dX10_renumber_50 : decode cX10_renumber 50 = .ok (.ireturn, 1) := by decide +kernel
theorem dX10_renumber_51 : decode cX10_renumber 51 = .ok (.aload_n 0, 1) := by decide +kernel
theorem dX10_renumber_52 : decode cX10_renumber 52 = .ok (.getfield 224, 3) := by decide +kernel
theorem dX10_renumber_55 : decode cX10_renumber 55 = .ok (.bipush 8, 2) := by decide +kernel
theorem dX10_renumber_57 : decode cX10_renumber 57 = .ok (.if_icmp .ne 6, 3) := by decide +kernel
theorem dX10_renumber_60 : decode cX10_renumber 60 = .ok (.bipush (-2), 2) := by decide +kernel
theorem dX10_renumber_62 : decode cX10_renumber 62 = .ok (.ireturn, 1) := by decide +kernel
theorem dX10_renumber_63 : decode cX10_renumber 63 = .ok (.aload_n 0, 1) := by decide +kernel
theorem dX10_renumber_64 : decode cX10_renumber 64 = .ok (.getfield 74, 3) := by decide +kernel
theorem dX10_renumber_67 : decode cX10_renumber 67 = .ok (.aload_n 0, 1) := by decide +kernel
theorem dX10_renumber_68 : decode cX10_renumber 68 = .ok (.getfield 224, 3) := by decide +kernel
theorem dX10_renumber_71 : decode cX10_renumber 71 = .ok (.iload_n 1, 1) := by decide +kernel
theorem dX10_renumber_72 : decode cX10_renumber 72 = .ok (.iastore, 1) := by decide +kernel
theorem dX10_renumber_73 : decode cX10_renumber 73 = .ok (.aload_n 0, 1) := by decide +kernel
theorem dX10_renumber_74 : decode cX10_renumber 74 = .ok (.getfield 77, 3) := by decide +kernel
theorem dX10_renumber_77 : decode cX10_renumber 77 = .ok (.aload_n 0, 1) := by decide +kernel
theorem dX10_renumber_78 : decode cX10_renumber 78 = .ok (.getfield 224, 3) := by decide +kernel
theorem dX10_renumber_81 : decode cX10_renumber 81 = .ok (.iload_n 2, 1) := by decide +kernel
theorem dX10_renumber_82 : decode cX10_renumber 82 = .ok (.iastore, 1) := by decide +kernel
theorem dX10_renumber_83 : decode cX10_renumber 83 = .ok (.aload_n 0, 1) := by decide +kernel
theorem dX10_renumber_84 : decode cX10_renumber 84 = .ok (.getfield 80, 3) := by decide +kernel
theorem dX10_renumber_87 : decode cX10_renumber 87 = .ok (.aload_n 0, 1) := by decide +kernel
theorem dX10_renumber_88 : decode cX10_renumber 88 = .ok (.getfield 224, 3) := by decide +kernel
theorem dX10_renumber_91 : decode cX10_renumber 91 = .ok (.iload_n 3, 1) := by decide +kernel
theorem dX10_renumber_92 : decode cX10_renumber 92 = .ok (.iastore, 1) := by decide +kernel
theorem dX10_renumber_93 : decode cX10_renumber 93 = .ok (.aload_n 0, 1) := by decide +kernel
theorem dX10_renumber_94 : decode cX10_renumber 94 = .ok (.dup, 1) := by decide +kernel
theorem dX10_renumber_95 : decode cX10_renumber 95 = .ok (.getfield 224, 3) := by decide +kernel
theorem dX10_renumber_98 : decode cX10_renumber 98 = .ok (.iconst 1, 1) := by decide +kernel
theorem dX10_renumber_99 : decode cX10_renumber 99 = .ok (.iadd, 1) := by decide +kernel
theorem dX10_renumber_100 : decode cX10_renumber 100 = .ok (.putfield 224, 3) := by decide +kernel
theorem dX10_renumber_103 : decode cX10_renumber 103 = .ok (.aload_n 0, 1) := by decide +kernel
theorem dX10_renumber_104 : decode cX10_renumber 104 = .ok (.getfield 224, 3) := by decide +kernel
theorem dX10_renumber_107 : decode cX10_renumber 107 = .ok (.ireturn, 1) := by decide +kernel
theorem dX10_numberIn_0 : decode cX10_numberIn 0 = .ok (.iload_n 3, 1) := by decide +kernel
theorem dX10_numberIn_1 : decode cX10_numberIn 1 = .ok (.iload_n 2, 1) := by decide +kernel
theorem dX10_numberIn_2 : decode cX10_numberIn 2 = .ok (.if_icmp .ge 6, 3) := by decide +kernel
theorem dX10_numberIn_5 : decode cX10_numberIn 5 = .ok (.bipush (-9), 2) := by decide +kernel
theorem dX10_numberIn_7 : decode cX10_numberIn 7 = .ok (.ireturn, 1) := by decide +kernel
theorem dX10_numberIn_8 : decode cX10_numberIn 8 = .ok (.iload_n 1, 1) := by decide +kernel
theorem dX10_numberIn_9 : decode cX10_numberIn 9 = .ok (.istore 4, 2) := by decide +kernel
theorem dX10_numberIn_11 : decode cX10_numberIn 11 = .ok (.iconst 0, 1) := by decide +kernel
theorem dX10_numberIn_12 : decode cX10_numberIn 12 = .ok (.istore 5, 2) := by decide +kernel
theorem dX10_numberIn_14 : decode cX10_numberIn 14 = .ok (.iload 5, 2) := by decide +kernel
theorem dX10_numberIn_16 : decode cX10_numberIn 16 = .ok (.aload_n 0, 1) := by decide +kernel
theorem dX10_numberIn_17 : decode cX10_numberIn 17 = .ok (.getfield 224, 3) := by decide +kernel
theorem dX10_numberIn_20 : decode cX10_numberIn 20 = .ok (.if_icmp .ge 79, 3) := by decide +kernel
theorem dX10_numberIn_23 : decode cX10_numberIn 23 = .ok (.aload_n 0, 1) := by decide +kernel
theorem dX10_numberIn_24 : decode cX10_numberIn 24 = .ok (.getfield 74, 3) := by decide +kernel
theorem dX10_numberIn_27 : decode cX10_numberIn 27 = .ok (.iload 5, 2) := by decide +kernel
theorem dX10_numberIn_29 : decode cX10_numberIn 29 = .ok (.iaload, 1) := by decide +kernel
theorem dX10_numberIn_30 : decode cX10_numberIn 30 = .ok (.iload_n 2, 1) := by decide +kernel
theorem dX10_numberIn_31 : decode cX10_numberIn 31 = .ok (.if_icmp .le 62, 3) := by decide +kernel
theorem dX10_numberIn_34 : decode cX10_numberIn 34 = .ok (.aload_n 0, 1) := by decide +kernel
theorem dX10_numberIn_35 : decode cX10_numberIn 35 = .ok (.getfield 74, 3) := by decide +kernel
theorem dX10_numberIn_38 : decode cX10_numberIn 38 = .ok (.iload 5, 2) := by decide +kernel
theorem dX10_numberIn_40 : decode cX10_numberIn 40 = .ok (.iaload, 1) := by decide +kernel
theorem dX10_numberIn_41 : decode cX10_numberIn 41 = .ok (.iload_n 3, 1) := by decide +kernel
theorem dX10_numberIn_42 : decode cX10_numberIn 42 = .ok (.if_icmp .gt 51, 3) := by decide +kernel
theorem dX10_numberIn_45 : decode cX10_numberIn 45 = .ok (.iload 4, 2) := by decide +kernel
theorem dX10_numberIn_47 : decode cX10_numberIn 47 = .ok (.aload_n 0, 1) := by decide +kernel
theorem dX10_numberIn_48 : decode cX10_numberIn 48 = .ok (.getfield 77, 3) := by decide +kernel
theorem dX10_numberIn_51 : decode cX10_numberIn 51 = .ok (.iload 5, 2) := by decide +kernel
theorem dX10_numberIn_53 : decode cX10_numberIn 53 = .ok (.iaload, 1) := by decide +kernel
theorem dX10_numberIn_54 : decode cX10_numberIn 54 = .ok (.imul, 1) := by decide +kernel
theorem dX10_numberIn_55 : decode cX10_numberIn 55 = .ok (.aload_n 0, 1) := by decide +kernel
theorem dX10_numberIn_56 : decode cX10_numberIn 56 = .ok (.getfield 80, 3) := by decide +kernel
theorem dX10_numberIn_59 : decode cX10_numberIn 59 = .ok (.iload 5, 2) := by decide +kernel
theorem dX10_numberIn_61 : decode cX10_numberIn 61 = .ok (.iaload, 1) := by decide +kernel
theorem dX10_numberIn_62 : decode cX10_numberIn 62 = .ok (.iadd, 1) := by decide +kernel
theorem dX10_numberIn_63 : decode cX10_numberIn 63 = .ok (.istore 4, 2) := by decide +kernel
theorem dX10_numberIn_65 : decode cX10_numberIn 65 = .ok (.iload 4, 2) := by decide +kernel
theorem dX10_numberIn_67 : decode cX10_numberIn 67 = .ok (.iconst 1, 1) := by decide +kernel
theorem dX10_numberIn_68 : decode cX10_numberIn 68 = .ok (.if_icmp .ge 7, 3) := by decide +kernel
theorem dX10_numberIn_71 : decode cX10_numberIn 71 = .ok (.iconst 1, 1) := by decide +kernel
theorem dX10_numberIn_72 : decode cX10_numberIn 72 = .ok (.goto 19, 3) := by decide +kernel
theorem dX10_numberIn_75 : decode cX10_numberIn 75 = .ok (.iload 4, 2) := by decide +kernel
theorem dX10_numberIn_77 : decode cX10_numberIn 77 = .ok (.sipush 200, 3) := by decide +kernel
theorem dX10_numberIn_80 : decode cX10_numberIn 80 = .ok (.if_icmp .le 9, 3) := by decide +kernel
theorem dX10_numberIn_83 : decode cX10_numberIn 83 = .ok (.sipush 200, 3) := by decide +kernel
theorem dX10_numberIn_86 : decode cX10_numberIn 86 = .ok (.goto 5, 3) := by decide +kernel
theorem dX10_numberIn_89 : decode cX10_numberIn 89 = .ok (.iload 4, 2) := by decide +kernel
theorem dX10_numberIn_91 : decode cX10_numberIn 91 = .ok (.istore 4, 2) := by decide +kernel
theorem dX10_numberIn_93 : decode cX10_numberIn 93 = .ok (.iinc 5 1, 3) := by decide +kernel
theorem dX10_numberIn_96 : decode cX10_numberIn 96 = .ok (.goto (-82), 3) := by decide +kernel
theorem dX10_numberIn_99 : decode cX10_numberIn 99 = .ok (.iload 4, 2) := by decide +kernel
theorem dX10_numberIn_101 : decode cX10_numberIn 101 = .ok (.ireturn, 1) := by decide +kernel
set_option maxRecDepth 20000 in
theorem ggX10_number_X10_isHouse : GoodIn wsX10_number wsX10_isHouse := goodIn_r _ [4, 5, 6, 3, 7] (by decide +kernel) (by decide +kernel)
set_option maxRecDepth 20000 in
theorem gX10_number_X10_isHouse : GoodIn wsX10_number (va_wsS RX10 148 yX10_isHouse wsX10_isHouse) := goodIn_app (goodIn_of _ (by decide +kernel)) ggX10_number_X10_isHouse
set_option maxRecDepth 20000 in
theorem ggX10_number_X10_isYear : GoodIn wsX10_number wsX10_isYear := goodIn_r _ [10, 5, 6, 3, 7] (by decide +kernel) (by decide +kernel)
set_option maxRecDepth 20000 in
theorem gX10_number_X10_isYear : GoodIn wsX10_number (va_wsS RX10 151 yX10_isYear wsX10_isYear) := goodIn_app (goodIn_of _ (by decide +kernel)) ggX10_number_X10_isYear
set_option maxRecDepth 20000 in
theorem ggX10_number_X10_numberIn : GoodIn wsX10_number wsX10_numberIn := goodIn_r _ [14, 15, 16, 17, 18, 19, 20, 21, 22, 23, 24, 25, 26, 27, 28, 29, 30, 31, 32, 33, 34, 35, 36, 37, 38, 39, 40, 41, 42, 43, 44, 45, 46, 47, 48, 49, 50, 51, 52, 53, 54, 55, 56, 57, 58, 59, 60, 61, 62] (by decide +kernel) (by decide +kernel)
set_option maxRecDepth 20000 in
theorem gX10_number_X10_numberIn : GoodIn wsX10_number (wsV RX10 227 RX10 yX10_numberIn wsX10_numberIn) := goodIn_app (goodIn_of _ (by decide +kernel)) ggX10_number_X10_numberIn
theorem dX10_number_0 : decode cX10_number 0 = .ok (.iload_n 1, 1) := by decide +kernel
theorem dX10_number_1 : decode cX10_number 1 = .ok (.invokestatic 148, 3) := by decide +kernel
theorem dX10_number_4 : decode cX10_number 4 = .ok (.ifCond .eq 27, 3) := by decide +kernel
theorem dX10_number_7 : decode cX10_number 7 = .ok (.iload_n 2, 1) := by decide +kernel
theorem dX10_number_8 : decode cX10_number 8 = .ok (.invokestatic 151, 3) := by decide +kernel
theorem dX10_number_11 : decode cX10_number 11 = .ok (.ifCond .eq 20, 3) := by decide +kernel
theorem dX10_number_14 : decode cX10_number 14 = .ok (.iload_n 3, 1) := by decide +kernel
theorem dX10_number_15 : decode cX10_number 15 = .ok (.invokestatic 151, 3) := by decide +kernel
theorem dX10_number_18 : decode cX10_number 18 = .ok (.ifCond .eq 13, 3) := by decide +kernel
theorem dX10_number_21 : decode cX10_number 21 = .ok (.aload_n 0, 1) := by decide +kernel
theorem dX10_number_22 : decode cX10_number 22 = .ok (.iload_n 1, 1) := by decide +kernel
theorem dX10_number_23 : decode cX10_number 23 = .ok (.iload_n 2, 1) := by decide +kernel
theorem dX10_number_24 : decode cX10_number 24 = .ok (.iload_n 3, 1) := by decide +kernel
theorem dX10_number_25 : decode cX10_number 25 = .ok (.invokevirtual 227, 3) := by decide +kernel
theorem dX10_number_28 : decode cX10_number 28 = .ok (.goto 4, 3) := by decide +kernel
theorem dX10_number_31 : decode cX10_number 31 = .ok (.iconst (-1), 1) := by decide +kernel
theorem dX10_number_32 : decode cX10_number 32 = .ok (.ireturn, 1) := by decide +kernel
set_option maxRecDepth 20000 in
theorem ggX10_address_X10_isHouse : GoodIn wsX10_address wsX10_isHouse := goodIn_r _ [6, 7, 8, 5, 9] (by decide +kernel) (by decide +kernel)
set_option maxRecDepth 20000 in
theorem gX10_address_X10_isHouse : GoodIn wsX10_address (va_wsS RX10 148 yX10_isHouse wsX10_isHouse) := goodIn_app (goodIn_of _ (by decide +kernel)) ggX10_address_X10_isHouse
set_option maxRecDepth 20000 in
theorem ggX10_address_X10_isYear : GoodIn wsX10_address wsX10_isYear := goodIn_r _ [12, 7, 8, 5, 9] (by decide +kernel) (by decide +kernel)
set_option maxRecDepth 20000 in
theorem gX10_address_X10_isYear : GoodIn wsX10_address (va_wsS RX10 151 yX10_isYear wsX10_isYear) := goodIn_app (goodIn_of _ (by decide +kernel)) ggX10_address_X10_isYear
theorem dX10_address_0 : decode cX10_address 0 = .ok (.iload_n 1, 1) := by decide +kernel
theorem dX10_address_1 : decode cX10_address 1 = .ok (.invokestatic 148, 3) := by decide +kernel
theorem dX10_address_4 : decode cX10_address 4 = .ok (.ifCond .eq 10, 3) := by decide +kernel
theorem dX10_address_7 : decode cX10_address 7 = .ok (.iload_n 2, 1) := by decide +kernel
theorem dX10_address_8 : decode cX10_address 8 = .ok (.invokestatic 151, 3) := by decide +kernel
theorem dX10_address_11 : decode cX10_address 11 = .ok (.ifCond .ne 5, 3) := by decide +kernel
theorem dX10_address_14 : decode cX10_address 14 = .ok (.iconst (-1), 1) := by decide +kernel
theorem dX10_address_15 : decode cX10_address 15 = .ok (.ireturn, 1) := by decide +kernel
theorem dX10_address_16 : decode cX10_address 16 = .ok (.aload_n 0, 1) := by decide +kernel
theorem dX10_address_17 : decode cX10_address 17 = .ok (.iload_n 1, 1) := by decide +kernel
theorem dX10_address_18 : decode cX10_address 18 = .ok (.putfield 83, 3) := by decide +kernel
theorem dX10_address_21 : decode cX10_address 21 = .ok (.aload_n 0, 1) := by decide +kernel
theorem dX10_address_22 : decode cX10_address 22 = .ok (.iload_n 2, 1) := by decide +kernel
theorem dX10_address_23 : decode cX10_address 23 = .ok (.putfield 87, 3) := by decide +kernel
theorem dX10_address_26 : decode cX10_address 26 = .ok (.iconst 1, 1) := by decide +kernel
theorem dX10_address_27 : decode cX10_address 27 = .ok (.ireturn, 1) := by decide +kernel
set_option maxRecDepth 20000 in
theorem ggX10_hasSpan_X10_numberIn : GoodIn wsX10_hasSpan wsX10_numberIn := goodIn_r _ [11, 12, 13, 14, 15, 16, 17, 18, 19, 20, 21, 22, 23, 24, 25, 26, 27, 28, 29, 30, 31, 32, 33, 34, 35, 36, 37, 38, 39, 40, 41, 42, 43, 44, 45, 46, 47, 48, 49, 50, 51, 52, 53, 54, 55, 56, 57, 58, 59] (by decide +kernel) (by decide +kernel)
set_option maxRecDepth 20000 in
theorem gX10_hasSpan_X10_numberIn : GoodIn wsX10_hasSpan (wsV RX10 227 RX10 yX10_numberIn wsX10_numberIn) := goodIn_app (goodIn_of _ (by decide +kernel)) ggX10_hasSpan_X10_numberIn
theorem dX10_hasSpan_0 : decode cX10_hasSpan 0 = .ok (.aload_n 0, 1) := by decide +kernel
theorem dX10_hasSpan_1 : decode cX10_hasSpan 1 = .ok (.getfield 25, 3) := by decide +kernel
theorem dX10_hasSpan_4 : decode cX10_hasSpan 4 = .ok (.iload_n 1, 1) := by decide +kernel
theorem dX10_hasSpan_5 : decode cX10_hasSpan 5 = .ok (.iaload, 1) := by decide +kernel
theorem dX10_hasSpan_6 : decode cX10_hasSpan 6 = .ok (.ifCond .eq 59, 3) := by decide +kernel
theorem dX10_hasSpan_9 : decode cX10_hasSpan 9 = .ok (.aload_n 0, 1) := by decide +kernel
theorem dX10_hasSpan_10 : decode cX10_hasSpan 10 = .ok (.getfield 44, 3) := by decide +kernel
theorem dX10_hasSpan_13 : decode cX10_hasSpan 13 = .ok (.iload_n 1, 1) := by decide +kernel
theorem dX10_hasSpan_14 : decode cX10_hasSpan 14 = .ok (.iaload, 1) := by decide +kernel
theorem dX10_hasSpan_15 : decode cX10_hasSpan 15 = .ok (.aload_n 0, 1) := by decide +kernel
theorem dX10_hasSpan_16 : decode cX10_hasSpan 16 = .ok (.getfield 87, 3) := by decide +kernel
theorem dX10_hasSpan_19 : decode cX10_hasSpan 19 = .ok (.if_icmp .lt 50, 3) := by decide +kernel
theorem dX10_hasSpan_22 : decode cX10_hasSpan 22 = .ok (.aload_n 0, 1) := by decide +kernel
theorem dX10_hasSpan_23 : decode cX10_hasSpan 23 = .ok (.aload_n 0, 1) := by decide +kernel
theorem dX10_hasSpan_24 : decode cX10_hasSpan 24 = .ok (.getfield 83, 3) := by decide +kernel
theorem dX10_hasSpan_27 : decode cX10_hasSpan 27 = .ok (.aload_n 0, 1) := by decide +kernel
theorem dX10_hasSpan_28 : decode cX10_hasSpan 28 = .ok (.getfield 87, 3) := by decide +kernel
theorem dX10_hasSpan_31 : decode cX10_hasSpan 31 = .ok (.aload_n 0, 1) := by decide +kernel
theorem dX10_hasSpan_32 : decode cX10_hasSpan 32 = .ok (.getfield 44, 3) := by decide +kernel
theorem dX10_hasSpan_35 : decode cX10_hasSpan 35 = .ok (.iload_n 1, 1) := by decide +kernel
theorem dX10_hasSpan_36 : decode cX10_hasSpan 36 = .ok (.iaload, 1) := by decide +kernel
theorem dX10_hasSpan_37 : decode cX10_hasSpan 37 = .ok (.invokevirtual 227, 3) := by decide +kernel
theorem dX10_hasSpan_40 : decode cX10_hasSpan 40 = .ok (.aload_n 0, 1) := by decide +kernel
theorem dX10_hasSpan_41 : decode cX10_hasSpan 41 = .ok (.aload_n 0, 1) := by decide +kernel
theorem dX10_hasSpan_42 : decode cX10_hasSpan 42 = .ok (.getfield 38, 3) := by decide +kernel
theorem dX10_hasSpan_45 : decode cX10_hasSpan 45 = .ok (.iload_n 1, 1) := by decide +kernel
theorem dX10_hasSpan_46 : decode cX10_hasSpan 46 = .ok (.iaload, 1) := by decide +kernel
theorem dX10_hasSpan_47 : decode cX10_hasSpan 47 = .ok (.aload_n 0, 1) := by decide +kernel
theorem dX10_hasSpan_48 : decode cX10_hasSpan 48 = .ok (.getfield 41, 3) := by decide +kernel
theorem dX10_hasSpan_51 : decode cX10_hasSpan 51 = .ok (.iload_n 1, 1) := by decide +kernel
theorem dX10_hasSpan_52 : decode cX10_hasSpan 52 = .ok (.iaload, 1) := by decide +kernel
theorem dX10_hasSpan_53 : decode cX10_hasSpan 53 = .ok (.aload_n 0, 1) := by decide +kernel
theorem dX10_hasSpan_54 : decode cX10_hasSpan 54 = .ok (.getfield 44, 3) := by decide +kernel
theorem dX10_hasSpan_57 : decode cX10_hasSpan 57 = .ok (.iload_n 1, 1) := by decide +kernel
theorem dX10_hasSpan_58 : decode cX10_hasSpan 58 = .ok (.iaload, 1) := by decide +kernel
theorem dX10_hasSpan_59 : decode cX10_hasSpan 59 = .ok (.invokevirtual 227, 3) := by decide +kernel
theorem dX10_hasSpan_62 : decode cX10_hasSpan 62 = .ok (.if_icmp .ne 7, 3) := by decide +kernel
theorem dX10_hasSpan_65 : decode cX10_hasSpan 65 = .ok (.iconst 1, 1) := by decide +kernel
theorem dX10_hasSpan_66 : decode cX10_hasSpan 66 = .ok (.goto 4, 3) := by decide +kernel
theorem dX10_hasSpan_69 : decode cX10_hasSpan 69 = .ok (.iconst 0, 1) := by decide +kernel
theorem dX10_hasSpan_70 : decode cX10_hasSpan 70 = .ok (.ireturn, 1) := by decide +kernel
theorem dX10_yearOf_0 : decode cX10_yearOf 0 = .ok (.aload_n 0, 1) := by decide +kernel
theorem dX10_yearOf_1 : decode cX10_yearOf 1 = .ok (.getfield 25, 3) := by decide +kernel
theorem dX10_yearOf_4 : decode cX10_yearOf 4 = .ok (.iload_n 1, 1) := by decide +kernel
theorem dX10_yearOf_5 : decode cX10_yearOf 5 = .ok (.iaload, 1) := by decide +kernel
theorem dX10_yearOf_6 : decode cX10_yearOf 6 = .ok (.ifCond .ne 19, 3) := by decide +kernel
theorem dX10_yearOf_9 : decode cX10_yearOf 9 = .ok (.iload_n 2, 1) := by decide +kernel
theorem dX10_yearOf_10 : decode cX10_yearOf 10 = .ok (.ifCond .eq 9, 3) := by decide +kernel
theorem dX10_yearOf_13 : decode cX10_yearOf 13 = .ok (.sipush 2100, 3) := by decide +kernel
theorem dX10_yearOf_16 : decode cX10_yearOf 16 = .ok (.goto 28, 3) := by decide +kernel
theorem dX10_yearOf_19 : decode cX10_yearOf 19 = .ok (.sipush 1700, 3) := by decide +kernel
theorem dX10_yearOf_22 : decode cX10_yearOf 22 = .ok (.goto 22, 3) := by decide +kernel
theorem dX10_yearOf_25 : decode cX10_yearOf 25 = .ok (.iload_n 2, 1) := by decide +kernel
theorem dX10_yearOf_26 : decode cX10_yearOf 26 = .ok (.ifCond .eq 12, 3) := by decide +kernel
theorem dX10_yearOf_29 : decode cX10_yearOf 29 = .ok (.aload_n 0, 1) := by decide +kernel
theorem dX10_yearOf_30 : decode cX10_yearOf 30 = .ok (.getfield 44, 3) := by decide +kernel
theorem dX10_yearOf_33 : decode cX10_yearOf 33 = .ok (.iload_n 1, 1) := by decide +kernel
theorem dX10_yearOf_34 : decode cX10_yearOf 34 = .ok (.iaload, 1) := by decide +kernel
theorem dX10_yearOf_35 : decode cX10_yearOf 35 = .ok (.goto 9, 3) := by decide +kernel
theorem dX10_yearOf_38 : decode cX10_yearOf 38 = .ok (.aload_n 0, 1) := by decide +kernel
theorem dX10_yearOf_39 : decode cX10_yearOf 39 = .ok (.getfield 41, 3) := by decide +kernel
theorem dX10_yearOf_42 : decode cX10_yearOf 42 = .ok (.iload_n 1, 1) := by decide +kernel
theorem dX10_yearOf_43 : decode cX10_yearOf 43 = .ok (.iaload, 1) := by decide +kernel
theorem dX10_yearOf_44 : decode cX10_yearOf 44 = .ok (.ireturn, 1) := by decide +kernel
set_option maxRecDepth 20000 in
theorem ggX10_span_X10_askedFor : GoodIn wsX10_span wsX10_askedFor := goodIn_r _ [5, 6, 7, 8, 9, 4, 10, 11, 12, 13, 14, 15, 16, 17, 18, 19, 20, 43, 44, 45, 46, 47, 48, 49, 50, 51, 52, 53, 54, 55, 56, 57, 58, 59, 60, 61, 62, 63, 64, 65, 66, 67, 68, 69, 70, 71, 72, 73, 74, 75, 76, 77, 78, 79, 80, 81, 82, 83, 84, 85, 86] (by decide +kernel) (by decide +kernel)
set_option maxRecDepth 20000 in
theorem gX10_span_X10_askedFor : GoodIn wsX10_span (wsV RX10 160 RX10 yX10_askedFor wsX10_askedFor) := goodIn_app (goodIn_of _ (by decide +kernel)) ggX10_span_X10_askedFor
set_option maxRecDepth 20000 in
theorem ggX10_span_X10_hasSpan : GoodIn wsX10_span wsX10_hasSpan := goodIn_r _ [24, 25, 26, 27, 28, 29, 30, 31, 32, 33, 4, 34, 35, 36, 37, 38, 43, 44, 45, 46, 47, 48, 49, 50, 51, 52, 53, 54, 55, 56, 57, 58, 59, 60, 61, 62, 63, 64, 65, 66, 67, 68, 69, 70, 71, 72, 73, 74, 75, 76, 77, 78, 79, 80, 81, 82, 83, 84, 85, 86] (by decide +kernel) (by decide +kernel)
set_option maxRecDepth 20000 in
theorem gX10_span_X10_hasSpan : GoodIn wsX10_span (wsV RX10 231 RX10 yX10_hasSpan wsX10_hasSpan) := goodIn_app (goodIn_of _ (by decide +kernel)) ggX10_span_X10_hasSpan
set_option maxRecDepth 20000 in
theorem ggX10_span_X10_yearOf : GoodIn wsX10_span wsX10_yearOf := goodIn_r _ [42, 25, 26, 30, 43, 44, 45, 46, 47, 48, 49, 50, 51, 52, 53, 54, 55, 56, 57, 58, 59, 60, 61, 62, 63, 64, 65, 66, 67, 68, 69, 70, 71, 72, 73, 74, 75, 76, 77, 78, 79, 80, 81, 82, 83, 84, 85, 86] (by decide +kernel) (by decide +kernel)
set_option maxRecDepth 20000 in
theorem gX10_span_X10_yearOf : GoodIn wsX10_span (wsV RX10 234 RX10 yX10_yearOf wsX10_yearOf) := goodIn_app (goodIn_of _ (by decide +kernel)) ggX10_span_X10_yearOf
theorem dX10_span_0 : decode cX10_span 0 = .ok (.aload_n 0, 1) := by decide +kernel
theorem dX10_span_1 : decode cX10_span 1 = .ok (.iload_n 1, 1) := by decide +kernel
theorem dX10_span_2 : decode cX10_span 2 = .ok (.invokevirtual 160, 3) := by decide +kernel
theorem dX10_span_5 : decode cX10_span 5 = .ok (.istore_n 3, 1) := by decide +kernel
theorem dX10_span_6 : decode cX10_span 6 = .ok (.iload_n 3, 1) := by decide +kernel
theorem dX10_span_7 : decode cX10_span 7 = .ok (.ifCond .ge 7, 3) := by decide +kernel
theorem dX10_span_10 : decode cX10_span 10 = .ok (.iload_n 3, 1) := by decide +kernel
theorem dX10_span_11 : decode cX10_span 11 = .ok (.goto 22, 3) := by decide +kernel
theorem dX10_span_14 : decode cX10_span 14 = .ok (.aload_n 0, 1) := by decide +kernel
theorem dX10_span_15 : decode cX10_span 15 = .ok (.iload_n 1, 1) := by decide +kernel
theorem dX10_span_16 : decode cX10_span 16 = .ok (.invokevirtual 231, 3) := by decide +kernel
theorem dX10_span_19 : decode cX10_span 19 = .ok (.ifCond .eq 12, 3) := by decide +kernel
theorem dX10_span_22 : decode cX10_span 22 = .ok (.aload_n 0, 1) := by decide +kernel
theorem dX10_span_23 : decode cX10_span 23 = .ok (.iload_n 1, 1) := by decide +kernel
theorem dX10_span_24 : decode cX10_span 24 = .ok (.iload_n 2, 1) := by decide +kernel
theorem dX10_span_25 : decode cX10_span 25 = .ok (.invokevirtual 234, 3) := by decide +kernel
theorem dX10_span_28 : decode cX10_span 28 = .ok (.goto 5, 3) := by decide +kernel
theorem dX10_span_31 : decode cX10_span 31 = .ok (.bipush (-9), 2) := by decide +kernel
theorem dX10_span_33 : decode cX10_span 33 = .ok (.ireturn, 1) := by decide +kernel
set_option maxRecDepth 20000 in
theorem ggX10_agrees_X10_isLine : GoodIn wsX10_agrees wsX10_isLine := goodIn_r _ [6, 7, 8, 5, 9] (by decide +kernel) (by decide +kernel)
set_option maxRecDepth 20000 in
theorem gX10_agrees_X10_isLine : GoodIn wsX10_agrees (va_wsS RX10 173 yX10_isLine wsX10_isLine) := goodIn_app (goodIn_of _ (by decide +kernel)) ggX10_agrees_X10_isLine
set_option maxRecDepth 20000 in
theorem ggX10_agrees_X10_yearOf : GoodIn wsX10_agrees wsX10_yearOf := goodIn_r _ [13, 14, 15, 16, 32, 33, 34, 35, 36, 37, 38, 39, 40, 41, 42, 43, 44, 45, 46, 47, 48, 49, 50, 51, 52, 53, 54, 55, 56, 57, 58, 59, 60, 61, 62, 63, 64, 65, 66, 67, 68, 69, 70, 71, 72, 73, 74, 75] (by decide +kernel) (by decide +kernel)
set_option maxRecDepth 20000 in
theorem gX10_agrees_X10_yearOf : GoodIn wsX10_agrees (wsV RX10 234 RX10 yX10_yearOf wsX10_yearOf) := goodIn_app (goodIn_of _ (by decide +kernel)) ggX10_agrees_X10_yearOf
set_option maxRecDepth 20000 in
theorem ggX10_agrees_X10_hasSpan : GoodIn wsX10_agrees wsX10_hasSpan := goodIn_r _ [20, 14, 15, 21, 22, 23, 16, 24, 25, 26, 5, 27, 28, 29, 30, 31, 32, 33, 34, 35, 36, 37, 38, 39, 40, 41, 42, 43, 44, 45, 46, 47, 48, 49, 50, 51, 52, 53, 54, 55, 56, 57, 58, 59, 60, 61, 62, 63, 64, 65, 66, 67, 68, 69, 70, 71, 72, 73, 74, 75] (by decide +kernel) (by decide +kernel)
set_option maxRecDepth 20000 in
theorem gX10_agrees_X10_hasSpan : GoodIn wsX10_agrees (wsV RX10 231 RX10 yX10_hasSpan wsX10_hasSpan) := goodIn_app (goodIn_of _ (by decide +kernel)) ggX10_agrees_X10_hasSpan
theorem dX10_agrees_0 : decode cX10_agrees 0 = .ok (.iload_n 1, 1) := by decide +kernel
theorem dX10_agrees_1 : decode cX10_agrees 1 = .ok (.invokestatic 173, 3) := by decide +kernel
theorem dX10_agrees_4 : decode cX10_agrees 4 = .ok (.ifCond .ne 5, 3) := by decide +kernel
theorem dX10_agrees_7 : decode cX10_agrees 7 = .ok (.iconst (-1), 1) := by decide +kernel
theorem dX10_agrees_8 : decode cX10_agrees 8 = .ok (.ireturn, 1) := by decide +kernel
theorem dX10_agrees_9 : decode cX10_agrees 9 = .ok (.aload_n 0, 1) := by decide +kernel
theorem dX10_agrees_10 : decode cX10_agrees 10 = .ok (.getfield 56, 3) := by decide +kernel
theorem dX10_agrees_13 : decode cX10_agrees 13 = .ok (.iload_n 1, 1) := by decide +kernel
theorem dX10_agrees_14 : decode cX10_agrees 14 = .ok (.iaload, 1) := by decide +kernel
theorem dX10_agrees_15 : decode cX10_agrees 15 = .ok (.ifCond .ne 6, 3) := by decide +kernel
theorem dX10_agrees_18 : decode cX10_agrees 18 = .ok (.bipush (-4), 2) := by decide +kernel
theorem dX10_agrees_20 : decode cX10_agrees 20 = .ok (.ireturn, 1) := by decide +kernel
theorem dX10_agrees_21 : decode cX10_agrees 21 = .ok (.sipush 1700, 3) := by decide +kernel
theorem dX10_agrees_24 : decode cX10_agrees 24 = .ok (.istore_n 2, 1) := by decide +kernel
theorem dX10_agrees_25 : decode cX10_agrees 25 = .ok (.iconst 0, 1) := by decide +kernel
theorem dX10_agrees_26 : decode cX10_agrees 26 = .ok (.istore_n 3, 1) := by decide +kernel
theorem dX10_agrees_27 : decode cX10_agrees 27 = .ok (.iload_n 3, 1) := by decide +kernel
theorem dX10_agrees_28 : decode cX10_agrees 28 = .ok (.aload_n 0, 1) := by decide +kernel
theorem dX10_agrees_29 : decode cX10_agrees 29 = .ok (.getfield 56, 3) := by decide +kernel
theorem dX10_agrees_32 : decode cX10_agrees 32 = .ok (.iload_n 1, 1) := by decide +kernel
theorem dX10_agrees_33 : decode cX10_agrees 33 = .ok (.iaload, 1) := by decide +kernel
theorem dX10_agrees_34 : decode cX10_agrees 34 = .ok (.if_icmp .ge 67, 3) := by decide +kernel
theorem dX10_agrees_37 : decode cX10_agrees 37 = .ok (.aload_n 0, 1) := by decide +kernel
theorem dX10_agrees_38 : decode cX10_agrees 38 = .ok (.getfield 59, 3) := by decide +kernel
theorem dX10_agrees_41 : decode cX10_agrees 41 = .ok (.iconst 3, 1) := by decide +kernel
theorem dX10_agrees_42 : decode cX10_agrees 42 = .ok (.iload_n 1, 1) := by decide +kernel
theorem dX10_agrees_43 : decode cX10_agrees 43 = .ok (.imul, 1) := by decide +kernel
theorem dX10_agrees_44 : decode cX10_agrees 44 = .ok (.iload_n 3, 1) := by decide +kernel
theorem dX10_agrees_45 : decode cX10_agrees 45 = .ok (.iadd, 1) := by decide +kernel
theorem dX10_agrees_46 : decode cX10_agrees 46 = .ok (.iaload, 1) := by decide +kernel
theorem dX10_agrees_47 : decode cX10_agrees 47 = .ok (.istore 4, 2) := by decide +kernel
theorem dX10_agrees_49 : decode cX10_agrees 49 = .ok (.aload_n 0, 1) := by decide +kernel
theorem dX10_agrees_50 : decode cX10_agrees 50 = .ok (.iload 4, 2) := by decide +kernel
theorem dX10_agrees_52 : decode cX10_agrees 52 = .ok (.iconst 0, 1) := by decide +kernel
theorem dX10_agrees_53 : decode cX10_agrees 53 = .ok (.invokevirtual 234, 3) := by decide +kernel
theorem dX10_agrees_56 : decode cX10_agrees 56 = .ok (.iload_n 2, 1) := by decide +kernel
theorem dX10_agrees_57 : decode cX10_agrees 57 = .ok (.if_icmp .le 13, 3) := by decide +kernel
theorem dX10_agrees_60 : decode cX10_agrees 60 = .ok (.aload_n 0, 1) := by decide +kernel
theorem dX10_agrees_61 : decode cX10_agrees 61 = .ok (.iload 4, 2) := by decide +kernel
theorem dX10_agrees_63 : decode cX10_agrees 63 = .ok (.iconst 0, 1) := by decide +kernel
theorem dX10_agrees_64 : decode cX10_agrees 64 = .ok (.invokevirtual 234, 3) := by decide +kernel
theorem dX10_agrees_67 : decode cX10_agrees 67 = .ok (.goto 4, 3) := by decide +kernel
theorem dX10_agrees_70 : decode cX10_agrees 70 = .ok (.iload_n 2, 1) := by decide +kernel
theorem dX10_agrees_71 : decode cX10_agrees 71 = .ok (.istore_n 2, 1) := by decide +kernel
theorem dX10_agrees_72 : decode cX10_agrees 72 = .ok (.aload_n 0, 1) := by decide +kernel
theorem dX10_agrees_73 : decode cX10_agrees 73 = .ok (.iload 4, 2) := by decide +kernel
theorem dX10_agrees_75 : decode cX10_agrees 75 = .ok (.invokevirtual 231, 3) := by decide +kernel
theorem dX10_agrees_78 : decode cX10_agrees 78 = .ok (.ifCond .eq 14, 3) := by decide +kernel
theorem dX10_agrees_81 : decode cX10_agrees 81 = .ok (.iload_n 2, 1) := by decide +kernel
theorem dX10_agrees_82 : decode cX10_agrees 82 = .ok (.aload_n 0, 1) := by decide +kernel
theorem dX10_agrees_83 : decode cX10_agrees 83 = .ok (.iload 4, 2) := by decide +kernel
theorem dX10_agrees_85 : decode cX10_agrees 85 = .ok (.iconst 1, 1) := by decide +kernel
theorem dX10_agrees_86 : decode cX10_agrees 86 = .ok (.invokevirtual 234, 3) := by decide +kernel
theorem dX10_agrees_89 : decode cX10_agrees 89 = .ok (.if_icmp .le 6, 3) := by decide +kernel
theorem dX10_agrees_92 : decode cX10_agrees 92 = .ok (.bipush (-9), 2) := by decide +kernel
theorem dX10_agrees_94 : decode cX10_agrees 94 = .ok (.ireturn, 1) := by decide +kernel
theorem dX10_agrees_95 : decode cX10_agrees 95 = .ok (.iinc 3 1, 3) := by decide +kernel
theorem dX10_agrees_98 : decode cX10_agrees 98 = .ok (.goto (-71), 3) := by decide +kernel
theorem dX10_agrees_101 : decode cX10_agrees 101 = .ok (.iload_n 2, 1) := by decide +kernel
theorem dX10_agrees_102 : decode cX10_agrees 102 = .ok (.ireturn, 1) := by decide +kernel
set_option maxRecDepth 20000 in
theorem ggX10_light_X10_in : GoodIn wsX10_light wsX10_in := goodIn_r _ [9] (by decide +kernel) (by decide +kernel)
set_option maxRecDepth 20000 in
theorem gX10_light_X10_in : GoodIn wsX10_light (va_wsS RX10 120 yX10_in wsX10_in) := goodIn_app (goodIn_of _ (by decide +kernel)) ggX10_light_X10_in
set_option maxRecDepth 20000 in
theorem ggX10_light_X10_isLine : GoodIn wsX10_light wsX10_isLine := goodIn_r _ [12, 6, 7, 8, 9] (by decide +kernel) (by decide +kernel)
set_option maxRecDepth 20000 in
theorem gX10_light_X10_isLine : GoodIn wsX10_light (va_wsS RX10 173 yX10_isLine wsX10_isLine) := goodIn_app (goodIn_of _ (by decide +kernel)) ggX10_light_X10_isLine
set_option maxRecDepth 20000 in
theorem ggX10_light_X10_isSlot : GoodIn wsX10_light wsX10_isSlot := goodIn_r _ [15, 6, 7, 8, 9] (by decide +kernel) (by decide +kernel)
set_option maxRecDepth 20000 in
theorem gX10_light_X10_isSlot : GoodIn wsX10_light (va_wsS RX10 176 yX10_isSlot wsX10_isSlot) := goodIn_app (goodIn_of _ (by decide +kernel)) ggX10_light_X10_isSlot
set_option maxRecDepth 20000 in
theorem ggX10_light_X10_meets : GoodIn wsX10_light wsX10_meets := goodIn_r _ [19, 20, 21, 22, 23, 24, 25, 26, 27, 28, 29, 30, 31, 32, 33, 34, 35, 36, 37, 38, 39, 40, 41, 42, 43, 44, 45, 46, 47, 48, 49, 50, 51, 52, 53, 54, 55, 56, 57, 58, 59, 60, 61, 62, 63, 64, 65] (by decide +kernel) (by decide +kernel)
set_option maxRecDepth 20000 in
theorem gX10_light_X10_meets : GoodIn wsX10_light (wsV RX10 131 RX10 yX10_meets wsX10_meets) := goodIn_app (goodIn_of _ (by decide +kernel)) ggX10_light_X10_meets
theorem dX10_light_0 : decode cX10_light 0 = .ok (.iload_n 1, 1) := by decide +kernel
theorem dX10_light_1 : decode cX10_light 1 = .ok (.iconst 0, 1) := by decide +kernel
theorem dX10_light_2 : decode cX10_light 2 = .ok (.iconst 5, 1) := by decide +kernel
theorem dX10_light_3 : decode cX10_light 3 = .ok (.invokestatic 120, 3) := by decide +kernel
theorem dX10_light_6 : decode cX10_light 6 = .ok (.ifCond .eq 22, 3) := by decide +kernel
theorem dX10_light_9 : decode cX10_light 9 = .ok (.iload_n 2, 1) := by decide +kernel
theorem dX10_light_10 : decode cX10_light 10 = .ok (.invokestatic 173, 3) := by decide +kernel
theorem dX10_light_13 : decode cX10_light 13 = .ok (.ifCond .eq 15, 3) := by decide +kernel
theorem dX10_light_16 : decode cX10_light 16 = .ok (.iload 4, 2) := by decide +kernel
theorem dX10_light_18 : decode cX10_light 18 = .ok (.iconst 0, 1) := by decide +kernel
theorem dX10_light_19 : decode cX10_light 19 = .ok (.sipush 32767, 3) := by decide +kernel
theorem dX10_light_22 : decode cX10_light 22 = .ok (.invokestatic 120, 3) := by decide +kernel
theorem dX10_light_25 : decode cX10_light 25 = .ok (.ifCond .ne 5, 3) := by decide +kernel
theorem dX10_light_28 : decode cX10_light 28 = .ok (.iconst (-1), 1) := by decide +kernel
theorem dX10_light_29 : decode cX10_light 29 = .ok (.ireturn, 1) := by decide +kernel
theorem dX10_light_30 : decode cX10_light 30 = .ok (.aload_n 0, 1) := by decide +kernel
theorem dX10_light_31 : decode cX10_light 31 = .ok (.getfield 238, 3) := by decide +kernel
theorem dX10_light_34 : decode cX10_light 34 = .ok (.bipush 30, 2) := by decide +kernel
theorem dX10_light_36 : decode cX10_light 36 = .ok (.if_icmp .ne 6, 3) := by decide +kernel
theorem dX10_light_39 : decode cX10_light 39 = .ok (.bipush (-2), 2) := by decide +kernel
theorem dX10_light_41 : decode cX10_light 41 = .ok (.ireturn, 1) := by decide +kernel
theorem dX10_light_42 : decode cX10_light 42 = .ok (.iload_n 3, 1) := by decide +kernel
theorem dX10_light_43 : decode cX10_light 43 = .ok (.invokestatic 176, 3) := by decide +kernel
theorem dX10_light_46 : decode cX10_light 46 = .ok (.ifCond .ne 9, 3) := by decide +kernel
theorem dX10_light_49 : decode cX10_light 49 = .ok (.aload_n 0, 1) := by decide +kernel
theorem dX10_light_50 : decode cX10_light 50 = .ok (.iconst 2, 1) := by decide +kernel
theorem dX10_light_51 : decode cX10_light 51 = .ok (.invokevirtual 131, 3) := by decide +kernel
theorem dX10_light_54 : decode cX10_light 54 = .ok (.ireturn, 1) := by decide +kernel
theorem dX10_light_55 : decode cX10_light 55 = .ok (.aload_n 0, 1) := by decide +kernel
theorem dX10_light_56 : decode cX10_light 56 = .ok (.getfield 90, 3) := by decide +kernel
theorem dX10_light_59 : decode cX10_light 59 = .ok (.aload_n 0, 1) := by decide +kernel
theorem dX10_light_60 : decode cX10_light 60 = .ok (.getfield 238, 3) := by decide +kernel
theorem dX10_light_63 : decode cX10_light 63 = .ok (.iload_n 1, 1) := by decide +kernel
theorem dX10_light_64 : decode cX10_light 64 = .ok (.iastore, 1) := by decide +kernel
theorem dX10_light_65 : decode cX10_light 65 = .ok (.aload_n 0, 1) := by decide +kernel
theorem dX10_light_66 : decode cX10_light 66 = .ok (.getfield 93, 3) := by decide +kernel
theorem dX10_light_69 : decode cX10_light 69 = .ok (.aload_n 0, 1) := by decide +kernel
theorem dX10_light_70 : decode cX10_light 70 = .ok (.getfield 238, 3) := by decide +kernel
theorem dX10_light_73 : decode cX10_light 73 = .ok (.iload_n 2, 1) := by decide +kernel
theorem dX10_light_74 : decode cX10_light 74 = .ok (.iastore, 1) := by decide +kernel
theorem dX10_light_75 : decode cX10_light 75 = .ok (.aload_n 0, 1) := by decide +kernel
theorem dX10_light_76 : decode cX10_light 76 = .ok (.getfield 96, 3) := by decide +kernel
theorem dX10_light_79 : decode cX10_light 79 = .ok (.aload_n 0, 1) := by decide +kernel
theorem dX10_light_80 : decode cX10_light 80 = .ok (.getfield 238, 3) := by decide +kernel
theorem dX10_light_83 : decode cX10_light 83 = .ok (.iload_n 3, 1) := by decide +kernel
theorem dX10_light_84 : decode cX10_light 84 = .ok (.iastore, 1) := by decide +kernel
theorem dX10_light_85 : decode cX10_light 85 = .ok (.aload_n 0, 1) := by decide +kernel
theorem dX10_light_86 : decode cX10_light 86 = .ok (.getfield 99, 3) := by decide +kernel
theorem dX10_light_89 : decode cX10_light 89 = .ok (.aload_n 0, 1) := by decide +kernel
theorem dX10_light_90 : decode cX10_light 90 = .ok (.getfield 238, 3) := by decide +kernel
theorem dX10_light_93 : decode cX10_light 93 = .ok (.iload 4, 2) := by decide +kernel
theorem dX10_light_95 : decode cX10_light 95 = .ok (.iastore, 1) := by decide +kernel
theorem dX10_light_96 : decode cX10_light 96 = .ok (.aload_n 0, 1) := by decide +kernel
theorem dX10_light_97 : decode cX10_light 97 = .ok (.dup, 1) := by decide +kernel
theorem dX10_light_98 : decode cX10_light 98 = .ok (.getfield 238, 3) := by decide +kernel
theorem dX10_light_101 : decode cX10_light 101 = .ok (.iconst 1, 1) := by decide +kernel
theorem dX10_light_102 : decode cX10_light 102 = .ok (.iadd, 1) := by decide +kernel
theorem dX10_light_103 : decode cX10_light 103 = .ok (.putfield 238, 3) := by decide +kernel
theorem dX10_light_106 : decode cX10_light 106 = .ok (.aload_n 0, 1) := by decide +kernel
theorem dX10_light_107 : decode cX10_light 107 = .ok (.getfield 238, 3) := by decide +kernel
theorem dX10_light_110 : decode cX10_light 110 = .ok (.ireturn, 1) := by decide +kernel
set_option maxRecDepth 20000 in
theorem ggX10_gainOf_X10_has : GoodIn wsX10_gainOf wsX10_has := goodIn_r _ [13, 14, 15, 16, 17, 18, 12, 19, 20, 21, 22, 23, 24, 25, 26, 27, 28, 29, 30, 31, 32, 33, 34, 35, 36, 37, 38, 39, 40, 41, 42, 43, 44, 45, 46, 47, 48, 49, 50, 51, 52, 53, 54, 55, 56, 57, 58, 59, 60, 61, 62, 63] (by decide +kernel) (by decide +kernel)
set_option maxRecDepth 20000 in
theorem gX10_gainOf_X10_has : GoodIn wsX10_gainOf (wsV RX10 179 RX10 yX10_has wsX10_has) := goodIn_app (goodIn_of _ (by decide +kernel)) ggX10_gainOf_X10_has
theorem dX10_gainOf_0 : decode cX10_gainOf 0 = .ok (.iconst 0, 1) := by decide +kernel
theorem dX10_gainOf_1 : decode cX10_gainOf 1 = .ok (.istore_n 3, 1) := by decide +kernel
theorem dX10_gainOf_2 : decode cX10_gainOf 2 = .ok (.iconst 0, 1) := by decide +kernel
theorem dX10_gainOf_3 : decode cX10_gainOf 3 = .ok (.istore 4, 2) := by decide +kernel
theorem dX10_gainOf_5 : decode cX10_gainOf 5 = .ok (.iload 4, 2) := by decide +kernel
theorem dX10_gainOf_7 : decode cX10_gainOf 7 = .ok (.sipush 150, 3) := by decide +kernel
theorem dX10_gainOf_10 : decode cX10_gainOf 10 = .ok (.if_icmp .ge 202, 3) := by decide +kernel
theorem dX10_gainOf_13 : decode cX10_gainOf 13 = .ok (.iconst 0, 1) := by decide +kernel
theorem dX10_gainOf_14 : decode cX10_gainOf 14 = .ok (.istore 5, 2) := by decide +kernel
theorem dX10_gainOf_16 : decode cX10_gainOf 16 = .ok (.iconst 0, 1) := by decide +kernel
theorem dX10_gainOf_17 : decode cX10_gainOf 17 = .ok (.istore 6, 2) := by decide +kernel
theorem dX10_gainOf_19 : decode cX10_gainOf 19 = .ok (.iload 6, 2) := by decide +kernel
theorem dX10_gainOf_21 : decode cX10_gainOf 21 = .ok (.aload_n 0, 1) := by decide +kernel
theorem dX10_gainOf_22 : decode cX10_gainOf 22 = .ok (.getfield 238, 3) := by decide +kernel
theorem dX10_gainOf_25 : decode cX10_gainOf 25 = .ok (.if_icmp .ge 77, 3) := by decide +kernel
theorem dX10_gainOf_28 : decode cX10_gainOf 28 = .ok (.iload 5, 2) := by decide +kernel
theorem dX10_gainOf_30 : decode cX10_gainOf 30 = .ok (.ifCond .ne 59, 3) := by decide +kernel
theorem dX10_gainOf_33 : decode cX10_gainOf 33 = .ok (.aload_n 0, 1) := by decide +kernel
theorem dX10_gainOf_34 : decode cX10_gainOf 34 = .ok (.getfield 90, 3) := by decide +kernel
theorem dX10_gainOf_37 : decode cX10_gainOf 37 = .ok (.iload 6, 2) := by decide +kernel
theorem dX10_gainOf_39 : decode cX10_gainOf 39 = .ok (.iaload, 1) := by decide +kernel
theorem dX10_gainOf_40 : decode cX10_gainOf 40 = .ok (.iload_n 1, 1) := by decide +kernel
theorem dX10_gainOf_41 : decode cX10_gainOf 41 = .ok (.if_icmp .ne 52, 3) := by decide +kernel
theorem dX10_gainOf_44 : decode cX10_gainOf 44 = .ok (.aload_n 0, 1) := by decide +kernel
theorem dX10_gainOf_45 : decode cX10_gainOf 45 = .ok (.getfield 93, 3) := by decide +kernel
theorem dX10_gainOf_48 : decode cX10_gainOf 48 = .ok (.iload 6, 2) := by decide +kernel
theorem dX10_gainOf_50 : decode cX10_gainOf 50 = .ok (.iaload, 1) := by decide +kernel
theorem dX10_gainOf_51 : decode cX10_gainOf 51 = .ok (.iload_n 2, 1) := by decide +kernel
theorem dX10_gainOf_52 : decode cX10_gainOf 52 = .ok (.if_icmp .ne 41, 3) := by decide +kernel
theorem dX10_gainOf_55 : decode cX10_gainOf 55 = .ok (.aload_n 0, 1) := by decide +kernel
theorem dX10_gainOf_56 : decode cX10_gainOf 56 = .ok (.getfield 96, 3) := by decide +kernel
theorem dX10_gainOf_59 : decode cX10_gainOf 59 = .ok (.iload 6, 2) := by decide +kernel
theorem dX10_gainOf_61 : decode cX10_gainOf 61 = .ok (.iaload, 1) := by decide +kernel
theorem dX10_gainOf_62 : decode cX10_gainOf 62 = .ok (.iload 4, 2) := by decide +kernel
theorem dX10_gainOf_64 : decode cX10_gainOf 64 = .ok (.bipush 15, 2) := by decide +kernel
theorem dX10_gainOf_66 : decode cX10_gainOf 66 = .ok (.idiv, 1) := by decide +kernel
theorem dX10_gainOf_67 : decode cX10_gainOf 67 = .ok (.if_icmp .ne 26, 3) := by decide +kernel
theorem dX10_gainOf_70 : decode cX10_gainOf 70 = .ok (.aload_n 0, 1) := by decide +kernel
theorem dX10_gainOf_71 : decode cX10_gainOf 71 = .ok (.getfield 99, 3) := by decide +kernel
theorem dX10_gainOf_74 : decode cX10_gainOf 74 = .ok (.iload 6, 2) := by decide +kernel
theorem dX10_gainOf_76 : decode cX10_gainOf 76 = .ok (.iaload, 1) := by decide +kernel
theorem dX10_gainOf_77 : decode cX10_gainOf 77 = .ok (.iload 4, 2) := by decide +kernel
theorem dX10_gainOf_79 : decode cX10_gainOf 79 = .ok (.bipush 15, 2) := by decide +kernel
theorem dX10_gainOf_81 : decode cX10_gainOf 81 = .ok (.irem, 1) := by decide +kernel
theorem dX10_gainOf_82 : decode cX10_gainOf 82 = .ok (.ishr, 1) := by decide +kernel
theorem dX10_gainOf_83 : decode cX10_gainOf 83 = .ok (.iconst 1, 1) := by decide +kernel
theorem dX10_gainOf_84 : decode cX10_gainOf 84 = .ok (.iand, 1) := by decide +kernel
theorem dX10_gainOf_85 : decode cX10_gainOf 85 = .ok (.iconst 1, 1) := by decide +kernel
theorem dX10_gainOf_86 : decode cX10_gainOf 86 = .ok (.if_icmp .ne 7, 3) := by decide +kernel
theorem dX10_gainOf_89 : decode cX10_gainOf 89 = .ok (.iconst 1, 1) := by decide +kernel
theorem dX10_gainOf_90 : decode cX10_gainOf 90 = .ok (.goto 4, 3) := by decide +kernel
theorem dX10_gainOf_93 : decode cX10_gainOf 93 = .ok (.iconst 0, 1) := by decide +kernel
theorem dX10_gainOf_94 : decode cX10_gainOf 94 = .ok (.istore 5, 2) := by decide +kernel
theorem dX10_gainOf_96 : decode cX10_gainOf 96 = .ok (.iinc 6 1, 3) := by decide +kernel
theorem dX10_gainOf_99 : decode cX10_gainOf 99 = .ok (.goto (-80), 3) := by decide +kernel
theorem dX10_gainOf_102 : decode cX10_gainOf 102 = .ok (.iconst 0, 1) := by decide +kernel
theorem dX10_gainOf_103 : decode cX10_gainOf 103 = .ok (.istore 6, 2) := by decide +kernel
theorem dX10_gainOf_105 : decode cX10_gainOf 105 = .ok (.iconst 0, 1) := by decide +kernel
theorem dX10_gainOf_106 : decode cX10_gainOf 106 = .ok (.istore 7, 2) := by decide +kernel
theorem dX10_gainOf_108 : decode cX10_gainOf 108 = .ok (.iload 7, 2) := by decide +kernel
theorem dX10_gainOf_110 : decode cX10_gainOf 110 = .ok (.aload_n 0, 1) := by decide +kernel
theorem dX10_gainOf_111 : decode cX10_gainOf 111 = .ok (.getfield 193, 3) := by decide +kernel
theorem dX10_gainOf_114 : decode cX10_gainOf 114 = .ok (.if_icmp .ge 48, 3) := by decide +kernel
theorem dX10_gainOf_117 : decode cX10_gainOf 117 = .ok (.iload 6, 2) := by decide +kernel
theorem dX10_gainOf_119 : decode cX10_gainOf 119 = .ok (.aload_n 0, 1) := by decide +kernel
theorem dX10_gainOf_120 : decode cX10_gainOf 120 = .ok (.aload_n 0, 1) := by decide +kernel
theorem dX10_gainOf_121 : decode cX10_gainOf 121 = .ok (.getfield 53, 3) := by decide +kernel
theorem dX10_gainOf_124 : decode cX10_gainOf 124 = .ok (.iload 7, 2) := by decide +kernel
theorem dX10_gainOf_126 : decode cX10_gainOf 126 = .ok (.iaload, 1) := by decide +kernel
theorem dX10_gainOf_127 : decode cX10_gainOf 127 = .ok (.bipush 10, 2) := by decide +kernel
theorem dX10_gainOf_129 : decode cX10_gainOf 129 = .ok (.idiv, 1) := by decide +kernel
theorem dX10_gainOf_130 : decode cX10_gainOf 130 = .ok (.aload_n 0, 1) := by decide +kernel
theorem dX10_gainOf_131 : decode cX10_gainOf 131 = .ok (.getfield 53, 3) := by decide +kernel
theorem dX10_gainOf_134 : decode cX10_gainOf 134 = .ok (.iload 7, 2) := by decide +kernel
theorem dX10_gainOf_136 : decode cX10_gainOf 136 = .ok (.iaload, 1) := by decide +kernel
theorem dX10_gainOf_137 : decode cX10_gainOf 137 = .ok (.bipush 10, 2) := by decide +kernel
theorem dX10_gainOf_139 : decode cX10_gainOf 139 = .ok (.irem, 1) := by decide +kernel
theorem dX10_gainOf_140 : decode cX10_gainOf 140 = .ok (.iload 4, 2) := by decide +kernel
theorem dX10_gainOf_142 : decode cX10_gainOf 142 = .ok (.invokevirtual 179, 3) := by decide +kernel
theorem dX10_gainOf_145 : decode cX10_gainOf 145 = .ok (.ifCond .eq 7, 3) := by decide +kernel
theorem dX10_gainOf_148 : decode cX10_gainOf 148 = .ok (.iconst 1, 1) := by decide +kernel
theorem dX10_gainOf_149 : decode cX10_gainOf 149 = .ok (.goto 4, 3) := by decide +kernel
theorem dX10_gainOf_152 : decode cX10_gainOf 152 = .ok (.iconst 0, 1) := by decide +kernel
theorem dX10_gainOf_153 : decode cX10_gainOf 153 = .ok (.iadd, 1) := by decide +kernel
theorem dX10_gainOf_154 : decode cX10_gainOf 154 = .ok (.istore 6, 2) := by decide +kernel
theorem dX10_gainOf_156 : decode cX10_gainOf 156 = .ok (.iinc 7 1, 3) := by decide +kernel
theorem dX10_gainOf_159 : decode cX10_gainOf 159 = .ok (.goto (-51), 3) := by decide +kernel
theorem dX10_gainOf_162 : decode cX10_gainOf 162 = .ok (.iload_n 3, 1) := by decide +kernel
theorem dX10_gainOf_163 : decode cX10_gainOf 163 = .ok (.iload 5, 2) := by decide +kernel
theorem dX10_gainOf_165 : decode cX10_gainOf 165 = .ok (.ifCond .eq 38, 3) := by decide +kernel
theorem dX10_gainOf_168 : decode cX10_gainOf 168 = .ok (.aload_n 0, 1) := by decide +kernel
theorem dX10_gainOf_169 : decode cX10_gainOf 169 = .ok (.getfield 50, 3) := by decide +kernel
theorem dX10_gainOf_172 : decode cX10_gainOf 172 = .ok (.sipush 150, 3) := by decide +kernel
theorem dX10_gainOf_175 : decode cX10_gainOf 175 = .ok (.iload_n 2, 1) := by decide +kernel
theorem dX10_gainOf_176 : decode cX10_gainOf 176 = .ok (.imul, 1) := by decide +kernel
theorem dX10_gainOf_177 : decode cX10_gainOf 177 = .ok (.iload 4, 2) := by decide +kernel
theorem dX10_gainOf_179 : decode cX10_gainOf 179 = .ok (.iadd, 1) := by decide +kernel
theorem dX10_gainOf_180 : decode cX10_gainOf 180 = .ok (.iaload, 1) := by decide +kernel
theorem dX10_gainOf_181 : decode cX10_gainOf 181 = .ok (.iconst 4, 1) := by decide +kernel
theorem dX10_gainOf_182 : decode cX10_gainOf 182 = .ok (.if_icmp .ne 21, 3) := by decide +kernel
theorem dX10_gainOf_185 : decode cX10_gainOf 185 = .ok (.iload 6, 2) := by decide +kernel
theorem dX10_gainOf_187 : decode cX10_gainOf 187 = .ok (.ifCond .le 16, 3) := by decide +kernel
theorem dX10_gainOf_190 : decode cX10_gainOf 190 = .ok (.iload 6, 2) := by decide +kernel
theorem dX10_gainOf_192 : decode cX10_gainOf 192 = .ok (.aload_n 0, 1) := by decide +kernel
theorem dX10_gainOf_193 : decode cX10_gainOf 193 = .ok (.getfield 193, 3) := by decide +kernel
theorem dX10_gainOf_196 : decode cX10_gainOf 196 = .ok (.if_icmp .ge 7, 3) := by decide +kernel
theorem dX10_gainOf_199 : decode cX10_gainOf 199 = .ok (.iconst 1, 1) := by decide +kernel
theorem dX10_gainOf_200 : decode cX10_gainOf 200 = .ok (.goto 4, 3) := by decide +kernel
theorem dX10_gainOf_203 : decode cX10_gainOf 203 = .ok (.iconst 0, 1) := by decide +kernel
theorem dX10_gainOf_204 : decode cX10_gainOf 204 = .ok (.iadd, 1) := by decide +kernel
theorem dX10_gainOf_205 : decode cX10_gainOf 205 = .ok (.istore_n 3, 1) := by decide +kernel
theorem dX10_gainOf_206 : decode cX10_gainOf 206 = .ok (.iinc 4 1, 3) := by decide +kernel
theorem dX10_gainOf_209 : decode cX10_gainOf 209 = .ok (.goto (-204), 3) := by decide +kernel
theorem dX10_gainOf_212 : decode cX10_gainOf 212 = .ok (.iload_n 3, 1) := by decide +kernel
theorem dX10_gainOf_213 : decode cX10_gainOf 213 = .ok (.ireturn, 1) := by decide +kernel
set_option maxRecDepth 20000 in
theorem ggX10_gain_X10_in : GoodIn wsX10_gain wsX10_in := goodIn_r _ [4] (by decide +kernel) (by decide +kernel)
set_option maxRecDepth 20000 in
theorem gX10_gain_X10_in : GoodIn wsX10_gain (va_wsS RX10 120 yX10_in wsX10_in) := goodIn_app (goodIn_of _ (by decide +kernel)) ggX10_gain_X10_in
set_option maxRecDepth 20000 in
theorem ggX10_gain_X10_isLine : GoodIn wsX10_gain wsX10_isLine := goodIn_r _ [7, 1, 2, 3, 4] (by decide +kernel) (by decide +kernel)
set_option maxRecDepth 20000 in
theorem gX10_gain_X10_isLine : GoodIn wsX10_gain (va_wsS RX10 173 yX10_isLine wsX10_isLine) := goodIn_app (goodIn_of _ (by decide +kernel)) ggX10_gain_X10_isLine
set_option maxRecDepth 20000 in
theorem ggX10_gain_X10_isColour : GoodIn wsX10_gain wsX10_isColour := goodIn_r _ [10, 1, 2, 3, 4] (by decide +kernel) (by decide +kernel)
set_option maxRecDepth 20000 in
theorem gX10_gain_X10_isColour : GoodIn wsX10_gain (va_wsS RX10 182 yX10_isColour wsX10_isColour) := goodIn_app (goodIn_of _ (by decide +kernel)) ggX10_gain_X10_isColour
set_option maxRecDepth 20000 in
theorem ggX10_gain_X10_setRivals : GoodIn wsX10_gain wsX10_setRivals := goodIn_r _ [14, 15, 16, 17, 18, 19, 20, 21, 3, 22, 23, 24, 25, 26, 27, 28, 29, 30, 31, 32, 33, 34, 1, 2, 4, 44, 45, 46, 47, 48, 49, 50, 51, 52, 53, 54, 55, 56, 57, 58, 59, 60, 61, 62, 63, 64, 65, 66, 67, 68, 69, 70, 71, 72, 73, 74, 75, 76, 77, 78, 79, 80, 81, 82, 83, 84, 85, 86, 87] (by decide +kernel) (by decide +kernel)
set_option maxRecDepth 20000 in
theorem gX10_gain_X10_setRivals : GoodIn wsX10_gain (wsV RX10 196 RX10 yX10_setRivals wsX10_setRivals) := goodIn_app (goodIn_of _ (by decide +kernel)) ggX10_gain_X10_setRivals
set_option maxRecDepth 20000 in
theorem ggX10_gain_X10_gainOf : GoodIn wsX10_gain wsX10_gainOf := goodIn_r _ [38, 39, 40, 41, 42, 43, 15, 18, 28, 29, 30, 31, 3, 32, 23, 33, 34, 1, 2, 4, 44, 45, 46, 47, 48, 49, 50, 51, 52, 53, 54, 55, 56, 57, 58, 59, 60, 61, 62, 63, 64, 65, 66, 67, 68, 69, 70, 71, 72, 73, 74, 75, 76, 77, 78, 79, 80, 81, 82, 83, 84, 85, 86, 87] (by decide +kernel) (by decide +kernel)
set_option maxRecDepth 20000 in
theorem gX10_gain_X10_gainOf : GoodIn wsX10_gain (wsV RX10 241 RX10 yX10_gainOf wsX10_gainOf) := goodIn_app (goodIn_of _ (by decide +kernel)) ggX10_gain_X10_gainOf
theorem dX10_gain_0 : decode cX10_gain 0 = .ok (.iload_n 1, 1) := by decide +kernel
theorem dX10_gain_1 : decode cX10_gain 1 = .ok (.iconst 0, 1) := by decide +kernel
theorem dX10_gain_2 : decode cX10_gain 2 = .ok (.iconst 5, 1) := by decide +kernel
theorem dX10_gain_3 : decode cX10_gain 3 = .ok (.invokestatic 120, 3) := by decide +kernel
theorem dX10_gain_6 : decode cX10_gain 6 = .ok (.ifCond .eq 17, 3) := by decide +kernel
theorem dX10_gain_9 : decode cX10_gain 9 = .ok (.iload_n 2, 1) := by decide +kernel
theorem dX10_gain_10 : decode cX10_gain 10 = .ok (.invokestatic 173, 3) := by decide +kernel
theorem dX10_gain_13 : decode cX10_gain 13 = .ok (.ifCond .eq 10, 3) := by decide +kernel
theorem dX10_gain_16 : decode cX10_gain 16 = .ok (.iload_n 3, 1) := by decide +kernel
theorem dX10_gain_17 : decode cX10_gain 17 = .ok (.invokestatic 182, 3) := by decide +kernel
theorem dX10_gain_20 : decode cX10_gain 20 = .ok (.ifCond .ne 5, 3) := by decide +kernel
theorem dX10_gain_23 : decode cX10_gain 23 = .ok (.iconst (-1), 1) := by decide +kernel
theorem dX10_gain_24 : decode cX10_gain 24 = .ok (.ireturn, 1) := by decide +kernel
theorem dX10_gain_25 : decode cX10_gain 25 = .ok (.aload_n 0, 1) := by decide +kernel
theorem dX10_gain_26 : decode cX10_gain 26 = .ok (.iload_n 2, 1) := by decide +kernel
theorem dX10_gain_27 : decode cX10_gain 27 = .ok (.iload_n 3, 1) := by decide +kernel
theorem dX10_gain_28 : decode cX10_gain 28 = .ok (.invokevirtual 196, 3) := by decide +kernel
theorem dX10_gain_31 : decode cX10_gain 31 = .ok (.aload_n 0, 1) := by decide +kernel
theorem dX10_gain_32 : decode cX10_gain 32 = .ok (.iload_n 1, 1) := by decide +kernel
theorem dX10_gain_33 : decode cX10_gain 33 = .ok (.iload_n 2, 1) := by decide +kernel
theorem dX10_gain_34 : decode cX10_gain 34 = .ok (.invokevirtual 241, 3) := by decide +kernel
theorem dX10_gain_37 : decode cX10_gain 37 = .ok (.ireturn, 1) := by decide +kernel
set_option maxRecDepth 20000 in
theorem ggX10_next_X10_isLine : GoodIn wsX10_next wsX10_isLine := goodIn_r _ [4, 5, 6, 3, 7] (by decide +kernel) (by decide +kernel)
set_option maxRecDepth 20000 in
theorem gX10_next_X10_isLine : GoodIn wsX10_next (va_wsS RX10 173 yX10_isLine wsX10_isLine) := goodIn_app (goodIn_of _ (by decide +kernel)) ggX10_next_X10_isLine
set_option maxRecDepth 20000 in
theorem ggX10_next_X10_isColour : GoodIn wsX10_next wsX10_isColour := goodIn_r _ [10, 5, 6, 3, 7] (by decide +kernel) (by decide +kernel)
set_option maxRecDepth 20000 in
theorem gX10_next_X10_isColour : GoodIn wsX10_next (va_wsS RX10 182 yX10_isColour wsX10_isColour) := goodIn_app (goodIn_of _ (by decide +kernel)) ggX10_next_X10_isColour
set_option maxRecDepth 20000 in
theorem ggX10_next_X10_setRivals : GoodIn wsX10_next wsX10_setRivals := goodIn_r _ [14, 15, 16, 17, 18, 19, 20, 21, 3, 22, 23, 24, 25, 26, 27, 28, 29, 30, 31, 32, 33, 34, 5, 6, 7, 44, 45, 46, 47, 48, 49, 50, 51, 52, 53, 54, 55, 56, 57, 58, 59, 60, 61, 62, 63, 64, 65, 66, 67, 68, 69, 70, 71, 72, 73, 74, 75, 76, 77, 78, 79, 80, 81, 82, 83, 84, 85, 86, 87] (by decide +kernel) (by decide +kernel)
set_option maxRecDepth 20000 in
theorem gX10_next_X10_setRivals : GoodIn wsX10_next (wsV RX10 196 RX10 yX10_setRivals wsX10_setRivals) := goodIn_app (goodIn_of _ (by decide +kernel)) ggX10_next_X10_setRivals
set_option maxRecDepth 20000 in
theorem ggX10_next_X10_gainOf : GoodIn wsX10_next wsX10_gainOf := goodIn_r _ [38, 39, 40, 41, 42, 43, 15, 18, 28, 29, 30, 31, 3, 32, 23, 33, 34, 5, 6, 7, 44, 45, 46, 47, 48, 49, 50, 51, 52, 53, 54, 55, 56, 57, 58, 59, 60, 61, 62, 63, 64, 65, 66, 67, 68, 69, 70, 71, 72, 73, 74, 75, 76, 77, 78, 79, 80, 81, 82, 83, 84, 85, 86, 87] (by decide +kernel) (by decide +kernel)
set_option maxRecDepth 20000 in
theorem gX10_next_X10_gainOf : GoodIn wsX10_next (wsV RX10 241 RX10 yX10_gainOf wsX10_gainOf) := goodIn_app (goodIn_of _ (by decide +kernel)) ggX10_next_X10_gainOf
theorem dX10_next_0 : decode cX10_next 0 = .ok (.iload_n 1, 1) := by decide +kernel
theorem dX10_next_1 : decode cX10_next 1 = .ok (.invokestatic 173, 3) := by decide +kernel
theorem dX10_next_4 : decode cX10_next 4 = .ok (.ifCond .eq 10, 3) := by decide +kernel
theorem dX10_next_7 : decode cX10_next 7 = .ok (.iload_n 2, 1) := by decide +kernel
theorem dX10_next_8 : decode cX10_next 8 = .ok (.invokestatic 182, 3) := by decide +kernel
theorem dX10_next_11 : decode cX10_next 11 = .ok (.ifCond .ne 5, 3) := by decide +kernel
theorem dX10_next_14 : decode cX10_next 14 = .ok (.iconst (-1), 1) := by decide +kernel
theorem dX10_next_15 : decode cX10_next 15 = .ok (.ireturn, 1) := by decide +kernel
theorem dX10_next_16 : decode cX10_next 16 = .ok (.aload_n 0, 1) := by decide +kernel
theorem dX10_next_17 : decode cX10_next 17 = .ok (.iload_n 1, 1) := by decide +kernel
theorem dX10_next_18 : decode cX10_next 18 = .ok (.iload_n 2, 1) := by decide +kernel
theorem dX10_next_19 : decode cX10_next 19 = .ok (.invokevirtual 196, 3) := by decide +kernel
theorem dX10_next_22 : decode cX10_next 22 = .ok (.bipush (-9), 2) := by decide +kernel
theorem dX10_next_24 : decode cX10_next 24 = .ok (.istore_n 3, 1) := by decide +kernel
theorem dX10_next_25 : decode cX10_next 25 = .ok (.iconst 0, 1) := by decide +kernel
theorem dX10_next_26 : decode cX10_next 26 = .ok (.istore 4, 2) := by decide +kernel
theorem dX10_next_28 : decode cX10_next 28 = .ok (.iconst 0, 1) := by decide +kernel
theorem dX10_next_29 : decode cX10_next 29 = .ok (.istore 5, 2) := by decide +kernel
theorem dX10_next_31 : decode cX10_next 31 = .ok (.iload 5, 2) := by decide +kernel
theorem dX10_next_33 : decode cX10_next 33 = .ok (.bipush 6, 2) := by decide +kernel
theorem dX10_next_35 : decode cX10_next 35 = .ok (.if_icmp .ge 48, 3) := by decide +kernel
theorem dX10_next_38 : decode cX10_next 38 = .ok (.aload_n 0, 1) := by decide +kernel
theorem dX10_next_39 : decode cX10_next 39 = .ok (.iload 5, 2) := by decide +kernel
theorem dX10_next_41 : decode cX10_next 41 = .ok (.iload_n 1, 1) := by decide +kernel
theorem dX10_next_42 : decode cX10_next 42 = .ok (.invokevirtual 241, 3) := by decide +kernel
theorem dX10_next_45 : decode cX10_next 45 = .ok (.istore 6, 2) := by decide +kernel
theorem dX10_next_47 : decode cX10_next 47 = .ok (.iload 6, 2) := by decide +kernel
theorem dX10_next_49 : decode cX10_next 49 = .ok (.iload 4, 2) := by decide +kernel
theorem dX10_next_51 : decode cX10_next 51 = .ok (.if_icmp .le 8, 3) := by decide +kernel
theorem dX10_next_54 : decode cX10_next 54 = .ok (.iload 5, 2) := by decide +kernel
theorem dX10_next_56 : decode cX10_next 56 = .ok (.goto 4, 3) := by decide +kernel
theorem dX10_next_59 : decode cX10_next 59 = .ok (.iload_n 3, 1) := by decide +kernel
theorem dX10_next_60 : decode cX10_next 60 = .ok (.istore_n 3, 1) := by decide +kernel
theorem dX10_next_61 : decode cX10_next 61 = .ok (.iload 6, 2) := by decide +kernel
theorem dX10_next_63 : decode cX10_next 63 = .ok (.iload 4, 2) := by decide +kernel
theorem dX10_next_65 : decode cX10_next 65 = .ok (.if_icmp .le 8, 3) := by decide +kernel
theorem dX10_next_68 : decode cX10_next 68 = .ok (.iload 6, 2) := by decide +kernel
theorem dX10_next_70 : decode cX10_next 70 = .ok (.goto 5, 3) := by decide +kernel
theorem dX10_next_73 : decode cX10_next 73 = .ok (.iload 4, 2) := by decide +kernel
theorem dX10_next_75 : decode cX10_next 75 = .ok (.istore 4, 2) := by decide +kernel
theorem dX10_next_77 : decode cX10_next 77 = .ok (.iinc 5 1, 3) := by decide +kernel
theorem dX10_next_80 : decode cX10_next 80 = .ok (.goto (-49), 3) := by decide +kernel
theorem dX10_next_83 : decode cX10_next 83 = .ok (.iload_n 3, 1) := by decide +kernel
theorem dX10_next_84 : decode cX10_next 84 = .ok (.ireturn, 1) := by decide +kernel
set_option maxRecDepth 20000 in
theorem ggX10_read_X10_isLine : GoodIn wsX10_read wsX10_isLine := goodIn_r _ [8, 9, 10, 7, 11] (by decide +kernel) (by decide +kernel)
set_option maxRecDepth 20000 in
theorem gX10_read_X10_isLine : GoodIn wsX10_read (va_wsS RX10 173 yX10_isLine wsX10_isLine) := goodIn_app (goodIn_of _ (by decide +kernel)) ggX10_read_X10_isLine
set_option maxRecDepth 20000 in
theorem ggX10_read_X10_isWord : GoodIn wsX10_read wsX10_isWord := goodIn_r _ [15, 16, 9, 10, 7, 11, 23, 24, 25, 26, 27, 28, 29, 30, 31, 32, 33, 34, 35, 36, 37, 38, 39, 40, 41, 42, 43, 44, 45, 46, 47, 48, 49, 50, 51, 52, 53, 54, 55, 56, 57, 58, 59, 60, 61, 62, 63, 64, 65, 66] (by decide +kernel) (by decide +kernel)
set_option maxRecDepth 20000 in
theorem gX10_read_X10_isWord : GoodIn wsX10_read (wsV RX10 154 RX10 yX10_isWord wsX10_isWord) := goodIn_app (goodIn_of _ (by decide +kernel)) ggX10_read_X10_isWord
set_option maxRecDepth 20000 in
theorem ggX10_read_X10_meets : GoodIn wsX10_read wsX10_meets := goodIn_r _ [20, 21, 22, 23, 24, 25, 26, 27, 28, 29, 30, 31, 32, 33, 34, 35, 36, 37, 38, 39, 40, 41, 42, 43, 44, 45, 46, 47, 48, 49, 50, 51, 52, 53, 54, 55, 56, 57, 58, 59, 60, 61, 62, 63, 64, 65, 66] (by decide +kernel) (by decide +kernel)
set_option maxRecDepth 20000 in
theorem gX10_read_X10_meets : GoodIn wsX10_read (wsV RX10 131 RX10 yX10_meets wsX10_meets) := goodIn_app (goodIn_of _ (by decide +kernel)) ggX10_read_X10_meets
theorem dX10_read_0 : decode cX10_read 0 = .ok (.iload_n 1, 1) := by decide +kernel
theorem dX10_read_1 : decode cX10_read 1 = .ok (.invokestatic 173, 3) := by decide +kernel
theorem dX10_read_4 : decode cX10_read 4 = .ok (.ifCond .eq 11, 3) := by decide +kernel
theorem dX10_read_7 : decode cX10_read 7 = .ok (.aload_n 0, 1) := by decide +kernel
theorem dX10_read_8 : decode cX10_read 8 = .ok (.iload_n 2, 1) := by decide +kernel
theorem dX10_read_9 : decode cX10_read 9 = .ok (.invokevirtual 154, 3) := by decide +kernel
theorem dX10_read_12 : decode cX10_read 12 = .ok (.ifCond .ne 5, 3) := by decide +kernel
theorem dX10_read_15 : decode cX10_read 15 = .ok (.iconst (-1), 1) := by decide +kernel
theorem dX10_read_16 : decode cX10_read 16 = .ok (.ireturn, 1) := by decide +kernel
theorem dX10_read_17 : decode cX10_read 17 = .ok (.aload_n 0, 1) := by decide +kernel
theorem dX10_read_18 : decode cX10_read 18 = .ok (.getfield 244, 3) := by decide +kernel
theorem dX10_read_21 : decode cX10_read 21 = .ok (.bipush 12, 2) := by decide +kernel
theorem dX10_read_23 : decode cX10_read 23 = .ok (.if_icmp .ne 6, 3) := by decide +kernel
theorem dX10_read_26 : decode cX10_read 26 = .ok (.bipush (-2), 2) := by decide +kernel
theorem dX10_read_28 : decode cX10_read 28 = .ok (.ireturn, 1) := by decide +kernel
theorem dX10_read_29 : decode cX10_read 29 = .ok (.aload_n 0, 1) := by decide +kernel
theorem dX10_read_30 : decode cX10_read 30 = .ok (.getfield 34, 3) := by decide +kernel
theorem dX10_read_33 : decode cX10_read 33 = .ok (.iload_n 2, 1) := by decide +kernel
theorem dX10_read_34 : decode cX10_read 34 = .ok (.baload, 1) := by decide +kernel
theorem dX10_read_35 : decode cX10_read 35 = .ok (.ifCond .eq 9, 3) := by decide +kernel
theorem dX10_read_38 : decode cX10_read 38 = .ok (.aload_n 0, 1) := by decide +kernel
theorem dX10_read_39 : decode cX10_read 39 = .ok (.iconst 1, 1) := by decide +kernel
theorem dX10_read_40 : decode cX10_read 40 = .ok (.invokevirtual 131, 3) := by decide +kernel
theorem dX10_read_43 : decode cX10_read 43 = .ok (.ireturn, 1) := by decide +kernel
theorem dX10_read_44 : decode cX10_read 44 = .ok (.aload_n 0, 1) := by decide +kernel
theorem dX10_read_45 : decode cX10_read 45 = .ok (.getfield 102, 3) := by decide +kernel
theorem dX10_read_48 : decode cX10_read 48 = .ok (.aload_n 0, 1) := by decide +kernel
theorem dX10_read_49 : decode cX10_read 49 = .ok (.getfield 244, 3) := by decide +kernel
theorem dX10_read_52 : decode cX10_read 52 = .ok (.iload_n 1, 1) := by decide +kernel
theorem dX10_read_53 : decode cX10_read 53 = .ok (.iastore, 1) := by decide +kernel
theorem dX10_read_54 : decode cX10_read 54 = .ok (.aload_n 0, 1) := by decide +kernel
theorem dX10_read_55 : decode cX10_read 55 = .ok (.getfield 105, 3) := by decide +kernel
theorem dX10_read_58 : decode cX10_read 58 = .ok (.aload_n 0, 1) := by decide +kernel
theorem dX10_read_59 : decode cX10_read 59 = .ok (.getfield 244, 3) := by decide +kernel
theorem dX10_read_62 : decode cX10_read 62 = .ok (.iload_n 2, 1) := by decide +kernel
theorem dX10_read_63 : decode cX10_read 63 = .ok (.iastore, 1) := by decide +kernel
theorem dX10_read_64 : decode cX10_read 64 = .ok (.aload_n 0, 1) := by decide +kernel
theorem dX10_read_65 : decode cX10_read 65 = .ok (.dup, 1) := by decide +kernel
theorem dX10_read_66 : decode cX10_read 66 = .ok (.getfield 244, 3) := by decide +kernel
theorem dX10_read_69 : decode cX10_read 69 = .ok (.iconst 1, 1) := by decide +kernel
theorem dX10_read_70 : decode cX10_read 70 = .ok (.iadd, 1) := by decide +kernel
theorem dX10_read_71 : decode cX10_read 71 = .ok (.putfield 244, 3) := by decide +kernel
theorem dX10_read_74 : decode cX10_read 74 = .ok (.aload_n 0, 1) := by decide +kernel
theorem dX10_read_75 : decode cX10_read 75 = .ok (.getfield 244, 3) := by decide +kernel
theorem dX10_read_78 : decode cX10_read 78 = .ok (.ireturn, 1) := by decide +kernel
set_option maxRecDepth 20000 in
theorem ggX10_spread_X10_isLine : GoodIn wsX10_spread wsX10_isLine := goodIn_r _ [9, 10, 11, 8, 12] (by decide +kernel) (by decide +kernel)
set_option maxRecDepth 20000 in
theorem gX10_spread_X10_isLine : GoodIn wsX10_spread (va_wsS RX10 173 yX10_isLine wsX10_isLine) := goodIn_app (goodIn_of _ (by decide +kernel)) ggX10_spread_X10_isLine
theorem dX10_spread_0 : decode cX10_spread 0 = .ok (.iload_n 1, 1) := by decide +kernel
theorem dX10_spread_1 : decode cX10_spread 1 = .ok (.invokestatic 173, 3) := by decide +kernel
theorem dX10_spread_4 : decode cX10_spread 4 = .ok (.ifCond .ne 5, 3) := by decide +kernel
theorem dX10_spread_7 : decode cX10_spread 7 = .ok (.iconst (-1), 1) := by decide +kernel
theorem dX10_spread_8 : decode cX10_spread 8 = .ok (.ireturn, 1) := by decide +kernel
theorem dX10_spread_9 : decode cX10_spread 9 = .ok (.iconst 0, 1) := by decide +kernel
theorem dX10_spread_10 : decode cX10_spread 10 = .ok (.istore_n 2, 1) := by decide +kernel
theorem dX10_spread_11 : decode cX10_spread 11 = .ok (.bipush (-9), 2) := by decide +kernel
theorem dX10_spread_13 : decode cX10_spread 13 = .ok (.istore_n 3, 1) := by decide +kernel
theorem dX10_spread_14 : decode cX10_spread 14 = .ok (.iconst 0, 1) := by decide +kernel
theorem dX10_spread_15 : decode cX10_spread 15 = .ok (.istore 4, 2) := by decide +kernel
theorem dX10_spread_17 : decode cX10_spread 17 = .ok (.iconst 0, 1) := by decide +kernel
theorem dX10_spread_18 : decode cX10_spread 18 = .ok (.istore 5, 2) := by decide +kernel
theorem dX10_spread_20 : decode cX10_spread 20 = .ok (.iload 5, 2) := by decide +kernel
theorem dX10_spread_22 : decode cX10_spread 22 = .ok (.aload_n 0, 1) := by decide +kernel
theorem dX10_spread_23 : decode cX10_spread 23 = .ok (.getfield 141, 3) := by decide +kernel
theorem dX10_spread_26 : decode cX10_spread 26 = .ok (.if_icmp .ge 106, 3) := by decide +kernel
theorem dX10_spread_29 : decode cX10_spread 29 = .ok (.iconst 0, 1) := by decide +kernel
theorem dX10_spread_30 : decode cX10_spread 30 = .ok (.istore 6, 2) := by decide +kernel
theorem dX10_spread_32 : decode cX10_spread 32 = .ok (.iconst 0, 1) := by decide +kernel
theorem dX10_spread_33 : decode cX10_spread 33 = .ok (.istore 7, 2) := by decide +kernel
theorem dX10_spread_35 : decode cX10_spread 35 = .ok (.iload 7, 2) := by decide +kernel
theorem dX10_spread_37 : decode cX10_spread 37 = .ok (.aload_n 0, 1) := by decide +kernel
theorem dX10_spread_38 : decode cX10_spread 38 = .ok (.getfield 244, 3) := by decide +kernel
theorem dX10_spread_41 : decode cX10_spread 41 = .ok (.if_icmp .ge 42, 3) := by decide +kernel
theorem dX10_spread_44 : decode cX10_spread 44 = .ok (.iload 6, 2) := by decide +kernel
theorem dX10_spread_46 : decode cX10_spread 46 = .ok (.aload_n 0, 1) := by decide +kernel
theorem dX10_spread_47 : decode cX10_spread 47 = .ok (.getfield 102, 3) := by decide +kernel
theorem dX10_spread_50 : decode cX10_spread 50 = .ok (.iload 7, 2) := by decide +kernel
theorem dX10_spread_52 : decode cX10_spread 52 = .ok (.iaload, 1) := by decide +kernel
theorem dX10_spread_53 : decode cX10_spread 53 = .ok (.iload_n 1, 1) := by decide +kernel
theorem dX10_spread_54 : decode cX10_spread 54 = .ok (.if_icmp .ne 19, 3) := by decide +kernel
theorem dX10_spread_57 : decode cX10_spread 57 = .ok (.aload_n 0, 1) := by decide +kernel
theorem dX10_spread_58 : decode cX10_spread 58 = .ok (.getfield 105, 3) := by decide +kernel
theorem dX10_spread_61 : decode cX10_spread 61 = .ok (.iload 7, 2) := by decide +kernel
theorem dX10_spread_63 : decode cX10_spread 63 = .ok (.iaload, 1) := by decide +kernel
theorem dX10_spread_64 : decode cX10_spread 64 = .ok (.iload 5, 2) := by decide +kernel
theorem dX10_spread_66 : decode cX10_spread 66 = .ok (.if_icmp .ne 7, 3) := by decide +kernel
theorem dX10_spread_69 : decode cX10_spread 69 = .ok (.iconst 1, 1) := by decide +kernel
theorem dX10_spread_70 : decode cX10_spread 70 = .ok (.goto 4, 3) := by decide +kernel
theorem dX10_spread_73 : decode cX10_spread 73 = .ok (.iconst 0, 1) := by decide +kernel
theorem dX10_spread_74 : decode cX10_spread 74 = .ok (.iadd, 1) := by decide +kernel
theorem dX10_spread_75 : decode cX10_spread 75 = .ok (.istore 6, 2) := by decide +kernel
theorem dX10_spread_77 : decode cX10_spread 77 = .ok (.iinc 7 1, 3) := by decide +kernel
theorem dX10_spread_80 : decode cX10_spread 80 = .ok (.goto (-45), 3) := by decide +kernel
theorem dX10_spread_83 : decode cX10_spread 83 = .ok (.iload_n 2, 1) := by decide +kernel
theorem dX10_spread_84 : decode cX10_spread 84 = .ok (.iload 6, 2) := by decide +kernel
theorem dX10_spread_86 : decode cX10_spread 86 = .ok (.ifCond .le 7, 3) := by decide +kernel
theorem dX10_spread_89 : decode cX10_spread 89 = .ok (.iconst 1, 1) := by decide +kernel
theorem dX10_spread_90 : decode cX10_spread 90 = .ok (.goto 4, 3) := by decide +kernel
theorem dX10_spread_93 : decode cX10_spread 93 = .ok (.iconst 0, 1) := by decide +kernel
theorem dX10_spread_94 : decode cX10_spread 94 = .ok (.iadd, 1) := by decide +kernel
theorem dX10_spread_95 : decode cX10_spread 95 = .ok (.istore_n 2, 1) := by decide +kernel
theorem dX10_spread_96 : decode cX10_spread 96 = .ok (.iload 6, 2) := by decide +kernel
theorem dX10_spread_98 : decode cX10_spread 98 = .ok (.iload 4, 2) := by decide +kernel
theorem dX10_spread_100 : decode cX10_spread 100 = .ok (.if_icmp .le 8, 3) := by decide +kernel
theorem dX10_spread_103 : decode cX10_spread 103 = .ok (.iload 5, 2) := by decide +kernel
theorem dX10_spread_105 : decode cX10_spread 105 = .ok (.goto 4, 3) := by decide +kernel
theorem dX10_spread_108 : decode cX10_spread 108 = .ok (.iload_n 3, 1) := by decide +kernel
theorem dX10_spread_109 : decode cX10_spread 109 = .ok (.istore_n 3, 1) := by decide +kernel
theorem dX10_spread_110 : decode cX10_spread 110 = .ok (.iload 6, 2) := by decide +kernel
theorem dX10_spread_112 : decode cX10_spread 112 = .ok (.iload 4, 2) := by decide +kernel
theorem dX10_spread_114 : decode cX10_spread 114 = .ok (.if_icmp .le 8, 3) := by decide +kernel
theorem dX10_spread_117 : decode cX10_spread 117 = .ok (.iload 6, 2) := by decide +kernel
theorem dX10_spread_119 : decode cX10_spread 119 = .ok (.goto 5, 3) := by decide +kernel
theorem dX10_spread_122 : decode cX10_spread 122 = .ok (.iload 4, 2) := by decide +kernel
theorem dX10_spread_124 : decode cX10_spread 124 = .ok (.istore 4, 2) := by decide +kernel
theorem dX10_spread_126 : decode cX10_spread 126 = .ok (.iinc 5 1, 3) := by decide +kernel
theorem dX10_spread_129 : decode cX10_spread 129 = .ok (.goto (-109), 3) := by decide +kernel
theorem dX10_spread_132 : decode cX10_spread 132 = .ok (.aload_n 0, 1) := by decide +kernel
theorem dX10_spread_133 : decode cX10_spread 133 = .ok (.iload_n 3, 1) := by decide +kernel
theorem dX10_spread_134 : decode cX10_spread 134 = .ok (.putfield 200, 3) := by decide +kernel
theorem dX10_spread_137 : decode cX10_spread 137 = .ok (.iload_n 2, 1) := by decide +kernel
theorem dX10_spread_138 : decode cX10_spread 138 = .ok (.ireturn, 1) := by decide +kernel
set_option maxRecDepth 20000 in
theorem ggX10_wall_X10_in : GoodIn wsX10_wall wsX10_in := goodIn_r _ [8] (by decide +kernel) (by decide +kernel)
set_option maxRecDepth 20000 in
theorem gX10_wall_X10_in : GoodIn wsX10_wall (va_wsS RX10 120 yX10_in wsX10_in) := goodIn_app (goodIn_of _ (by decide +kernel)) ggX10_wall_X10_in
theorem dX10_wall_0 : decode cX10_wall 0 = .ok (.iload_n 1, 1) := by decide +kernel
theorem dX10_wall_1 : decode cX10_wall 1 = .ok (.iconst 0, 1) := by decide +kernel
theorem dX10_wall_2 : decode cX10_wall 2 = .ok (.sipush 1000, 3) := by decide +kernel
theorem dX10_wall_5 : decode cX10_wall 5 = .ok (.invokestatic 120, 3) := by decide +kernel
theorem dX10_wall_8 : decode cX10_wall 8 = .ok (.ifCond .eq 14, 3) := by decide +kernel
theorem dX10_wall_11 : decode cX10_wall 11 = .ok (.iload_n 2, 1) := by decide +kernel
theorem dX10_wall_12 : decode cX10_wall 12 = .ok (.iconst 1, 1) := by decide +kernel
theorem dX10_wall_13 : decode cX10_wall 13 = .ok (.sipush 1000, 3) := by decide +kernel
theorem dX10_wall_16 : decode cX10_wall 16 = .ok (.invokestatic 120, 3) := by decide +kernel
theorem dX10_wall_19 : decode cX10_wall 19 = .ok (.ifCond .ne 5, 3) := by decide +kernel
theorem dX10_wall_22 : decode cX10_wall 22 = .ok (.iconst (-1), 1) := by decide +kernel
theorem dX10_wall_23 : decode cX10_wall 23 = .ok (.ireturn, 1) := by decide +kernel
theorem dX10_wall_24 : decode cX10_wall 24 = .ok (.aload_n 0, 1) := by decide +kernel
theorem dX10_wall_25 : decode cX10_wall 25 = .ok (.getfield 247, 3) := by decide +kernel
theorem dX10_wall_28 : decode cX10_wall 28 = .ok (.bipush 12, 2) := by decide +kernel
theorem dX10_wall_30 : decode cX10_wall 30 = .ok (.if_icmp .ne 6, 3) := by decide +kernel
theorem dX10_wall_33 : decode cX10_wall 33 = .ok (.bipush (-2), 2) := by decide +kernel
theorem dX10_wall_35 : decode cX10_wall 35 = .ok (.ireturn, 1) := by decide +kernel
theorem dX10_wall_36 : decode cX10_wall 36 = .ok (.aload_n 0, 1) := by decide +kernel
theorem dX10_wall_37 : decode cX10_wall 37 = .ok (.getfield 108, 3) := by decide +kernel
theorem dX10_wall_40 : decode cX10_wall 40 = .ok (.aload_n 0, 1) := by decide +kernel
theorem dX10_wall_41 : decode cX10_wall 41 = .ok (.getfield 247, 3) := by decide +kernel
theorem dX10_wall_44 : decode cX10_wall 44 = .ok (.iload_n 1, 1) := by decide +kernel
theorem dX10_wall_45 : decode cX10_wall 45 = .ok (.iastore, 1) := by decide +kernel
theorem dX10_wall_46 : decode cX10_wall 46 = .ok (.aload_n 0, 1) := by decide +kernel
theorem dX10_wall_47 : decode cX10_wall 47 = .ok (.getfield 111, 3) := by decide +kernel
theorem dX10_wall_50 : decode cX10_wall 50 = .ok (.aload_n 0, 1) := by decide +kernel
theorem dX10_wall_51 : decode cX10_wall 51 = .ok (.getfield 247, 3) := by decide +kernel
theorem dX10_wall_54 : decode cX10_wall 54 = .ok (.iload_n 2, 1) := by decide +kernel
theorem dX10_wall_55 : decode cX10_wall 55 = .ok (.iastore, 1) := by decide +kernel
theorem dX10_wall_56 : decode cX10_wall 56 = .ok (.aload_n 0, 1) := by decide +kernel
theorem dX10_wall_57 : decode cX10_wall 57 = .ok (.getfield 114, 3) := by decide +kernel
theorem dX10_wall_60 : decode cX10_wall 60 = .ok (.aload_n 0, 1) := by decide +kernel
theorem dX10_wall_61 : decode cX10_wall 61 = .ok (.getfield 247, 3) := by decide +kernel
theorem dX10_wall_64 : decode cX10_wall 64 = .ok (.iload_n 3, 1) := by decide +kernel
theorem dX10_wall_65 : decode cX10_wall 65 = .ok (.bastore, 1) := by decide +kernel
theorem dX10_wall_66 : decode cX10_wall 66 = .ok (.aload_n 0, 1) := by decide +kernel
theorem dX10_wall_67 : decode cX10_wall 67 = .ok (.dup, 1) := by decide +kernel
theorem dX10_wall_68 : decode cX10_wall 68 = .ok (.getfield 247, 3) := by decide +kernel
theorem dX10_wall_71 : decode cX10_wall 71 = .ok (.iconst 1, 1) := by decide +kernel
theorem dX10_wall_72 : decode cX10_wall 72 = .ok (.iadd, 1) := by decide +kernel
theorem dX10_wall_73 : decode cX10_wall 73 = .ok (.putfield 247, 3) := by decide +kernel
theorem dX10_wall_76 : decode cX10_wall 76 = .ok (.aload_n 0, 1) := by decide +kernel
theorem dX10_wall_77 : decode cX10_wall 77 = .ok (.getfield 247, 3) := by decide +kernel
theorem dX10_wall_80 : decode cX10_wall 80 = .ok (.iconst 1, 1) := by decide +kernel
theorem dX10_wall_81 : decode cX10_wall 81 = .ok (.isub, 1) := by decide +kernel
theorem dX10_wall_82 : decode cX10_wall 82 = .ok (.ireturn, 1) := by decide +kernel
set_option maxRecDepth 20000 in
theorem ggX10_keep_X10_in : GoodIn wsX10_keep wsX10_in := goodIn_r _ [9] (by decide +kernel) (by decide +kernel)
set_option maxRecDepth 20000 in
theorem gX10_keep_X10_in : GoodIn wsX10_keep (va_wsS RX10 120 yX10_in wsX10_in) := goodIn_app (goodIn_of _ (by decide +kernel)) ggX10_keep_X10_in
theorem dX10_keep_0 : decode cX10_keep 0 = .ok (.iload_n 1, 1) := by decide +kernel
theorem dX10_keep_1 : decode cX10_keep 1 = .ok (.iconst 0, 1) := by decide +kernel
theorem dX10_keep_2 : decode cX10_keep 2 = .ok (.sipush 12000, 3) := by decide +kernel
theorem dX10_keep_5 : decode cX10_keep 5 = .ok (.invokestatic 120, 3) := by decide +kernel
theorem dX10_keep_8 : decode cX10_keep 8 = .ok (.ifCond .ne 5, 3) := by decide +kernel
theorem dX10_keep_11 : decode cX10_keep 11 = .ok (.iconst (-1), 1) := by decide +kernel
theorem dX10_keep_12 : decode cX10_keep 12 = .ok (.ireturn, 1) := by decide +kernel
theorem dX10_keep_13 : decode cX10_keep 13 = .ok (.iconst 0, 1) := by decide +kernel
theorem dX10_keep_14 : decode cX10_keep 14 = .ok (.istore_n 2, 1) := by decide +kernel
theorem dX10_keep_15 : decode cX10_keep 15 = .ok (.iconst 0, 1) := by decide +kernel
theorem dX10_keep_16 : decode cX10_keep 16 = .ok (.istore_n 3, 1) := by decide +kernel
theorem dX10_keep_17 : decode cX10_keep 17 = .ok (.iconst 0, 1) := by decide +kernel
theorem dX10_keep_18 : decode cX10_keep 18 = .ok (.istore 4, 2) := by decide +kernel
theorem dX10_keep_20 : decode cX10_keep 20 = .ok (.iconst 1, 1) := by decide +kernel
theorem dX10_keep_21 : decode cX10_keep 21 = .ok (.istore 5, 2) := by decide +kernel
theorem dX10_keep_23 : decode cX10_keep 23 = .ok (.iload 5, 2) := by decide +kernel
theorem dX10_keep_25 : decode cX10_keep 25 = .ok (.iconst 1, 1) := by decide +kernel
theorem dX10_keep_26 : decode cX10_keep 26 = .ok (.aload_n 0, 1) := by decide +kernel
theorem dX10_keep_27 : decode cX10_keep 27 = .ok (.getfield 247, 3) := by decide +kernel
theorem dX10_keep_30 : decode cX10_keep 30 = .ok (.ishl, 1) := by decide +kernel
theorem dX10_keep_31 : decode cX10_keep 31 = .ok (.if_icmp .ge 163, 3) := by decide +kernel
theorem dX10_keep_34 : decode cX10_keep 34 = .ok (.iconst 0, 1) := by decide +kernel
theorem dX10_keep_35 : decode cX10_keep 35 = .ok (.istore 6, 2) := by decide +kernel
theorem dX10_keep_37 : decode cX10_keep 37 = .ok (.iconst 0, 1) := by decide +kernel
theorem dX10_keep_38 : decode cX10_keep 38 = .ok (.istore 7, 2) := by decide +kernel
theorem dX10_keep_40 : decode cX10_keep 40 = .ok (.iconst 1, 1) := by decide +kernel
theorem dX10_keep_41 : decode cX10_keep 41 = .ok (.istore 8, 2) := by decide +kernel
theorem dX10_keep_43 : decode cX10_keep 43 = .ok (.iconst 0, 1) := by decide +kernel
theorem dX10_keep_44 : decode cX10_keep 44 = .ok (.istore 9, 2) := by decide +kernel
theorem dX10_keep_46 : decode cX10_keep 46 = .ok (.iload 9, 2) := by decide +kernel
theorem dX10_keep_48 : decode cX10_keep 48 = .ok (.aload_n 0, 1) := by decide +kernel
theorem dX10_keep_49 : decode cX10_keep 49 = .ok (.getfield 247, 3) := by decide +kernel
theorem dX10_keep_52 : decode cX10_keep 52 = .ok (.if_icmp .ge 96, 3) := by decide +kernel
theorem dX10_keep_55 : decode cX10_keep 55 = .ok (.iload 5, 2) := by decide +kernel
theorem dX10_keep_57 : decode cX10_keep 57 = .ok (.iload 9, 2) := by decide +kernel
theorem dX10_keep_59 : decode cX10_keep 59 = .ok (.ishr, 1) := by decide +kernel
theorem dX10_keep_60 : decode cX10_keep 60 = .ok (.iconst 1, 1) := by decide +kernel
theorem dX10_keep_61 : decode cX10_keep 61 = .ok (.iand, 1) := by decide +kernel
theorem dX10_keep_62 : decode cX10_keep 62 = .ok (.iconst 1, 1) := by decide +kernel
theorem dX10_keep_63 : decode cX10_keep 63 = .ok (.if_icmp .ne 7, 3) := by decide +kernel
theorem dX10_keep_66 : decode cX10_keep 66 = .ok (.iconst 1, 1) := by decide +kernel
theorem dX10_keep_67 : decode cX10_keep 67 = .ok (.goto 4, 3) := by decide +kernel
theorem dX10_keep_70 : decode cX10_keep 70 = .ok (.iconst 0, 1) := by decide +kernel
theorem dX10_keep_71 : decode cX10_keep 71 = .ok (.istore 10, 2) := by decide +kernel
theorem dX10_keep_73 : decode cX10_keep 73 = .ok (.iload 6, 2) := by decide +kernel
theorem dX10_keep_75 : decode cX10_keep 75 = .ok (.iload 10, 2) := by decide +kernel
theorem dX10_keep_77 : decode cX10_keep 77 = .ok (.ifCond .eq 13, 3) := by decide +kernel
theorem dX10_keep_80 : decode cX10_keep 80 = .ok (.aload_n 0, 1) := by decide +kernel
theorem dX10_keep_81 : decode cX10_keep 81 = .ok (.getfield 108, 3) := by decide +kernel
theorem dX10_keep_84 : decode cX10_keep 84 = .ok (.iload 9, 2) := by decide +kernel
theorem dX10_keep_86 : decode cX10_keep 86 = .ok (.iaload, 1) := by decide +kernel
theorem dX10_keep_87 : decode cX10_keep 87 = .ok (.goto 4, 3) := by decide +kernel
theorem dX10_keep_90 : decode cX10_keep 90 = .ok (.iconst 0, 1) := by decide +kernel
theorem dX10_keep_91 : decode cX10_keep 91 = .ok (.iadd, 1) := by decide +kernel
theorem dX10_keep_92 : decode cX10_keep 92 = .ok (.istore 6, 2) := by decide +kernel
theorem dX10_keep_94 : decode cX10_keep 94 = .ok (.iload 7, 2) := by decide +kernel
theorem dX10_keep_96 : decode cX10_keep 96 = .ok (.iload 10, 2) := by decide +kernel
theorem dX10_keep_98 : decode cX10_keep 98 = .ok (.ifCond .eq 13, 3) := by decide +kernel
theorem dX10_keep_101 : decode cX10_keep 101 = .ok (.aload_n 0, 1) := by decide +kernel
theorem dX10_keep_102 : decode cX10_keep 102 = .ok (.getfield 111, 3) := by decide +kernel
theorem dX10_keep_105 : decode cX10_keep 105 = .ok (.iload 9, 2) := by decide +kernel
theorem dX10_keep_107 : decode cX10_keep 107 = .ok (.iaload, 1) := by decide +kernel
theorem dX10_keep_108 : decode cX10_keep 108 = .ok (.goto 4, 3) := by decide +kernel
theorem dX10_keep_111 : decode cX10_keep 111 = .ok (.iconst 0, 1) := by decide +kernel
theorem dX10_keep_112 : decode cX10_keep 112 = .ok (.iadd, 1) := by decide +kernel
theorem dX10_keep_113 : decode cX10_keep 113 = .ok (.istore 7, 2) := by decide +kernel
theorem dX10_keep_115 : decode cX10_keep 115 = .ok (.iload 8, 2) := by decide +kernel
theorem dX10_keep_117 : decode cX10_keep 117 = .ok (.ifCond .eq 22, 3) := by decide +kernel
theorem dX10_keep_120 : decode cX10_keep 120 = .ok (.iload 10, 2) := by decide +kernel
theorem dX10_keep_122 : decode cX10_keep 122 = .ok (.ifCond .eq 13, 3) := by decide +kernel
theorem dX10_keep_125 : decode cX10_keep 125 = .ok (.aload_n 0, 1) := by decide +kernel
theorem dX10_keep_126 : decode cX10_keep 126 = .ok (.getfield 114, 3) := by decide +kernel
theorem dX10_keep_129 : decode cX10_keep 129 = .ok (.iload 9, 2) := by decide +kernel
theorem dX10_keep_131 : decode cX10_keep 131 = .ok (.baload, 1) := by decide +kernel
theorem dX10_keep_132 : decode cX10_keep 132 = .ok (.ifCond .eq 7, 3) := by decide +kernel
theorem dX10_keep_135 : decode cX10_keep 135 = .ok (.iconst 1, 1) := by decide +kernel
theorem dX10_keep_136 : decode cX10_keep 136 = .ok (.goto 4, 3) := by decide +kernel
theorem dX10_keep_139 : decode cX10_keep 139 = .ok (.iconst 0, 1) := by decide +kernel
theorem dX10_keep_140 : decode cX10_keep 140 = .ok (.istore 8, 2) := by decide +kernel
theorem dX10_keep_142 : decode cX10_keep 142 = .ok (.iinc 9 1, 3) := by decide +kernel
theorem dX10_keep_145 : decode cX10_keep 145 = .ok (.goto (-99), 3) := by decide +kernel
theorem dX10_keep_148 : decode cX10_keep 148 = .ok (.iload 8, 2) := by decide +kernel
theorem dX10_keep_150 : decode cX10_keep 150 = .ok (.ifCond .eq 38, 3) := by decide +kernel
theorem dX10_keep_153 : decode cX10_keep 153 = .ok (.iload 7, 2) := by decide +kernel
theorem dX10_keep_155 : decode cX10_keep 155 = .ok (.iload_n 1, 1) := by decide +kernel
theorem dX10_keep_156 : decode cX10_keep 156 = .ok (.if_icmp .gt 32, 3) := by decide +kernel
theorem dX10_keep_159 : decode cX10_keep 159 = .ok (.iload 6, 2) := by decide +kernel
theorem dX10_keep_161 : decode cX10_keep 161 = .ok (.iload_n 3, 1) := by decide +kernel
theorem dX10_keep_162 : decode cX10_keep 162 = .ok (.if_icmp .gt 16, 3) := by decide +kernel
theorem dX10_keep_165 : decode cX10_keep 165 = .ok (.iload 6, 2) := by decide +kernel
theorem dX10_keep_167 : decode cX10_keep 167 = .ok (.iload_n 3, 1) := by decide +kernel
theorem dX10_keep_168 : decode cX10_keep 168 = .ok (.if_icmp .ne 20, 3) := by decide +kernel
theorem dX10_keep_171 : decode cX10_keep 171 = .ok (.iload 7, 2) := by decide +kernel
theorem dX10_keep_173 : decode cX10_keep 173 = .ok (.iload 4, 2) := by decide +kernel
theorem dX10_keep_175 : decode cX10_keep 175 = .ok (.if_icmp .ge 13, 3) := by decide +kernel
theorem dX10_keep_178 : decode cX10_keep 178 = .ok (.iload 5, 2) := by decide +kernel
theorem dX10_keep_180 : decode cX10_keep 180 = .ok (.istore_n 2, 1) := by decide +kernel
theorem dX10_keep_181 : decode cX10_keep 181 = .ok (.iload 6, 2) := by decide +kernel
theorem dX10_keep_183 : decode cX10_keep 183 = .ok (.istore_n 3, 1) := by decide +kernel
theorem dX10_keep_184 : decode cX10_keep 184 = .ok (.iload 7, 2) := by decide +kernel
theorem dX10_keep_186 : decode cX10_keep 186 = .ok (.istore 4, 2) := by decide +kernel
theorem dX10_keep_188 : decode cX10_keep 188 = .ok (.iinc 5 1, 3) := by decide +kernel
theorem dX10_keep_191 : decode cX10_keep 191 = .ok (.goto (-168), 3) := by decide +kernel
theorem dX10_keep_194 : decode cX10_keep 194 = .ok (.aload_n 0, 1) := by decide +kernel
theorem dX10_keep_195 : decode cX10_keep 195 = .ok (.iload_n 2, 1) := by decide +kernel
theorem dX10_keep_196 : decode cX10_keep 196 = .ok (.putfield 200, 3) := by decide +kernel
theorem dX10_keep_199 : decode cX10_keep 199 = .ok (.iload_n 3, 1) := by decide +kernel
theorem dX10_keep_200 : decode cX10_keep 200 = .ok (.ireturn, 1) := by decide +kernel
theorem dX10_asked_0 : decode cX10_asked 0 = .ok (.aload_n 0, 1) := by decide +kernel
theorem dX10_asked_1 : decode cX10_asked 1 = .ok (.getfield 200, 3) := by decide +kernel
theorem dX10_asked_4 : decode cX10_asked 4 = .ok (.ireturn, 1) := by decide +kernel
theorem dX10_tellsCount_0 : decode cX10_tellsCount 0 = .ok (.iconst 0, 1) := by decide +kernel
theorem dX10_tellsCount_1 : decode cX10_tellsCount 1 = .ok (.istore_n 2, 1) := by decide +kernel
theorem dX10_tellsCount_2 : decode cX10_tellsCount 2 = .ok (.iload_n 1, 1) := by decide +kernel
theorem dX10_tellsCount_3 : decode cX10_tellsCount 3 = .ok (.tableswitch 141 0 4 #[33, 38, 73, 108, 136], 33) := by decide +kernel
theorem dX10_tellsCount_36 : decode cX10_tellsCount 36 = .ok (.aload_n 0, 1) := by decide +kernel
theorem dX10_tellsCount_37 : decode cX10_tellsCount 37 = .ok (.getfield 141, 3) := by decide +kernel
theorem dX10_tellsCount_40 : decode cX10_tellsCount 40 = .ok (.ireturn, 1) := by decide +kernel
theorem dX10_tellsCount_41 : decode cX10_tellsCount 41 = .ok (.iconst 0, 1) := by decide +kernel
theorem dX10_tellsCount_42 : decode cX10_tellsCount 42 = .ok (.istore_n 3, 1) := by decide +kernel
theorem dX10_tellsCount_43 : decode cX10_tellsCount 43 = .ok (.iload_n 3, 1) := by decide +kernel
theorem dX10_tellsCount_44 : decode cX10_tellsCount 44 = .ok (.aload_n 0, 1) := by decide +kernel
theorem dX10_tellsCount_45 : decode cX10_tellsCount 45 = .ok (.getfield 141, 3) := by decide +kernel
theorem dX10_tellsCount_48 : decode cX10_tellsCount 48 = .ok (.if_icmp .ge 26, 3) := by decide +kernel
theorem dX10_tellsCount_51 : decode cX10_tellsCount 51 = .ok (.iload_n 2, 1) := by decide +kernel
theorem dX10_tellsCount_52 : decode cX10_tellsCount 52 = .ok (.aload_n 0, 1) := by decide +kernel
theorem dX10_tellsCount_53 : decode cX10_tellsCount 53 = .ok (.getfield 34, 3) := by decide +kernel
theorem dX10_tellsCount_56 : decode cX10_tellsCount 56 = .ok (.iload_n 3, 1) := by decide +kernel
theorem dX10_tellsCount_57 : decode cX10_tellsCount 57 = .ok (.baload, 1) := by decide +kernel
theorem dX10_tellsCount_58 : decode cX10_tellsCount 58 = .ok (.ifCond .eq 7, 3) := by decide +kernel
theorem dX10_tellsCount_61 : decode cX10_tellsCount 61 = .ok (.iconst 0, 1) := by decide +kernel
theorem dX10_tellsCount_62 : decode cX10_tellsCount 62 = .ok (.goto 4, 3) := by decide +kernel
theorem dX10_tellsCount_65 : decode cX10_tellsCount 65 = .ok (.iconst 1, 1) := by decide +kernel
theorem dX10_tellsCount_66 : decode cX10_tellsCount 66 = .ok (.iadd, 1) := by decide +kernel
theorem dX10_tellsCount_67 : decode cX10_tellsCount 67 = .ok (.istore_n 2, 1) := by decide +kernel
theorem dX10_tellsCount_68 : decode cX10_tellsCount 68 = .ok (.iinc 3 1, 3) := by decide +kernel
theorem dX10_tellsCount_71 : decode cX10_tellsCount 71 = .ok (.goto (-28), 3) := by decide +kernel
theorem dX10_tellsCount_74 : decode cX10_tellsCount 74 = .ok (.iload_n 2, 1) := by decide +kernel
theorem dX10_tellsCount_75 : decode cX10_tellsCount 75 = .ok (.ireturn, 1) := by decide +kernel
theorem dX10_tellsCount_76 : decode cX10_tellsCount 76 = .ok (.iconst 0, 1) := by decide +kernel
theorem dX10_tellsCount_77 : decode cX10_tellsCount 77 = .ok (.istore_n 3, 1) := by decide +kernel
theorem dX10_tellsCount_78 : decode cX10_tellsCount 78 = .ok (.iload_n 3, 1) := by decide +kernel
theorem dX10_tellsCount_79 : decode cX10_tellsCount 79 = .ok (.sipush 600, 3) := by decide +kernel
theorem dX10_tellsCount_82 : decode cX10_tellsCount 82 = .ok (.if_icmp .ge 27, 3) := by decide +kernel
theorem dX10_tellsCount_85 : decode cX10_tellsCount 85 = .ok (.iload_n 2, 1) := by decide +kernel
theorem dX10_tellsCount_86 : decode cX10_tellsCount 86 = .ok (.aload_n 0, 1) := by decide +kernel
theorem dX10_tellsCount_87 : decode cX10_tellsCount 87 = .ok (.getfield 50, 3) := by decide +kernel
theorem dX10_tellsCount_90 : decode cX10_tellsCount 90 = .ok (.iload_n 3, 1) := by decide +kernel
theorem dX10_tellsCount_91 : decode cX10_tellsCount 91 = .ok (.iaload, 1) := by decide +kernel
theorem dX10_tellsCount_92 : decode cX10_tellsCount 92 = .ok (.iconst 4, 1) := by decide +kernel
theorem dX10_tellsCount_93 : decode cX10_tellsCount 93 = .ok (.if_icmp .ne 7, 3) := by decide +kernel
theorem dX10_tellsCount_96 : decode cX10_tellsCount 96 = .ok (.iconst 0, 1) := by decide +kernel
theorem dX10_tellsCount_97 : decode cX10_tellsCount 97 = .ok (.goto 4, 3) := by decide +kernel
theorem dX10_tellsCount_100 : decode cX10_tellsCount 100 = .ok (.iconst 1, 1) := by decide +kernel
theorem dX10_tellsCount_101 : decode cX10_tellsCount 101 = .ok (.iadd, 1) := by decide +kernel
theorem dX10_tellsCount_102 : decode cX10_tellsCount 102 = .ok (.istore_n 2, 1) := by decide +kernel
theorem dX10_tellsCount_103 : decode cX10_tellsCount 103 = .ok (.iinc 3 1, 3) := by decide +kernel
theorem dX10_tellsCount_106 : decode cX10_tellsCount 106 = .ok (.goto (-28), 3) := by decide +kernel
theorem dX10_tellsCount_109 : decode cX10_tellsCount 109 = .ok (.iload_n 2, 1) := by decide +kernel
theorem dX10_tellsCount_110 : decode cX10_tellsCount 110 = .ok (.ireturn, 1) := by decide +kernel
theorem dX10_tellsCount_111 : decode cX10_tellsCount 111 = .ok (.aload_n 0, 1) := by decide +kernel
theorem dX10_tellsCount_112 : decode cX10_tellsCount 112 = .ok (.getfield 56, 3) := by decide +kernel
theorem dX10_tellsCount_115 : decode cX10_tellsCount 115 = .ok (.iconst 0, 1) := by decide +kernel
theorem dX10_tellsCount_116 : decode cX10_tellsCount 116 = .ok (.iaload, 1) := by decide +kernel
theorem dX10_tellsCount_117 : decode cX10_tellsCount 117 = .ok (.aload_n 0, 1) := by decide +kernel
theorem dX10_tellsCount_118 : decode cX10_tellsCount 118 = .ok (.getfield 56, 3) := by decide +kernel
theorem dX10_tellsCount_121 : decode cX10_tellsCount 121 = .ok (.iconst 1, 1) := by decide +kernel
theorem dX10_tellsCount_122 : decode cX10_tellsCount 122 = .ok (.iaload, 1) := by decide +kernel
theorem dX10_tellsCount_123 : decode cX10_tellsCount 123 = .ok (.iadd, 1) := by decide +kernel
theorem dX10_tellsCount_124 : decode cX10_tellsCount 124 = .ok (.aload_n 0, 1) := by decide +kernel
theorem dX10_tellsCount_125 : decode cX10_tellsCount 125 = .ok (.getfield 56, 3) := by decide +kernel
theorem dX10_tellsCount_128 : decode cX10_tellsCount 128 = .ok (.iconst 2, 1) := by decide +kernel
theorem dX10_tellsCount_129 : decode cX10_tellsCount 129 = .ok (.iaload, 1) := by decide +kernel
theorem dX10_tellsCount_130 : decode cX10_tellsCount 130 = .ok (.iadd, 1) := by decide +kernel
theorem dX10_tellsCount_131 : decode cX10_tellsCount 131 = .ok (.aload_n 0, 1) := by decide +kernel
theorem dX10_tellsCount_132 : decode cX10_tellsCount 132 = .ok (.getfield 56, 3) := by decide +kernel
theorem dX10_tellsCount_135 : decode cX10_tellsCount 135 = .ok (.iconst 3, 1) := by decide +kernel
theorem dX10_tellsCount_136 : decode cX10_tellsCount 136 = .ok (.iaload, 1) := by decide +kernel
theorem dX10_tellsCount_137 : decode cX10_tellsCount 137 = .ok (.iadd, 1) := by decide +kernel
theorem dX10_tellsCount_138 : decode cX10_tellsCount 138 = .ok (.ireturn, 1) := by decide +kernel
theorem dX10_tellsCount_139 : decode cX10_tellsCount 139 = .ok (.aload_n 0, 1) := by decide +kernel
theorem dX10_tellsCount_140 : decode cX10_tellsCount 140 = .ok (.getfield 244, 3) := by decide +kernel
theorem dX10_tellsCount_143 : decode cX10_tellsCount 143 = .ok (.ireturn, 1) := by decide +kernel
theorem dX10_tellsCount_144 : decode cX10_tellsCount 144 = .ok (.aload_n 0, 1) := by decide +kernel
theorem dX10_tellsCount_145 : decode cX10_tellsCount 145 = .ok (.getfield 247, 3) := by decide +kernel
theorem dX10_tellsCount_148 : decode cX10_tellsCount 148 = .ok (.ireturn, 1) := by decide +kernel
set_option maxRecDepth 20000 in
theorem ggX10_count_X10_in : GoodIn wsX10_count wsX10_in := goodIn_r _ [4] (by decide +kernel) (by decide +kernel)
set_option maxRecDepth 20000 in
theorem gX10_count_X10_in : GoodIn wsX10_count (va_wsS RX10 120 yX10_in wsX10_in) := goodIn_app (goodIn_of _ (by decide +kernel)) ggX10_count_X10_in
set_option maxRecDepth 20000 in
theorem ggX10_count_X10_tellsCount : GoodIn wsX10_count wsX10_tellsCount := goodIn_r _ [8, 9, 10, 11, 12, 13, 14, 15, 16, 17, 18, 19, 20, 21, 22, 23, 24, 25, 26, 27, 28, 29, 30, 31, 32, 33, 34, 35, 36, 37, 38, 39, 40, 41, 42, 43, 44, 45, 46, 47, 48, 49, 50, 51, 52, 53, 54, 55, 56, 57, 58] (by decide +kernel) (by decide +kernel)
set_option maxRecDepth 20000 in
theorem gX10_count_X10_tellsCount : GoodIn wsX10_count (wsV RX10 250 RX10 yX10_tellsCount wsX10_tellsCount) := goodIn_app (goodIn_of _ (by decide +kernel)) ggX10_count_X10_tellsCount
theorem dX10_count_0 : decode cX10_count 0 = .ok (.iload_n 1, 1) := by decide +kernel
theorem dX10_count_1 : decode cX10_count 1 = .ok (.iconst 0, 1) := by decide +kernel
theorem dX10_count_2 : decode cX10_count 2 = .ok (.iconst 5, 1) := by decide +kernel
theorem dX10_count_3 : decode cX10_count 3 = .ok (.invokestatic 120, 3) := by decide +kernel
theorem dX10_count_6 : decode cX10_count 6 = .ok (.ifCond .eq 11, 3) := by decide +kernel
theorem dX10_count_9 : decode cX10_count 9 = .ok (.aload_n 0, 1) := by decide +kernel
theorem dX10_count_10 : decode cX10_count 10 = .ok (.iload_n 1, 1) := by decide +kernel
theorem dX10_count_11 : decode cX10_count 11 = .ok (.invokevirtual 250, 3) := by decide +kernel
theorem dX10_count_14 : decode cX10_count 14 = .ok (.goto 4, 3) := by decide +kernel
theorem dX10_count_17 : decode cX10_count 17 = .ok (.iconst (-1), 1) := by decide +kernel
theorem dX10_count_18 : decode cX10_count 18 = .ok (.ireturn, 1) := by decide +kernel
theorem dX10_finding_0 : decode cX10_finding 0 = .ok (.aload_n 0, 1) := by decide +kernel
theorem dX10_finding_1 : decode cX10_finding 1 = .ok (.getfield 117, 3) := by decide +kernel
theorem dX10_finding_4 : decode cX10_finding 4 = .ok (.ireturn, 1) := by decide +kernel
set_option maxRecDepth 20000 in
theorem ggX10_findings_X10_in : GoodIn wsX10_findings wsX10_in := goodIn_r _ [5] (by decide +kernel) (by decide +kernel)
set_option maxRecDepth 20000 in
theorem gX10_findings_X10_in : GoodIn wsX10_findings (va_wsS RX10 120 yX10_in wsX10_in) := goodIn_app (goodIn_of _ (by decide +kernel)) ggX10_findings_X10_in
theorem dX10_findings_0 : decode cX10_findings 0 = .ok (.iload_n 1, 1) := by decide +kernel
theorem dX10_findings_1 : decode cX10_findings 1 = .ok (.iconst 1, 1) := by decide +kernel
theorem dX10_findings_2 : decode cX10_findings 2 = .ok (.iconst 5, 1) := by decide +kernel
theorem dX10_findings_3 : decode cX10_findings 3 = .ok (.invokestatic 120, 3) := by decide +kernel
theorem dX10_findings_6 : decode cX10_findings 6 = .ok (.ifCond .eq 12, 3) := by decide +kernel
theorem dX10_findings_9 : decode cX10_findings 9 = .ok (.aload_n 0, 1) := by decide +kernel
theorem dX10_findings_10 : decode cX10_findings 10 = .ok (.getfield 7, 3) := by decide +kernel
theorem dX10_findings_13 : decode cX10_findings 13 = .ok (.iload_n 1, 1) := by decide +kernel
theorem dX10_findings_14 : decode cX10_findings 14 = .ok (.iaload, 1) := by decide +kernel
theorem dX10_findings_15 : decode cX10_findings 15 = .ok (.goto 4, 3) := by decide +kernel
theorem dX10_findings_18 : decode cX10_findings 18 = .ok (.iconst (-1), 1) := by decide +kernel
theorem dX10_findings_19 : decode cX10_findings 19 = .ok (.ireturn, 1) := by decide +kernel
set_option maxRecDepth 20000 in
theorem ggX10_digest_X10_tellsCount : GoodIn wsX10_digest wsX10_tellsCount := goodIn_r _ [16, 3, 4, 5, 6, 17, 18, 33, 34, 35, 36, 37, 38, 39, 40, 41, 42, 43, 44, 45, 46, 47, 48, 49, 50, 51, 52, 53, 54, 55, 56, 57, 58, 59, 60, 61, 62, 63, 64, 65, 66, 67, 68, 69, 70, 71, 72, 73, 74, 75, 76] (by decide +kernel) (by decide +kernel)
set_option maxRecDepth 20000 in
theorem gX10_digest_X10_tellsCount : GoodIn wsX10_digest (wsV RX10 250 RX10 yX10_tellsCount wsX10_tellsCount) := goodIn_app (goodIn_of _ (by decide +kernel)) ggX10_digest_X10_tellsCount
set_option maxRecDepth 20000 in
theorem ggX10_digest_X10_tells : GoodIn wsX10_digest wsX10_tells := goodIn_r _ [22, 23, 24, 25, 26, 27, 28, 29, 30, 31, 15, 32, 33, 34, 35, 36, 37, 38, 39, 40, 41, 42, 43, 44, 45, 46, 47, 48, 49, 50, 51, 52, 53, 54, 55, 56, 57, 58, 59, 60, 61, 62, 63, 64, 65, 66, 67, 68, 69, 70, 71, 72, 73, 74, 75, 76] (by decide +kernel) (by decide +kernel)
set_option maxRecDepth 20000 in
theorem gX10_digest_X10_tells : GoodIn wsX10_digest (wsV RX10 169 RX10 yX10_tells wsX10_tells) := goodIn_app (goodIn_of _ (by decide +kernel)) ggX10_digest_X10_tells
theorem dX10_digest_0 : decode cX10_digest 0 = .ok (.ldc2_w 253, 3) := by decide +kernel
theorem dX10_digest_3 : decode cX10_digest 3 = .ok (.lstore_n 1, 1) := by decide +kernel
theorem dX10_digest_4 : decode cX10_digest 4 = .ok (.iconst 0, 1) := by decide +kernel
theorem dX10_digest_5 : decode cX10_digest 5 = .ok (.istore_n 3, 1) := by decide +kernel
theorem dX10_digest_6 : decode cX10_digest 6 = .ok (.iload_n 3, 1) := by decide +kernel
theorem dX10_digest_7 : decode cX10_digest 7 = .ok (.iconst 5, 1) := by decide +kernel
theorem dX10_digest_8 : decode cX10_digest 8 = .ok (.if_icmp .gt 22, 3) := by decide +kernel
theorem dX10_digest_11 : decode cX10_digest 11 = .ok (.ldc2_w 255, 3) := by decide +kernel
theorem dX10_digest_14 : decode cX10_digest 14 = .ok (.lload_n 1, 1) := by decide +kernel
theorem dX10_digest_15 : decode cX10_digest 15 = .ok (.lmul, 1) := by decide +kernel
theorem dX10_digest_16 : decode cX10_digest 16 = .ok (.aload_n 0, 1) := by decide +kernel
theorem dX10_digest_17 : decode cX10_digest 17 = .ok (.iload_n 3, 1) := by decide +kernel
theorem dX10_digest_18 : decode cX10_digest 18 = .ok (.invokevirtual 250, 3) := by decide +kernel
theorem dX10_digest_21 : decode cX10_digest 21 = .ok (.i2l, 1) := by decide +kernel
theorem dX10_digest_22 : decode cX10_digest 22 = .ok (.ladd, 1) := by decide +kernel
theorem dX10_digest_23 : decode cX10_digest 23 = .ok (.lstore_n 1, 1) := by decide +kernel
theorem dX10_digest_24 : decode cX10_digest 24 = .ok (.iinc 3 1, 3) := by decide +kernel
theorem dX10_digest_27 : decode cX10_digest 27 = .ok (.goto (-21), 3) := by decide +kernel
theorem dX10_digest_30 : decode cX10_digest 30 = .ok (.iconst 0, 1) := by decide +kernel
theorem dX10_digest_31 : decode cX10_digest 31 = .ok (.istore_n 3, 1) := by decide +kernel
theorem dX10_digest_32 : decode cX10_digest 32 = .ok (.iload_n 3, 1) := by decide +kernel
theorem dX10_digest_33 : decode cX10_digest 33 = .ok (.aload_n 0, 1) := by decide +kernel
theorem dX10_digest_34 : decode cX10_digest 34 = .ok (.getfield 141, 3) := by decide +kernel
theorem dX10_digest_37 : decode cX10_digest 37 = .ok (.if_icmp .ge 65, 3) := by decide +kernel
theorem dX10_digest_40 : decode cX10_digest 40 = .ok (.aload_n 0, 1) := by decide +kernel
theorem dX10_digest_41 : decode cX10_digest 41 = .ok (.getfield 34, 3) := by decide +kernel
theorem dX10_digest_44 : decode cX10_digest 44 = .ok (.iload_n 3, 1) := by decide +kernel
theorem dX10_digest_45 : decode cX10_digest 45 = .ok (.baload, 1) := by decide +kernel
theorem dX10_digest_46 : decode cX10_digest 46 = .ok (.ifCond .eq 11, 3) := by decide +kernel
theorem dX10_digest_49 : decode cX10_digest 49 = .ok (.ldc2_w 255, 3) := by decide +kernel
theorem dX10_digest_52 : decode cX10_digest 52 = .ok (.lload_n 1, 1) := by decide +kernel
theorem dX10_digest_53 : decode cX10_digest 53 = .ok (.lmul, 1) := by decide +kernel
theorem dX10_digest_54 : decode cX10_digest 54 = .ok (.lconst 1, 1) := by decide +kernel
theorem dX10_digest_55 : decode cX10_digest 55 = .ok (.lsub, 1) := by decide +kernel
theorem dX10_digest_56 : decode cX10_digest 56 = .ok (.lstore_n 1, 1) := by decide +kernel
theorem dX10_digest_57 : decode cX10_digest 57 = .ok (.iconst 0, 1) := by decide +kernel
theorem dX10_digest_58 : decode cX10_digest 58 = .ok (.istore 4, 2) := by decide +kernel
theorem dX10_digest_60 : decode cX10_digest 60 = .ok (.iload 4, 2) := by decide +kernel
theorem dX10_digest_62 : decode cX10_digest 62 = .ok (.iconst 5, 1) := by decide +kernel
theorem dX10_digest_63 : decode cX10_digest 63 = .ok (.if_icmp .gt 33, 3) := by decide +kernel
theorem dX10_digest_66 : decode cX10_digest 66 = .ok (.aload_n 0, 1) := by decide +kernel
theorem dX10_digest_67 : decode cX10_digest 67 = .ok (.getfield 34, 3) := by decide +kernel
theorem dX10_digest_70 : decode cX10_digest 70 = .ok (.iload_n 3, 1) := by decide +kernel
theorem dX10_digest_71 : decode cX10_digest 71 = .ok (.baload, 1) := by decide +kernel
theorem dX10_digest_72 : decode cX10_digest 72 = .ok (.ifCond .ne 24, 3) := by decide +kernel
theorem dX10_digest_75 : decode cX10_digest 75 = .ok (.ldc2_w 255, 3) := by decide +kernel
theorem dX10_digest_78 : decode cX10_digest 78 = .ok (.lload_n 1, 1) := by decide +kernel
theorem dX10_digest_79 : decode cX10_digest 79 = .ok (.lmul, 1) := by decide +kernel
theorem dX10_digest_80 : decode cX10_digest 80 = .ok (.aload_n 0, 1) := by decide +kernel
theorem dX10_digest_81 : decode cX10_digest 81 = .ok (.iload_n 3, 1) := by decide +kernel
theorem dX10_digest_82 : decode cX10_digest 82 = .ok (.iload 4, 2) := by decide +kernel
theorem dX10_digest_84 : decode cX10_digest 84 = .ok (.invokevirtual 169, 3) := by decide +kernel
theorem dX10_digest_87 : decode cX10_digest 87 = .ok (.i2l, 1) := by decide +kernel
theorem dX10_digest_88 : decode cX10_digest 88 = .ok (.ladd, 1) := by decide +kernel
theorem dX10_digest_89 : decode cX10_digest 89 = .ok (.lstore_n 1, 1) := by decide +kernel
theorem dX10_digest_90 : decode cX10_digest 90 = .ok (.iinc 4 1, 3) := by decide +kernel
theorem dX10_digest_93 : decode cX10_digest 93 = .ok (.goto (-33), 3) := by decide +kernel
theorem dX10_digest_96 : decode cX10_digest 96 = .ok (.iinc 3 1, 3) := by decide +kernel
theorem dX10_digest_99 : decode cX10_digest 99 = .ok (.goto (-67), 3) := by decide +kernel
theorem dX10_digest_102 : decode cX10_digest 102 = .ok (.iconst 0, 1) := by decide +kernel
theorem dX10_digest_103 : decode cX10_digest 103 = .ok (.istore_n 3, 1) := by decide +kernel
theorem dX10_digest_104 : decode cX10_digest 104 = .ok (.iload_n 3, 1) := by decide +kernel
theorem dX10_digest_105 : decode cX10_digest 105 = .ok (.sipush 600, 3) := by decide +kernel
theorem dX10_digest_108 : decode cX10_digest 108 = .ok (.if_icmp .ge 23, 3) := by decide +kernel
theorem dX10_digest_111 : decode cX10_digest 111 = .ok (.ldc2_w 255, 3) := by decide +kernel
theorem dX10_digest_114 : decode cX10_digest 114 = .ok (.lload_n 1, 1) := by decide +kernel
theorem dX10_digest_115 : decode cX10_digest 115 = .ok (.lmul, 1) := by decide +kernel
theorem dX10_digest_116 : decode cX10_digest 116 = .ok (.aload_n 0, 1) := by decide +kernel
theorem dX10_digest_117 : decode cX10_digest 117 = .ok (.getfield 50, 3) := by decide +kernel
theorem dX10_digest_120 : decode cX10_digest 120 = .ok (.iload_n 3, 1) := by decide +kernel
theorem dX10_digest_121 : decode cX10_digest 121 = .ok (.iaload, 1) := by decide +kernel
theorem dX10_digest_122 : decode cX10_digest 122 = .ok (.i2l, 1) := by decide +kernel
theorem dX10_digest_123 : decode cX10_digest 123 = .ok (.ladd, 1) := by decide +kernel
theorem dX10_digest_124 : decode cX10_digest 124 = .ok (.lstore_n 1, 1) := by decide +kernel
theorem dX10_digest_125 : decode cX10_digest 125 = .ok (.iinc 3 1, 3) := by decide +kernel
theorem dX10_digest_128 : decode cX10_digest 128 = .ok (.goto (-24), 3) := by decide +kernel
theorem dX10_digest_131 : decode cX10_digest 131 = .ok (.iconst 0, 1) := by decide +kernel
theorem dX10_digest_132 : decode cX10_digest 132 = .ok (.istore_n 3, 1) := by decide +kernel
theorem dX10_digest_133 : decode cX10_digest 133 = .ok (.iload_n 3, 1) := by decide +kernel
theorem dX10_digest_134 : decode cX10_digest 134 = .ok (.iconst 4, 1) := by decide +kernel
theorem dX10_digest_135 : decode cX10_digest 135 = .ok (.if_icmp .ge 78, 3) := by decide +kernel
theorem dX10_digest_138 : decode cX10_digest 138 = .ok (.iconst 0, 1) := by decide +kernel
theorem dX10_digest_139 : decode cX10_digest 139 = .ok (.istore 4, 2) := by decide +kernel
theorem dX10_digest_141 : decode cX10_digest 141 = .ok (.iload 4, 2) := by decide +kernel
theorem dX10_digest_143 : decode cX10_digest 143 = .ok (.aload_n 0, 1) := by decide +kernel
theorem dX10_digest_144 : decode cX10_digest 144 = .ok (.getfield 56, 3) := by decide +kernel
theorem dX10_digest_147 : decode cX10_digest 147 = .ok (.iload_n 3, 1) := by decide +kernel
theorem dX10_digest_148 : decode cX10_digest 148 = .ok (.iaload, 1) := by decide +kernel
theorem dX10_digest_149 : decode cX10_digest 149 = .ok (.if_icmp .ge 58, 3) := by decide +kernel
theorem dX10_digest_152 : decode cX10_digest 152 = .ok (.iconst 3, 1) := by decide +kernel
theorem dX10_digest_153 : decode cX10_digest 153 = .ok (.iload_n 3, 1) := by decide +kernel
theorem dX10_digest_154 : decode cX10_digest 154 = .ok (.imul, 1) := by decide +kernel
theorem dX10_digest_155 : decode cX10_digest 155 = .ok (.iload 4, 2) := by decide +kernel
theorem dX10_digest_157 : decode cX10_digest 157 = .ok (.iadd, 1) := by decide +kernel
theorem dX10_digest_158 : decode cX10_digest 158 = .ok (.istore 5, 2) := by decide +kernel
theorem dX10_digest_160 : decode cX10_digest 160 = .ok (.ldc2_w 255, 3) := by decide +kernel
theorem dX10_digest_163 : decode cX10_digest 163 = .ok (.ldc2_w 255, 3) := by decide +kernel
theorem dX10_digest_166 : decode cX10_digest 166 = .ok (.ldc2_w 255, 3) := by decide +kernel
theorem dX10_digest_169 : decode cX10_digest 169 = .ok (.lload_n 1, 1) := by decide +kernel
theorem dX10_digest_170 : decode cX10_digest 170 = .ok (.lmul, 1) := by decide +kernel
theorem dX10_digest_171 : decode cX10_digest 171 = .ok (.aload_n 0, 1) := by decide +kernel
theorem dX10_digest_172 : decode cX10_digest 172 = .ok (.getfield 59, 3) := by decide +kernel
theorem dX10_digest_175 : decode cX10_digest 175 = .ok (.iload 5, 2) := by decide +kernel
theorem dX10_digest_177 : decode cX10_digest 177 = .ok (.iaload, 1) := by decide +kernel
theorem dX10_digest_178 : decode cX10_digest 178 = .ok (.i2l, 1) := by decide +kernel
theorem dX10_digest_179 : decode cX10_digest 179 = .ok (.ladd, 1) := by decide +kernel
theorem dX10_digest_180 : decode cX10_digest 180 = .ok (.lmul, 1) := by decide +kernel
theorem dX10_digest_181 : decode cX10_digest 181 = .ok (.aload_n 0, 1) := by decide +kernel
theorem dX10_digest_182 : decode cX10_digest 182 = .ok (.getfield 62, 3) := by decide +kernel
theorem dX10_digest_185 : decode cX10_digest 185 = .ok (.iload 5, 2) := by decide +kernel
theorem dX10_digest_187 : decode cX10_digest 187 = .ok (.iaload, 1) := by decide +kernel
theorem dX10_digest_188 : decode cX10_digest 188 = .ok (.i2l, 1) := by decide +kernel
theorem dX10_digest_189 : decode cX10_digest 189 = .ok (.ladd, 1) := by decide +kernel
theorem dX10_digest_190 : decode cX10_digest 190 = .ok (.lmul, 1) := by decide +kernel
theorem dX10_digest_191 : decode cX10_digest 191 = .ok (.aload_n 0, 1) := by decide +kernel
theorem dX10_digest_192 : decode cX10_digest 192 = .ok (.getfield 65, 3) := by decide +kernel
theorem dX10_digest_195 : decode cX10_digest 195 = .ok (.iload 5, 2) := by decide +kernel
theorem dX10_digest_197 : decode cX10_digest 197 = .ok (.iaload, 1) := by decide +kernel
theorem dX10_digest_198 : decode cX10_digest 198 = .ok (.i2l, 1) := by decide +kernel
theorem dX10_digest_199 : decode cX10_digest 199 = .ok (.ladd, 1) := by decide +kernel
theorem dX10_digest_200 : decode cX10_digest 200 = .ok (.lstore_n 1, 1) := by decide +kernel
theorem dX10_digest_201 : decode cX10_digest 201 = .ok (.iinc 4 1, 3) := by decide +kernel
theorem dX10_digest_204 : decode cX10_digest 204 = .ok (.goto (-63), 3) := by decide +kernel
theorem dX10_digest_207 : decode cX10_digest 207 = .ok (.iinc 3 1, 3) := by decide +kernel
theorem dX10_digest_210 : decode cX10_digest 210 = .ok (.goto (-77), 3) := by decide +kernel
theorem dX10_digest_213 : decode cX10_digest 213 = .ok (.iconst 0, 1) := by decide +kernel
theorem dX10_digest_214 : decode cX10_digest 214 = .ok (.istore_n 3, 1) := by decide +kernel
theorem dX10_digest_215 : decode cX10_digest 215 = .ok (.iload_n 3, 1) := by decide +kernel
theorem dX10_digest_216 : decode cX10_digest 216 = .ok (.iconst 4, 1) := by decide +kernel
theorem dX10_digest_217 : decode cX10_digest 217 = .ok (.if_icmp .ge 76, 3) := by decide +kernel
theorem dX10_digest_220 : decode cX10_digest 220 = .ok (.ldc2_w 255, 3) := by decide +kernel
theorem dX10_digest_223 : decode cX10_digest 223 = .ok (.lload_n 1, 1) := by decide +kernel
theorem dX10_digest_224 : decode cX10_digest 224 = .ok (.lmul, 1) := by decide +kernel
theorem dX10_digest_225 : decode cX10_digest 225 = .ok (.aload_n 0, 1) := by decide +kernel
theorem dX10_digest_226 : decode cX10_digest 226 = .ok (.getfield 16, 3) := by decide +kernel
theorem dX10_digest_229 : decode cX10_digest 229 = .ok (.iload_n 3, 1) := by decide +kernel
theorem dX10_digest_230 : decode cX10_digest 230 = .ok (.iaload, 1) := by decide +kernel
theorem dX10_digest_231 : decode cX10_digest 231 = .ok (.ifCond .ge 7, 3) := by decide +kernel
theorem dX10_digest_234 : decode cX10_digest 234 = .ok (.iconst (-1), 1) := by decide +kernel
theorem dX10_digest_235 : decode cX10_digest 235 = .ok (.goto 9, 3) := by decide +kernel
theorem dX10_digest_238 : decode cX10_digest 238 = .ok (.aload_n 0, 1) := by decide +kernel
theorem dX10_digest_239 : decode cX10_digest 239 = .ok (.getfield 16, 3) := by decide +kernel
theorem dX10_digest_242 : decode cX10_digest 242 = .ok (.iload_n 3, 1) := by decide +kernel
theorem dX10_digest_243 : decode cX10_digest 243 = .ok (.iaload, 1) := by decide +kernel
theorem dX10_digest_244 : decode cX10_digest 244 = .ok (.i2l, 1) := by decide +kernel
theorem dX10_digest_245 : decode cX10_digest 245 = .ok (.ladd, 1) := by decide +kernel
theorem dX10_digest_246 : decode cX10_digest 246 = .ok (.lstore_n 1, 1) := by decide +kernel
theorem dX10_digest_247 : decode cX10_digest 247 = .ok (.iconst 0, 1) := by decide +kernel
theorem dX10_digest_248 : decode cX10_digest 248 = .ok (.istore 4, 2) := by decide +kernel
theorem dX10_digest_250 : decode cX10_digest 250 = .ok (.iload 4, 2) := by decide +kernel
theorem dX10_digest_252 : decode cX10_digest 252 = .ok (.aload_n 0, 1) := by decide +kernel
theorem dX10_digest_253 : decode cX10_digest 253 = .ok (.getfield 16, 3) := by decide +kernel
theorem dX10_digest_256 : decode cX10_digest 256 = .ok (.iload_n 3, 1) := by decide +kernel
theorem dX10_digest_257 : decode cX10_digest 257 = .ok (.iaload, 1) := by decide +kernel
theorem dX10_digest_258 : decode cX10_digest 258 = .ok (.if_icmp .ge 29, 3) := by decide +kernel
theorem dX10_digest_261 : decode cX10_digest 261 = .ok (.ldc2_w 255, 3) := by decide +kernel
theorem dX10_digest_264 : decode cX10_digest 264 = .ok (.lload_n 1, 1) := by decide +kernel
theorem dX10_digest_265 : decode cX10_digest 265 = .ok (.lmul, 1) := by decide +kernel
theorem dX10_digest_266 : decode cX10_digest 266 = .ok (.aload_n 0, 1) := by decide +kernel
theorem dX10_digest_267 : decode cX10_digest 267 = .ok (.getfield 19, 3) := by decide +kernel
theorem dX10_digest_270 : decode cX10_digest 270 = .ok (.bipush 10, 2) := by decide +kernel
theorem dX10_digest_272 : decode cX10_digest 272 = .ok (.iload_n 3, 1) := by decide +kernel
theorem dX10_digest_273 : decode cX10_digest 273 = .ok (.imul, 1) := by decide +kernel
theorem dX10_digest_274 : decode cX10_digest 274 = .ok (.iload 4, 2) := by decide +kernel
theorem dX10_digest_276 : decode cX10_digest 276 = .ok (.iadd, 1) := by decide +kernel
theorem dX10_digest_277 : decode cX10_digest 277 = .ok (.iaload, 1) := by decide +kernel
theorem dX10_digest_278 : decode cX10_digest 278 = .ok (.i2l, 1) := by decide +kernel
theorem dX10_digest_279 : decode cX10_digest 279 = .ok (.ladd, 1) := by decide +kernel
theorem dX10_digest_280 : decode cX10_digest 280 = .ok (.lstore_n 1, 1) := by decide +kernel
theorem dX10_digest_281 : decode cX10_digest 281 = .ok (.iinc 4 1, 3) := by decide +kernel
theorem dX10_digest_284 : decode cX10_digest 284 = .ok (.goto (-34), 3) := by decide +kernel
theorem dX10_digest_287 : decode cX10_digest 287 = .ok (.iinc 3 1, 3) := by decide +kernel
theorem dX10_digest_290 : decode cX10_digest 290 = .ok (.goto (-75), 3) := by decide +kernel
theorem dX10_digest_293 : decode cX10_digest 293 = .ok (.lload_n 1, 1) := by decide +kernel
theorem dX10_digest_294 : decode cX10_digest 294 = .ok (.lreturn, 1) := by decide +kernel
theorem dJ7_fill_53178_0 : decode cJ7_fill_53178 0 = .ok (.iconst 0, 1) := by decide +kernel
theorem dJ7_fill_53178_1 : decode cJ7_fill_53178 1 = .ok (.istore_n 2, 1) := by decide +kernel
theorem dJ7_fill_53178_2 : decode cJ7_fill_53178 2 = .ok (.aload_n 0, 1) := by decide +kernel
theorem dJ7_fill_53178_3 : decode cJ7_fill_53178 3 = .ok (.arraylength, 1) := by decide +kernel
theorem dJ7_fill_53178_4 : decode cJ7_fill_53178 4 = .ok (.istore_n 3, 1) := by decide +kernel
theorem dJ7_fill_53178_5 : decode cJ7_fill_53178 5 = .ok (.iload_n 2, 1) := by decide +kernel
theorem dJ7_fill_53178_6 : decode cJ7_fill_53178 6 = .ok (.iload_n 3, 1) := by decide +kernel
theorem dJ7_fill_53178_7 : decode cJ7_fill_53178 7 = .ok (.if_icmp .ge 13, 3) := by decide +kernel
theorem dJ7_fill_53178_10 : decode cJ7_fill_53178 10 = .ok (.aload_n 0, 1) := by decide +kernel
theorem dJ7_fill_53178_11 : decode cJ7_fill_53178 11 = .ok (.iload_n 2, 1) := by decide +kernel
theorem dJ7_fill_53178_12 : decode cJ7_fill_53178 12 = .ok (.iload_n 1, 1) := by decide +kernel
theorem dJ7_fill_53178_13 : decode cJ7_fill_53178 13 = .ok (.iastore, 1) := by decide +kernel
theorem dJ7_fill_53178_14 : decode cJ7_fill_53178 14 = .ok (.iinc 2 1, 3) := by decide +kernel
theorem dJ7_fill_53178_17 : decode cJ7_fill_53178 17 = .ok (.goto (-12), 3) := by decide +kernel
theorem dJ7_fill_53178_20 : decode cJ7_fill_53178 20 = .ok (.return_, 1) := by decide +kernel
