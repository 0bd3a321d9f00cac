set_option maxRecDepth 20000 in
theorem gg_wsX9_init_r1 : GoodIn wsL_law wsX9_init_r1 := gi_cons mL_1_9 rfl (gi_cons mL_1_10 rfl (gi_cons mL_1_11 rfl (gi_cons mL_1_12 rfl (gi_cons mL_1_13 rfl (gi_cons mL_1_14 rfl (gi_cons mL_1_15 rfl (gi_cons mL_1_16 rfl (gi_cons mL_1_17 rfl (gi_cons mL_1_18 rfl (gi_cons mL_1_19 rfl (gi_cons mL_1_20 rfl (gi_cons mL_1_21 rfl (gi_cons mL_1_22 rfl (gi_cons mL_1_23 rfl (gi_cons mL_2_0 rfl (gi_cons mL_2_1 rfl (gi_cons mL_2_2 rfl (gi_cons mL_2_3 rfl (gi_cons mL_2_4 rfl (gi_cons mL_2_5 rfl (gi_cons mL_2_6 rfl (gi_cons mL_2_7 rfl (gi_cons mL_2_8 rfl gi_nil)))))))))))))))))))))))
set_option maxRecDepth 20000 in
theorem gg_wsX9_init_r2 : GoodIn wsL_law wsX9_init_r2 := gi_cons mL_2_9 rfl (gi_cons mL_2_10 rfl (gi_cons mL_2_11 rfl (gi_cons mL_2_12 rfl (gi_cons mL_2_13 rfl (gi_cons mL_2_14 rfl (gi_cons mL_2_15 rfl (gi_cons mL_2_16 rfl (gi_cons mL_2_17 rfl (gi_cons mL_2_18 rfl (gi_cons mL_2_19 rfl (gi_cons mL_2_20 rfl (gi_cons mL_2_21 rfl (gi_cons mL_2_22 rfl (gi_cons mL_2_23 rfl (gi_cons mL_3_0 rfl (gi_cons mL_3_1 rfl (gi_cons mL_3_2 rfl (gi_cons mL_3_3 rfl (gi_cons mL_3_4 rfl (gi_cons mL_3_5 rfl (gi_cons mL_3_6 rfl (gi_cons mL_3_7 rfl (gi_cons mL_3_8 rfl gi_nil)))))))))))))))))))))))
set_option maxRecDepth 20000 in
theorem gg_wsX9_init_r3 : GoodIn wsL_law wsX9_init_r3 := gi_cons mL_3_9 rfl (gi_cons mL_3_10 rfl (gi_cons mL_3_11 rfl (gi_cons mL_3_12 rfl (gi_cons mL_3_13 rfl (gi_cons mL_3_14 rfl (gi_cons mL_3_15 rfl (gi_cons mL_3_16 rfl (gi_cons mL_3_17 rfl (gi_cons mL_3_18 rfl (gi_cons mL_3_19 rfl (gi_cons mL_3_20 rfl (gi_cons mL_3_21 rfl (gi_cons mL_3_22 rfl (gi_cons mL_3_23 rfl (gi_cons mL_4_0 rfl (gi_cons mL_4_1 rfl (gi_cons mL_4_2 rfl (gi_cons mL_4_3 rfl (gi_cons mL_4_4 rfl (gi_cons mL_4_5 rfl (gi_cons mL_4_6 rfl (gi_cons mL_4_7 rfl (gi_cons mL_4_8 rfl gi_nil)))))))))))))))))))))))
set_option maxRecDepth 20000 in
theorem gg_wsX9_init_r4 : GoodIn wsL_law wsX9_init_r4 := gi_cons mL_4_9 rfl (gi_cons mL_4_10 rfl (gi_cons mL_4_11 rfl (gi_cons mL_4_12 rfl (gi_cons mL_4_13 rfl (gi_cons mL_4_14 rfl (gi_cons mL_4_15 rfl (gi_cons mL_4_16 rfl (gi_cons mL_4_17 rfl (gi_cons mL_4_18 rfl (gi_cons mL_4_19 rfl (gi_cons mL_4_20 rfl (gi_cons mL_4_21 rfl (gi_cons mL_4_22 rfl (gi_cons mL_4_23 rfl (gi_cons mL_5_0 rfl (gi_cons mL_5_1 rfl (gi_cons mL_5_2 rfl (gi_cons mL_5_3 rfl (gi_cons mL_5_4 rfl (gi_cons mL_5_5 rfl (gi_cons mL_5_6 rfl (gi_cons mL_5_7 rfl (gi_cons mL_5_8 rfl gi_nil)))))))))))))))))))))))
set_option maxRecDepth 20000 in
theorem gg_wsX9_init_r5 : GoodIn wsL_law wsX9_init_r5 := gi_cons mL_5_9 rfl (gi_cons mL_5_10 rfl (gi_cons mL_5_11 rfl (gi_cons mL_5_12 rfl (gi_cons mL_5_13 rfl (gi_cons mL_5_14 rfl (gi_cons mL_5_15 rfl (gi_cons mL_5_16 rfl (gi_cons mL_5_17 rfl (gi_cons mL_5_18 rfl (gi_cons mL_5_19 rfl (gi_cons mL_5_20 rfl (gi_cons mL_5_21 rfl (gi_cons mL_5_22 rfl (gi_cons mL_5_23 rfl (gi_cons mL_6_0 rfl gi_nil)))))))))))))))
set_option maxRecDepth 20000 in
theorem gg_wsX9_init : GoodIn wsL_law wsX9_init := gi_cons mL_1_8 rfl (goodIn_app (goodIn_app (goodIn_app (goodIn_app (goodIn_app (goodIn_app (goodIn_app (goodIn_app (goodIn_app (goodIn_app (goodIn_app (gg_wsX9_init_r1) (goodIn_app (gg_wsX9_init_r2) (goodIn_app (gg_wsX9_init_r3) (goodIn_app (gg_wsX9_init_r4) (gg_wsX9_init_r5))))) (gL_wsX50)) (gL_wsX90)) (gL_wsX80)) (gL_wsX20)) (gL_wsX60)) (gL_wsX10)) (gL_wsX00)) (gL_wsX70)) (gL_wsX40)) (gL_wsX30))
set_option maxRecDepth 20000 in
theorem gL_law_X9_init : GoodIn wsL_law (wsX9_init) := gg_wsX9_init
set_option maxRecDepth 20000 in
theorem gg_wsX10_init_r1 : GoodIn wsL_law wsX10_init_r1 := gi_cons mL_6_4 rfl (gi_cons mL_1_10 rfl (gi_cons mL_1_11 rfl (gi_cons mL_3_1 rfl (gi_cons mL_6_5 rfl (gi_cons mL_6_6 rfl (gi_cons mL_6_7 rfl (gi_cons mL_6_8 rfl (gi_cons mL_6_9 rfl (gi_cons mL_6_10 rfl (gi_cons mL_6_11 rfl (gi_cons mL_6_12 rfl (gi_cons mL_4_4 rfl (gi_cons mL_6_13 rfl (gi_cons mL_6_14 rfl (gi_cons mL_6_15 rfl (gi_cons mL_6_16 rfl (gi_cons mL_6_17 rfl (gi_cons mL_6_18 rfl (gi_cons mL_6_19 rfl (gi_cons mL_6_20 rfl (gi_cons mL_6_21 rfl (gi_cons mL_6_22 rfl (gi_cons mL_6_23 rfl gi_nil)))))))))))))))))))))))
set_option maxRecDepth 20000 in
theorem gg_wsX10_init_r2 : GoodIn wsL_law wsX10_init_r2 := gi_cons mL_7_0 rfl (gi_cons mL_7_1 rfl (gi_cons mL_7_2 rfl (gi_cons mL_7_3 rfl (gi_cons mL_7_4 rfl (gi_cons mL_7_5 rfl (gi_cons mL_7_6 rfl (gi_cons mL_7_7 rfl (gi_cons mL_7_8 rfl (gi_cons mL_7_9 rfl (gi_cons mL_7_10 rfl (gi_cons mL_7_11 rfl (gi_cons mL_7_12 rfl (gi_cons mL_7_13 rfl (gi_cons mL_7_14 rfl (gi_cons mL_7_15 rfl gi_nil)))))))))))))))
set_option maxRecDepth 20000 in
theorem gg_wsX10_init : GoodIn wsL_law wsX10_init := gi_cons mL_6_3 rfl (goodIn_app (goodIn_app (gg_wsX10_init_r1) (gg_wsX10_init_r2)) (gL_wsX100))
set_option maxRecDepth 20000 in
theorem gL_law_X10_init : GoodIn wsL_law (wsX10_init) := gg_wsX10_init
set_option maxRecDepth 20000 in
theorem gg_wsX9_letter : GoodIn wsL_law wsX9_letter := gi_cons mL_7_19 rfl (goodIn_app (goodIn_app (gi_cons mL_1_19 rfl (gi_cons mL_7_20 rfl (gi_cons mL_7_21 rfl (gi_cons mL_1_18 rfl (gi_cons mL_7_22 rfl (gi_cons mL_7_23 rfl (gi_cons mL_8_0 rfl (gi_cons mL_1_2 rfl (gi_cons mL_8_1 rfl (gi_cons mL_8_2 rfl (gi_cons mL_8_3 rfl (gi_cons mL_8_4 rfl (gi_cons mL_8_5 rfl (gi_cons mL_3_19 rfl gi_nil)))))))))))))) (gL_wsX90)) (gL_wsX80))
set_option maxRecDepth 20000 in
theorem gL_law_X9_letter : GoodIn wsL_law (wsV RL 13 RX9 yX9_letter wsX9_letter) := goodIn_app (gi_cons mL_7_16 rfl (gi_cons mL_7_17 rfl (gi_cons mL_7_18 rfl (gi_cons mL_1_2 rfl gi_nil)))) gg_wsX9_letter
set_option maxRecDepth 20000 in
theorem gg_wsX10_letter : GoodIn wsL_law wsX10_letter := gi_cons mL_8_9 rfl (goodIn_app (gi_cons mL_6_6 rfl (gi_cons mL_8_10 rfl (gi_cons mL_8_11 rfl (gi_cons mL_1_5 rfl (gi_cons mL_8_12 rfl (gi_cons mL_8_13 rfl (gi_cons mL_8_14 rfl (gi_cons mL_8_15 rfl gi_nil)))))))) (gL_wsX100))
set_option maxRecDepth 20000 in
theorem gL_law_X10_letter : GoodIn wsL_law (wsV RL 17 RX10 yX10_letter wsX10_letter) := goodIn_app (gi_cons mL_8_6 rfl (gi_cons mL_8_7 rfl (gi_cons mL_8_8 rfl (gi_cons mL_1_5 rfl gi_nil)))) gg_wsX10_letter
set_option maxRecDepth 20000 in
theorem gg_wsX9_sheet : GoodIn wsL_law wsX9_sheet := gi_cons mL_8_19 rfl (goodIn_app (goodIn_app (gi_cons mL_1_15 rfl (gi_cons mL_8_20 rfl (gi_cons mL_8_21 rfl (gi_cons mL_1_14 rfl (gi_cons mL_8_22 rfl (gi_cons mL_8_23 rfl (gi_cons mL_9_0 rfl (gi_cons mL_9_1 rfl (gi_cons mL_1_2 rfl (gi_cons mL_9_2 rfl (gi_cons mL_9_3 rfl (gi_cons mL_3_3 rfl (gi_cons mL_9_4 rfl (gi_cons mL_9_5 rfl (gi_cons mL_9_6 rfl (gi_cons mL_9_7 rfl (gi_cons mL_3_10 rfl (gi_cons mL_3_11 rfl (gi_cons mL_9_8 rfl (gi_cons mL_9_9 rfl (gi_cons mL_3_14 rfl (gi_cons mL_9_10 rfl gi_nil)))))))))))))))))))))) (gL_wsX90)) (gL_wsX50))
set_option maxRecDepth 20000 in
theorem gL_law_X9_sheet : GoodIn wsL_law (wsV RL 18 RX9 yX9_sheet wsX9_sheet) := goodIn_app (gi_cons mL_8_16 rfl (gi_cons mL_8_17 rfl (gi_cons mL_8_18 rfl (gi_cons mL_1_2 rfl gi_nil)))) gg_wsX9_sheet
set_option maxRecDepth 20000 in
theorem gg_wsX10_sheet : GoodIn wsL_law wsX10_sheet := gi_cons mL_9_14 rfl (goodIn_app (gi_cons mL_6_7 rfl (gi_cons mL_6_8 rfl (gi_cons mL_9_15 rfl (gi_cons mL_9_16 rfl (gi_cons mL_1_5 rfl (gi_cons mL_9_17 rfl (gi_cons mL_8_13 rfl (gi_cons mL_8_14 rfl (gi_cons mL_8_15 rfl (gi_cons mL_9_18 rfl (gi_cons mL_9_19 rfl (gi_cons mL_9_20 rfl (gi_cons mL_9_21 rfl (gi_cons mL_9_22 rfl (gi_cons mL_6_5 rfl gi_nil))))))))))))))) (gL_wsX100))
set_option maxRecDepth 20000 in
theorem gL_law_X10_sheet : GoodIn wsL_law (wsV RL 21 RX10 yX10_sheet wsX10_sheet) := goodIn_app (gi_cons mL_9_11 rfl (gi_cons mL_9_12 rfl (gi_cons mL_9_13 rfl (gi_cons mL_1_5 rfl gi_nil)))) gg_wsX10_sheet
set_option maxRecDepth 20000 in
theorem gg_wsX9_lay_r1 : GoodIn wsL_law wsX9_lay_r1 := gi_cons mL_1_15 rfl (gi_cons mL_8_20 rfl (gi_cons mL_8_21 rfl (gi_cons mL_1_14 rfl (gi_cons mL_8_22 rfl (gi_cons mL_10_3 rfl (gi_cons mL_10_4 rfl (gi_cons mL_10_5 rfl (gi_cons mL_10_6 rfl (gi_cons mL_3_11 rfl (gi_cons mL_8_23 rfl (gi_cons mL_9_0 rfl (gi_cons mL_9_1 rfl (gi_cons mL_1_2 rfl (gi_cons mL_9_2 rfl (gi_cons mL_9_3 rfl (gi_cons mL_3_3 rfl (gi_cons mL_10_7 rfl (gi_cons mL_10_8 rfl (gi_cons mL_10_9 rfl (gi_cons mL_10_10 rfl (gi_cons mL_10_11 rfl (gi_cons mL_10_12 rfl (gi_cons mL_10_13 rfl gi_nil)))))))))))))))))))))))
set_option maxRecDepth 20000 in
theorem gg_wsX9_lay_r2 : GoodIn wsL_law wsX9_lay_r2 := gi_cons mL_10_14 rfl (gi_cons mL_3_10 rfl gi_nil)
set_option maxRecDepth 20000 in
theorem gg_wsX9_lay : GoodIn wsL_law wsX9_lay := gi_cons mL_10_2 rfl (goodIn_app (goodIn_app (goodIn_app (gg_wsX9_lay_r1) (gg_wsX9_lay_r2)) (gL_wsX90)) (gL_wsX50))
set_option maxRecDepth 20000 in
theorem gL_law_X9_lay : GoodIn wsL_law (wsV RL 22 RX9 yX9_lay wsX9_lay) := goodIn_app (gi_cons mL_9_23 rfl (gi_cons mL_10_0 rfl (gi_cons mL_10_1 rfl (gi_cons mL_1_2 rfl gi_nil)))) gg_wsX9_lay
set_option maxRecDepth 20000 in
theorem gg_wsX10_lay : GoodIn wsL_law wsX10_lay := gi_cons mL_10_18 rfl (goodIn_app (gi_cons mL_6_7 rfl (gi_cons mL_6_8 rfl (gi_cons mL_10_19 rfl (gi_cons mL_10_20 rfl (gi_cons mL_10_21 rfl (gi_cons mL_1_5 rfl (gi_cons mL_10_22 rfl (gi_cons mL_9_15 rfl (gi_cons mL_9_16 rfl (gi_cons mL_9_17 rfl (gi_cons mL_8_13 rfl (gi_cons mL_8_14 rfl (gi_cons mL_8_15 rfl (gi_cons mL_9_18 rfl (gi_cons mL_9_19 rfl (gi_cons mL_9_20 rfl (gi_cons mL_9_21 rfl (gi_cons mL_9_22 rfl (gi_cons mL_6_5 rfl gi_nil))))))))))))))))))) (gL_wsX100))
set_option maxRecDepth 20000 in
theorem gL_law_X10_lay : GoodIn wsL_law (wsV RL 26 RX10 yX10_lay wsX10_lay) := goodIn_app (gi_cons mL_10_15 rfl (gi_cons mL_10_16 rfl (gi_cons mL_10_17 rfl (gi_cons mL_1_5 rfl gi_nil)))) gg_wsX10_lay
set_option maxRecDepth 20000 in
theorem gg_wsX9_tear : GoodIn wsL_law wsX9_tear := gi_cons mL_11_2 rfl (goodIn_app (goodIn_app (gi_cons mL_1_15 rfl (gi_cons mL_8_20 rfl (gi_cons mL_8_21 rfl (gi_cons mL_1_14 rfl (gi_cons mL_8_22 rfl (gi_cons mL_10_3 rfl (gi_cons mL_10_4 rfl (gi_cons mL_10_5 rfl (gi_cons mL_10_6 rfl (gi_cons mL_3_11 rfl (gi_cons mL_8_23 rfl (gi_cons mL_9_0 rfl (gi_cons mL_9_1 rfl (gi_cons mL_1_2 rfl (gi_cons mL_9_2 rfl (gi_cons mL_9_3 rfl (gi_cons mL_3_3 rfl (gi_cons mL_11_3 rfl (gi_cons mL_11_4 rfl (gi_cons mL_11_5 rfl (gi_cons mL_11_6 rfl gi_nil))))))))))))))))))))) (gL_wsX90)) (gL_wsX50))
set_option maxRecDepth 20000 in
theorem gL_law_X9_tear : GoodIn wsL_law (wsV RL 27 RX9 yX9_tear wsX9_tear) := goodIn_app (gi_cons mL_10_23 rfl (gi_cons mL_11_0 rfl (gi_cons mL_11_1 rfl (gi_cons mL_1_2 rfl gi_nil)))) gg_wsX9_tear
set_option maxRecDepth 20000 in
theorem gg_wsX10_tear : GoodIn wsL_law wsX10_tear := gi_cons mL_11_10 rfl (goodIn_app (gi_cons mL_6_7 rfl (gi_cons mL_10_19 rfl (gi_cons mL_10_20 rfl (gi_cons mL_10_21 rfl (gi_cons mL_1_5 rfl (gi_cons mL_10_22 rfl (gi_cons mL_9_15 rfl (gi_cons mL_9_16 rfl (gi_cons mL_9_17 rfl (gi_cons mL_8_13 rfl (gi_cons mL_8_14 rfl (gi_cons mL_8_15 rfl (gi_cons mL_9_18 rfl (gi_cons mL_9_19 rfl (gi_cons mL_9_20 rfl (gi_cons mL_9_21 rfl (gi_cons mL_9_22 rfl (gi_cons mL_6_5 rfl gi_nil)))))))))))))))))) (gL_wsX100))
set_option maxRecDepth 20000 in
theorem gL_law_X10_tear : GoodIn wsL_law (wsV RL 31 RX10 yX10_tear wsX10_tear) := goodIn_app (gi_cons mL_11_7 rfl (gi_cons mL_11_8 rfl (gi_cons mL_11_9 rfl (gi_cons mL_1_5 rfl gi_nil)))) gg_wsX10_tear
set_option maxRecDepth 20000 in
theorem gg_wsX9_copy_r1 : GoodIn wsL_law wsX9_copy_r1 := gi_cons mL_1_15 rfl (gi_cons mL_8_20 rfl (gi_cons mL_8_21 rfl (gi_cons mL_1_14 rfl (gi_cons mL_8_22 rfl (gi_cons mL_8_23 rfl (gi_cons mL_9_0 rfl (gi_cons mL_9_1 rfl (gi_cons mL_1_2 rfl (gi_cons mL_9_2 rfl (gi_cons mL_9_3 rfl (gi_cons mL_3_3 rfl (gi_cons mL_10_3 rfl (gi_cons mL_10_4 rfl (gi_cons mL_10_5 rfl (gi_cons mL_10_6 rfl (gi_cons mL_3_11 rfl (gi_cons mL_10_7 rfl (gi_cons mL_10_8 rfl (gi_cons mL_10_9 rfl (gi_cons mL_10_10 rfl (gi_cons mL_11_15 rfl (gi_cons mL_11_16 rfl (gi_cons mL_11_17 rfl gi_nil)))))))))))))))))))))))
set_option maxRecDepth 20000 in
theorem gg_wsX9_copy_r2 : GoodIn wsL_law wsX9_copy_r2 := gi_cons mL_11_18 rfl (gi_cons mL_3_10 rfl (gi_cons mL_11_19 rfl (gi_cons mL_11_20 rfl (gi_cons mL_11_21 rfl (gi_cons mL_11_22 rfl gi_nil)))))
set_option maxRecDepth 20000 in
theorem gg_wsX9_copy : GoodIn wsL_law wsX9_copy := gi_cons mL_11_14 rfl (goodIn_app (goodIn_app (goodIn_app (gg_wsX9_copy_r1) (gg_wsX9_copy_r2)) (gL_wsX90)) (gL_wsX50))
set_option maxRecDepth 20000 in
theorem gL_law_X9_copy : GoodIn wsL_law (wsV RL 32 RX9 yX9_copy wsX9_copy) := goodIn_app (gi_cons mL_11_11 rfl (gi_cons mL_11_12 rfl (gi_cons mL_11_13 rfl (gi_cons mL_1_2 rfl gi_nil)))) gg_wsX9_copy
set_option maxRecDepth 20000 in
theorem gg_wsX10_copy : GoodIn wsL_law wsX10_copy := gi_cons mL_12_2 rfl (goodIn_app (gi_cons mL_6_7 rfl (gi_cons mL_6_9 rfl (gi_cons mL_6_8 rfl (gi_cons mL_9_15 rfl (gi_cons mL_9_16 rfl (gi_cons mL_1_5 rfl (gi_cons mL_9_17 rfl (gi_cons mL_8_13 rfl (gi_cons mL_8_14 rfl (gi_cons mL_8_15 rfl (gi_cons mL_9_18 rfl (gi_cons mL_9_19 rfl (gi_cons mL_9_20 rfl (gi_cons mL_9_21 rfl (gi_cons mL_9_22 rfl (gi_cons mL_6_5 rfl gi_nil)))))))))))))))) (gL_wsX100))
set_option maxRecDepth 20000 in
theorem gL_law_X10_copy : GoodIn wsL_law (wsV RL 36 RX10 yX10_copy wsX10_copy) := goodIn_app (gi_cons mL_11_23 rfl (gi_cons mL_12_0 rfl (gi_cons mL_12_1 rfl (gi_cons mL_1_5 rfl gi_nil)))) gg_wsX10_copy
set_option maxRecDepth 20000 in
theorem gg_wsX9_word_r1 : GoodIn wsL_law wsX9_word_r1 := gi_cons mL_1_19 rfl (gi_cons mL_1_15 rfl (gi_cons mL_12_7 rfl (gi_cons mL_12_8 rfl (gi_cons mL_8_20 rfl (gi_cons mL_8_21 rfl (gi_cons mL_1_14 rfl (gi_cons mL_8_22 rfl (gi_cons mL_12_9 rfl (gi_cons mL_12_10 rfl (gi_cons mL_12_11 rfl (gi_cons mL_1_18 rfl (gi_cons mL_12_12 rfl (gi_cons mL_12_13 rfl (gi_cons mL_10_3 rfl (gi_cons mL_10_4 rfl (gi_cons mL_10_5 rfl (gi_cons mL_10_6 rfl (gi_cons mL_3_11 rfl (gi_cons mL_8_23 rfl (gi_cons mL_9_0 rfl (gi_cons mL_9_1 rfl (gi_cons mL_1_2 rfl (gi_cons mL_9_2 rfl gi_nil)))))))))))))))))))))))
set_option maxRecDepth 20000 in
theorem gg_wsX9_word_r2 : GoodIn wsL_law wsX9_word_r2 := gi_cons mL_9_3 rfl (gi_cons mL_3_3 rfl (gi_cons mL_12_14 rfl (gi_cons mL_12_15 rfl (gi_cons mL_12_16 rfl (gi_cons mL_12_17 rfl (gi_cons mL_12_18 rfl (gi_cons mL_12_19 rfl (gi_cons mL_12_20 rfl (gi_cons mL_12_21 rfl (gi_cons mL_7_21 rfl (gi_cons mL_7_22 rfl (gi_cons mL_12_22 rfl (gi_cons mL_12_23 rfl (gi_cons mL_13_0 rfl (gi_cons mL_13_1 rfl (gi_cons mL_3_21 rfl (gi_cons mL_3_22 rfl (gi_cons mL_3_23 rfl (gi_cons mL_4_0 rfl (gi_cons mL_13_2 rfl (gi_cons mL_13_3 rfl (gi_cons mL_13_4 rfl (gi_cons mL_13_5 rfl gi_nil)))))))))))))))))))))))
set_option maxRecDepth 20000 in
theorem gg_wsX9_word_r3 : GoodIn wsL_law wsX9_word_r3 := gi_cons mL_4_1 rfl (gi_cons mL_4_2 rfl (gi_cons mL_4_3 rfl gi_nil))
set_option maxRecDepth 20000 in
theorem gg_wsX9_word : GoodIn wsL_law wsX9_word := gi_cons mL_12_6 rfl (goodIn_app (goodIn_app (goodIn_app (goodIn_app (gg_wsX9_word_r1) (goodIn_app (gg_wsX9_word_r2) (gg_wsX9_word_r3))) (gL_wsX90)) (gL_wsX50)) (gL_wsX80))
set_option maxRecDepth 20000 in
theorem gL_law_X9_word : GoodIn wsL_law (wsV RL 37 RX9 yX9_word wsX9_word) := goodIn_app (gi_cons mL_12_3 rfl (gi_cons mL_12_4 rfl (gi_cons mL_12_5 rfl (gi_cons mL_1_2 rfl gi_nil)))) gg_wsX9_word
set_option maxRecDepth 20000 in
theorem gg_wsX10_word_r1 : GoodIn wsL_law wsX10_word_r1 := gi_cons mL_13_10 rfl (gi_cons mL_6_7 rfl (gi_cons mL_9_15 rfl (gi_cons mL_9_16 rfl (gi_cons mL_1_5 rfl (gi_cons mL_9_17 rfl (gi_cons mL_8_13 rfl (gi_cons mL_8_14 rfl (gi_cons mL_8_15 rfl (gi_cons mL_9_18 rfl (gi_cons mL_9_19 rfl (gi_cons mL_9_20 rfl (gi_cons mL_9_21 rfl (gi_cons mL_9_22 rfl (gi_cons mL_6_5 rfl (gi_cons mL_13_11 rfl (gi_cons mL_13_12 rfl (gi_cons mL_13_13 rfl (gi_cons mL_13_14 rfl (gi_cons mL_6_8 rfl (gi_cons mL_6_12 rfl (gi_cons mL_6_10 rfl (gi_cons mL_6_11 rfl (gi_cons mL_6_14 rfl gi_nil)))))))))))))))))))))))
set_option maxRecDepth 20000 in
theorem gg_wsX10_word_r2 : GoodIn wsL_law wsX10_word_r2 := gi_cons mL_6_15 rfl (gi_cons mL_6_16 rfl (gi_cons mL_6_17 rfl (gi_cons mL_13_15 rfl (gi_cons mL_13_16 rfl (gi_cons mL_13_17 rfl (gi_cons mL_13_18 rfl (gi_cons mL_8_10 rfl (gi_cons mL_8_11 rfl (gi_cons mL_8_12 rfl gi_nil)))))))))
set_option maxRecDepth 20000 in
theorem gg_wsX10_word : GoodIn wsL_law wsX10_word := gi_cons mL_13_9 rfl (goodIn_app (goodIn_app (gg_wsX10_word_r1) (gg_wsX10_word_r2)) (gL_wsX100))
set_option maxRecDepth 20000 in
theorem gL_law_X10_word : GoodIn wsL_law (wsV RL 40 RX10 yX10_word wsX10_word) := goodIn_app (gi_cons mL_13_6 rfl (gi_cons mL_13_7 rfl (gi_cons mL_13_8 rfl (gi_cons mL_1_5 rfl gi_nil)))) gg_wsX10_word
set_option maxRecDepth 20000 in
theorem gg_wsX9_firm_r1 : GoodIn wsL_law wsX9_firm_r1 := gi_cons mL_1_19 rfl (gi_cons mL_1_15 rfl (gi_cons mL_13_23 rfl (gi_cons mL_12_7 rfl (gi_cons mL_12_8 rfl (gi_cons mL_8_20 rfl (gi_cons mL_8_21 rfl (gi_cons mL_1_14 rfl (gi_cons mL_8_22 rfl (gi_cons mL_14_0 rfl (gi_cons mL_14_1 rfl (gi_cons mL_2_2 rfl (gi_cons mL_14_2 rfl (gi_cons mL_14_3 rfl (gi_cons mL_14_4 rfl (gi_cons mL_14_5 rfl (gi_cons mL_1_18 rfl (gi_cons mL_14_6 rfl (gi_cons mL_12_13 rfl (gi_cons mL_14_7 rfl (gi_cons mL_14_8 rfl (gi_cons mL_14_9 rfl (gi_cons mL_12_9 rfl (gi_cons mL_12_10 rfl gi_nil)))))))))))))))))))))))
set_option maxRecDepth 20000 in
theorem gg_wsX9_firm_r2 : GoodIn wsL_law wsX9_firm_r2 := gi_cons mL_12_11 rfl (gi_cons mL_12_12 rfl (gi_cons mL_10_3 rfl (gi_cons mL_10_4 rfl (gi_cons mL_10_5 rfl (gi_cons mL_10_6 rfl (gi_cons mL_3_11 rfl (gi_cons mL_8_23 rfl (gi_cons mL_9_0 rfl (gi_cons mL_9_1 rfl (gi_cons mL_1_2 rfl (gi_cons mL_9_2 rfl (gi_cons mL_9_3 rfl (gi_cons mL_3_3 rfl (gi_cons mL_14_10 rfl (gi_cons mL_14_11 rfl (gi_cons mL_14_12 rfl (gi_cons mL_14_13 rfl (gi_cons mL_3_23 rfl (gi_cons mL_12_14 rfl (gi_cons mL_12_15 rfl (gi_cons mL_12_16 rfl (gi_cons mL_12_17 rfl (gi_cons mL_12_18 rfl gi_nil)))))))))))))))))))))))
set_option maxRecDepth 20000 in
theorem gg_wsX9_firm_r3 : GoodIn wsL_law wsX9_firm_r3 := gi_cons mL_12_19 rfl (gi_cons mL_12_20 rfl (gi_cons mL_12_21 rfl (gi_cons mL_7_21 rfl (gi_cons mL_7_22 rfl (gi_cons mL_12_22 rfl (gi_cons mL_12_23 rfl (gi_cons mL_13_0 rfl (gi_cons mL_13_1 rfl (gi_cons mL_3_21 rfl (gi_cons mL_3_22 rfl (gi_cons mL_4_0 rfl (gi_cons mL_13_2 rfl (gi_cons mL_13_3 rfl (gi_cons mL_13_4 rfl (gi_cons mL_13_5 rfl (gi_cons mL_4_1 rfl (gi_cons mL_4_2 rfl (gi_cons mL_4_3 rfl (gi_cons mL_14_14 rfl gi_nil)))))))))))))))))))
set_option maxRecDepth 20000 in
theorem gg_wsX9_firm : GoodIn wsL_law wsX9_firm := gi_cons mL_13_22 rfl (goodIn_app (goodIn_app (goodIn_app (goodIn_app (gg_wsX9_firm_r1) (goodIn_app (gg_wsX9_firm_r2) (gg_wsX9_firm_r3))) (gL_wsX90)) (gL_wsX80)) (gL_wsX50))
set_option maxRecDepth 20000 in
theorem gL_law_X9_firm : GoodIn wsL_law (wsV RL 41 RX9 yX9_firm wsX9_firm) := goodIn_app (gi_cons mL_13_19 rfl (gi_cons mL_13_20 rfl (gi_cons mL_13_21 rfl (gi_cons mL_1_2 rfl gi_nil)))) gg_wsX9_firm
set_option maxRecDepth 20000 in
theorem gg_wsX10_firm_r1 : GoodIn wsL_law wsX10_firm_r1 := gi_cons mL_13_10 rfl (gi_cons mL_6_7 rfl (gi_cons mL_6_13 rfl (gi_cons mL_9_15 rfl (gi_cons mL_9_16 rfl (gi_cons mL_1_5 rfl (gi_cons mL_9_17 rfl (gi_cons mL_8_13 rfl (gi_cons mL_8_14 rfl (gi_cons mL_8_15 rfl (gi_cons mL_14_19 rfl (gi_cons mL_14_20 rfl (gi_cons mL_14_21 rfl (gi_cons mL_14_22 rfl (gi_cons mL_14_23 rfl (gi_cons mL_15_0 rfl (gi_cons mL_15_1 rfl (gi_cons mL_15_2 rfl (gi_cons mL_15_3 rfl (gi_cons mL_15_4 rfl (gi_cons mL_9_18 rfl (gi_cons mL_9_19 rfl (gi_cons mL_9_20 rfl (gi_cons mL_9_21 rfl gi_nil)))))))))))))))))))))))
set_option maxRecDepth 20000 in
theorem gg_wsX10_firm_r2 : GoodIn wsL_law wsX10_firm_r2 := gi_cons mL_9_22 rfl (gi_cons mL_6_5 rfl (gi_cons mL_15_5 rfl (gi_cons mL_15_6 rfl (gi_cons mL_15_7 rfl (gi_cons mL_15_8 rfl (gi_cons mL_6_10 rfl (gi_cons mL_13_11 rfl (gi_cons mL_13_12 rfl (gi_cons mL_13_13 rfl (gi_cons mL_13_14 rfl (gi_cons mL_6_8 rfl (gi_cons mL_6_12 rfl (gi_cons mL_6_11 rfl (gi_cons mL_6_14 rfl (gi_cons mL_6_15 rfl (gi_cons mL_6_16 rfl (gi_cons mL_6_17 rfl (gi_cons mL_13_15 rfl (gi_cons mL_13_16 rfl (gi_cons mL_13_17 rfl (gi_cons mL_13_18 rfl (gi_cons mL_8_10 rfl (gi_cons mL_8_11 rfl gi_nil)))))))))))))))))))))))
set_option maxRecDepth 20000 in
theorem gg_wsX10_firm_r3 : GoodIn wsL_law wsX10_firm_r3 := gi_cons mL_8_12 rfl gi_nil
set_option maxRecDepth 20000 in
theorem gg_wsX10_firm : GoodIn wsL_law wsX10_firm := gi_cons mL_14_18 rfl (goodIn_app (goodIn_app (gg_wsX10_firm_r1) (goodIn_app (gg_wsX10_firm_r2) (gg_wsX10_firm_r3))) (gL_wsX100))
set_option maxRecDepth 20000 in
theorem gL_law_X10_firm : GoodIn wsL_law (wsV RL 44 RX10 yX10_firm wsX10_firm) := goodIn_app (gi_cons mL_14_15 rfl (gi_cons mL_14_16 rfl (gi_cons mL_14_17 rfl (gi_cons mL_1_5 rfl gi_nil)))) gg_wsX10_firm
set_option maxRecDepth 20000 in
theorem gg_wsX9_slogan_r1 : GoodIn wsL_law wsX9_slogan_r1 := gi_cons mL_1_19 rfl (gi_cons mL_1_15 rfl (gi_cons mL_13_23 rfl (gi_cons mL_12_7 rfl (gi_cons mL_12_8 rfl (gi_cons mL_15_13 rfl (gi_cons mL_15_14 rfl (gi_cons mL_15_15 rfl (gi_cons mL_8_20 rfl (gi_cons mL_8_21 rfl (gi_cons mL_1_14 rfl (gi_cons mL_8_22 rfl (gi_cons mL_14_3 rfl (gi_cons mL_14_4 rfl (gi_cons mL_14_5 rfl (gi_cons mL_1_18 rfl (gi_cons mL_14_6 rfl (gi_cons mL_12_13 rfl (gi_cons mL_12_9 rfl (gi_cons mL_12_10 rfl (gi_cons mL_12_11 rfl (gi_cons mL_12_12 rfl (gi_cons mL_10_3 rfl (gi_cons mL_10_4 rfl gi_nil)))))))))))))))))))))))
set_option maxRecDepth 20000 in
theorem gg_wsX9_slogan_r2 : GoodIn wsL_law wsX9_slogan_r2 := gi_cons mL_10_5 rfl (gi_cons mL_10_6 rfl (gi_cons mL_3_11 rfl (gi_cons mL_8_23 rfl (gi_cons mL_9_0 rfl (gi_cons mL_9_1 rfl (gi_cons mL_1_2 rfl (gi_cons mL_9_2 rfl (gi_cons mL_9_3 rfl (gi_cons mL_3_3 rfl (gi_cons mL_14_10 rfl (gi_cons mL_14_11 rfl (gi_cons mL_14_12 rfl (gi_cons mL_14_13 rfl (gi_cons mL_3_23 rfl (gi_cons mL_12_14 rfl (gi_cons mL_12_15 rfl (gi_cons mL_12_16 rfl (gi_cons mL_12_17 rfl (gi_cons mL_12_18 rfl (gi_cons mL_12_19 rfl (gi_cons mL_12_20 rfl (gi_cons mL_12_21 rfl (gi_cons mL_7_21 rfl gi_nil)))))))))))))))))))))))
set_option maxRecDepth 20000 in
theorem gg_wsX9_slogan_r3 : GoodIn wsL_law wsX9_slogan_r3 := gi_cons mL_7_22 rfl (gi_cons mL_12_22 rfl (gi_cons mL_12_23 rfl (gi_cons mL_13_0 rfl (gi_cons mL_13_1 rfl (gi_cons mL_3_21 rfl (gi_cons mL_3_22 rfl (gi_cons mL_4_0 rfl (gi_cons mL_13_2 rfl (gi_cons mL_13_3 rfl (gi_cons mL_13_4 rfl (gi_cons mL_13_5 rfl (gi_cons mL_4_1 rfl (gi_cons mL_4_2 rfl (gi_cons mL_4_3 rfl (gi_cons mL_14_14 rfl gi_nil)))))))))))))))
set_option maxRecDepth 20000 in
theorem gg_wsX9_slogan : GoodIn wsL_law wsX9_slogan := gi_cons mL_15_12 rfl (goodIn_app (goodIn_app (goodIn_app (goodIn_app (gg_wsX9_slogan_r1) (goodIn_app (gg_wsX9_slogan_r2) (gg_wsX9_slogan_r3))) (gL_wsX90)) (gL_wsX80)) (gL_wsX50))
set_option maxRecDepth 20000 in
theorem gL_law_X9_slogan : GoodIn wsL_law (wsV RL 45 RX9 yX9_slogan wsX9_slogan) := goodIn_app (gi_cons mL_15_9 rfl (gi_cons mL_15_10 rfl (gi_cons mL_15_11 rfl (gi_cons mL_1_2 rfl gi_nil)))) gg_wsX9_slogan
set_option maxRecDepth 20000 in
theorem gg_wsX10_slogan_r1 : GoodIn wsL_law wsX10_slogan_r1 := gi_cons mL_13_10 rfl (gi_cons mL_6_7 rfl (gi_cons mL_6_13 rfl (gi_cons mL_6_14 rfl (gi_cons mL_6_15 rfl (gi_cons mL_6_16 rfl (gi_cons mL_9_15 rfl (gi_cons mL_9_16 rfl (gi_cons mL_1_5 rfl (gi_cons mL_9_17 rfl (gi_cons mL_8_13 rfl (gi_cons mL_8_14 rfl (gi_cons mL_8_15 rfl (gi_cons mL_15_1 rfl (gi_cons mL_15_2 rfl (gi_cons mL_15_3 rfl (gi_cons mL_15_4 rfl (gi_cons mL_9_18 rfl (gi_cons mL_9_19 rfl (gi_cons mL_9_20 rfl (gi_cons mL_9_21 rfl (gi_cons mL_9_22 rfl (gi_cons mL_6_5 rfl (gi_cons mL_15_5 rfl gi_nil)))))))))))))))))))))))
set_option maxRecDepth 20000 in
theorem gg_wsX10_slogan_r2 : GoodIn wsL_law wsX10_slogan_r2 := gi_cons mL_15_6 rfl (gi_cons mL_15_7 rfl (gi_cons mL_15_8 rfl (gi_cons mL_6_10 rfl (gi_cons mL_13_11 rfl (gi_cons mL_13_12 rfl (gi_cons mL_13_13 rfl (gi_cons mL_13_14 rfl (gi_cons mL_6_8 rfl (gi_cons mL_6_12 rfl (gi_cons mL_6_11 rfl (gi_cons mL_6_17 rfl (gi_cons mL_13_15 rfl (gi_cons mL_13_16 rfl (gi_cons mL_13_17 rfl (gi_cons mL_13_18 rfl (gi_cons mL_8_10 rfl (gi_cons mL_8_11 rfl (gi_cons mL_8_12 rfl gi_nil))))))))))))))))))
set_option maxRecDepth 20000 in
theorem gg_wsX10_slogan : GoodIn wsL_law wsX10_slogan := gi_cons mL_15_19 rfl (goodIn_app (goodIn_app (gg_wsX10_slogan_r1) (gg_wsX10_slogan_r2)) (gL_wsX100))
set_option maxRecDepth 20000 in
theorem gL_law_X10_slogan : GoodIn wsL_law (wsV RL 48 RX10 yX10_slogan wsX10_slogan) := goodIn_app (gi_cons mL_15_16 rfl (gi_cons mL_15_17 rfl (gi_cons mL_15_18 rfl (gi_cons mL_1_5 rfl gi_nil)))) gg_wsX10_slogan
set_option maxRecDepth 20000 in
theorem gg_wsX9_strike_r1 : GoodIn wsL_law wsX9_strike_r1 := gi_cons mL_1_19 rfl (gi_cons mL_13_23 rfl (gi_cons mL_14_3 rfl (gi_cons mL_14_4 rfl (gi_cons mL_14_5 rfl (gi_cons mL_1_18 rfl (gi_cons mL_14_6 rfl (gi_cons mL_12_13 rfl (gi_cons mL_8_23 rfl (gi_cons mL_9_0 rfl (gi_cons mL_9_1 rfl (gi_cons mL_1_2 rfl (gi_cons mL_9_2 rfl (gi_cons mL_9_3 rfl (gi_cons mL_3_3 rfl (gi_cons mL_16_0 rfl (gi_cons mL_16_1 rfl (gi_cons mL_16_2 rfl (gi_cons mL_16_3 rfl (gi_cons mL_1_21 rfl (gi_cons mL_16_4 rfl (gi_cons mL_16_5 rfl (gi_cons mL_16_6 rfl (gi_cons mL_1_23 rfl gi_nil)))))))))))))))))))))))
set_option maxRecDepth 20000 in
theorem gg_wsX9_strike_r2 : GoodIn wsL_law wsX9_strike_r2 := gi_cons mL_16_7 rfl (gi_cons mL_16_8 rfl (gi_cons mL_4_11 rfl (gi_cons mL_16_9 rfl (gi_cons mL_16_10 rfl (gi_cons mL_16_11 rfl (gi_cons mL_16_12 rfl (gi_cons mL_4_5 rfl (gi_cons mL_4_0 rfl gi_nil))))))))
set_option maxRecDepth 20000 in
theorem gg_wsX9_strike : GoodIn wsL_law wsX9_strike := gi_cons mL_15_23 rfl (goodIn_app (goodIn_app (goodIn_app (goodIn_app (gg_wsX9_strike_r1) (gg_wsX9_strike_r2)) (gL_wsX90)) (gL_wsX80)) (gL_wsX20))
set_option maxRecDepth 20000 in
theorem gL_law_X9_strike : GoodIn wsL_law (wsV RL 49 RX9 yX9_strike wsX9_strike) := goodIn_app (gi_cons mL_15_20 rfl (gi_cons mL_15_21 rfl (gi_cons mL_15_22 rfl (gi_cons mL_1_2 rfl gi_nil)))) gg_wsX9_strike
set_option maxRecDepth 20000 in
theorem gg_wsX10_strike_r1 : GoodIn wsL_law wsX10_strike_r1 := gi_cons mL_6_20 rfl (gi_cons mL_6_21 rfl (gi_cons mL_6_13 rfl (gi_cons mL_16_17 rfl (gi_cons mL_16_18 rfl (gi_cons mL_16_19 rfl (gi_cons mL_1_5 rfl (gi_cons mL_16_20 rfl (gi_cons mL_15_1 rfl (gi_cons mL_15_2 rfl (gi_cons mL_15_3 rfl (gi_cons mL_15_4 rfl (gi_cons mL_13_10 rfl (gi_cons mL_8_13 rfl (gi_cons mL_8_14 rfl (gi_cons mL_8_15 rfl (gi_cons mL_9_18 rfl (gi_cons mL_9_19 rfl (gi_cons mL_9_20 rfl (gi_cons mL_9_21 rfl (gi_cons mL_9_22 rfl (gi_cons mL_6_5 rfl (gi_cons mL_16_21 rfl (gi_cons mL_16_22 rfl gi_nil)))))))))))))))))))))))
set_option maxRecDepth 20000 in
theorem gg_wsX10_strike_r2 : GoodIn wsL_law wsX10_strike_r2 := gi_cons mL_16_23 rfl (gi_cons mL_17_0 rfl (gi_cons mL_6_17 rfl gi_nil))
set_option maxRecDepth 20000 in
theorem gg_wsX10_strike : GoodIn wsL_law wsX10_strike := gi_cons mL_16_16 rfl (goodIn_app (goodIn_app (gg_wsX10_strike_r1) (gg_wsX10_strike_r2)) (gL_wsX100))
set_option maxRecDepth 20000 in
theorem gL_law_X10_strike : GoodIn wsL_law (wsV RL 52 RX10 yX10_strike wsX10_strike) := goodIn_app (gi_cons mL_16_13 rfl (gi_cons mL_16_14 rfl (gi_cons mL_16_15 rfl (gi_cons mL_1_5 rfl gi_nil)))) gg_wsX10_strike
set_option maxRecDepth 20000 in
theorem gg_wsX9_told_r1 : GoodIn wsL_law wsX9_told_r1 := gi_cons mL_1_19 rfl (gi_cons mL_13_23 rfl (gi_cons mL_14_3 rfl (gi_cons mL_14_4 rfl (gi_cons mL_14_5 rfl (gi_cons mL_1_18 rfl (gi_cons mL_14_6 rfl (gi_cons mL_12_13 rfl (gi_cons mL_8_23 rfl (gi_cons mL_9_0 rfl (gi_cons mL_9_1 rfl (gi_cons mL_1_2 rfl (gi_cons mL_9_2 rfl (gi_cons mL_9_3 rfl (gi_cons mL_3_3 rfl (gi_cons mL_17_5 rfl (gi_cons mL_17_6 rfl (gi_cons mL_17_7 rfl (gi_cons mL_17_8 rfl (gi_cons mL_3_23 rfl (gi_cons mL_3_22 rfl (gi_cons mL_4_2 rfl (gi_cons mL_4_3 rfl (gi_cons mL_4_1 rfl gi_nil)))))))))))))))))))))))
set_option maxRecDepth 20000 in
theorem gg_wsX9_told_r2 : GoodIn wsL_law wsX9_told_r2 := gi_cons mL_17_9 rfl (gi_cons mL_17_10 rfl (gi_cons mL_17_11 rfl (gi_cons mL_17_12 rfl (gi_cons mL_17_13 rfl (gi_cons mL_17_14 rfl (gi_cons mL_17_15 rfl (gi_cons mL_17_16 rfl (gi_cons mL_3_19 rfl (gi_cons mL_3_21 rfl (gi_cons mL_17_17 rfl (gi_cons mL_17_18 rfl (gi_cons mL_17_19 rfl (gi_cons mL_17_20 rfl (gi_cons mL_17_21 rfl (gi_cons mL_17_22 rfl (gi_cons mL_17_23 rfl gi_nil))))))))))))))))
set_option maxRecDepth 20000 in
theorem gg_wsX9_told : GoodIn wsL_law wsX9_told := gi_cons mL_17_4 rfl (goodIn_app (goodIn_app (goodIn_app (gg_wsX9_told_r1) (gg_wsX9_told_r2)) (gL_wsX90)) (gL_wsX80))
set_option maxRecDepth 20000 in
theorem gL_law_X9_told : GoodIn wsL_law (wsV RL 53 RX9 yX9_told wsX9_told) := goodIn_app (gi_cons mL_17_1 rfl (gi_cons mL_17_2 rfl (gi_cons mL_17_3 rfl (gi_cons mL_1_2 rfl gi_nil)))) gg_wsX9_told
set_option maxRecDepth 20000 in
theorem gg_wsX10_told_r1 : GoodIn wsL_law wsX10_told_r1 := gi_cons mL_8_13 rfl (gi_cons mL_8_14 rfl (gi_cons mL_1_5 rfl (gi_cons mL_8_15 rfl (gi_cons mL_16_17 rfl (gi_cons mL_16_18 rfl (gi_cons mL_16_19 rfl (gi_cons mL_16_20 rfl (gi_cons mL_6_13 rfl (gi_cons mL_15_1 rfl (gi_cons mL_15_2 rfl (gi_cons mL_15_3 rfl (gi_cons mL_15_4 rfl (gi_cons mL_13_10 rfl (gi_cons mL_9_18 rfl (gi_cons mL_9_19 rfl (gi_cons mL_9_20 rfl (gi_cons mL_9_21 rfl (gi_cons mL_9_22 rfl (gi_cons mL_6_5 rfl (gi_cons mL_18_4 rfl (gi_cons mL_18_5 rfl (gi_cons mL_18_6 rfl (gi_cons mL_18_7 rfl gi_nil)))))))))))))))))))))))
set_option maxRecDepth 20000 in
theorem gg_wsX10_told_r2 : GoodIn wsL_law wsX10_told_r2 := gi_cons mL_6_11 rfl (gi_cons mL_6_6 rfl (gi_cons mL_6_12 rfl (gi_cons mL_6_10 rfl (gi_cons mL_6_15 rfl (gi_cons mL_6_16 rfl (gi_cons mL_6_14 rfl (gi_cons mL_18_8 rfl (gi_cons mL_18_9 rfl (gi_cons mL_18_10 rfl gi_nil)))))))))
set_option maxRecDepth 20000 in
theorem gg_wsX10_told : GoodIn wsL_law wsX10_told := gi_cons mL_18_3 rfl (goodIn_app (goodIn_app (gg_wsX10_told_r1) (gg_wsX10_told_r2)) (gL_wsX100))
set_option maxRecDepth 20000 in
theorem gL_law_X10_told : GoodIn wsL_law (wsV RL 56 RX10 yX10_told wsX10_told) := goodIn_app (gi_cons mL_18_0 rfl (gi_cons mL_18_1 rfl (gi_cons mL_18_2 rfl (gi_cons mL_1_5 rfl gi_nil)))) gg_wsX10_told
set_option maxRecDepth 20000 in
theorem gg_wsX9_mark_r1 : GoodIn wsL_law wsX9_mark_r1 := gi_cons mL_1_19 rfl (gi_cons mL_13_23 rfl (gi_cons mL_18_15 rfl (gi_cons mL_14_3 rfl (gi_cons mL_14_4 rfl (gi_cons mL_14_5 rfl (gi_cons mL_1_18 rfl (gi_cons mL_14_6 rfl (gi_cons mL_12_13 rfl (gi_cons mL_8_23 rfl (gi_cons mL_9_0 rfl (gi_cons mL_9_1 rfl (gi_cons mL_1_2 rfl (gi_cons mL_9_2 rfl (gi_cons mL_9_3 rfl (gi_cons mL_3_3 rfl (gi_cons mL_14_10 rfl (gi_cons mL_14_11 rfl (gi_cons mL_14_12 rfl (gi_cons mL_14_13 rfl (gi_cons mL_3_23 rfl (gi_cons mL_16_9 rfl (gi_cons mL_16_10 rfl (gi_cons mL_16_11 rfl gi_nil)))))))))))))))))))))))
set_option maxRecDepth 20000 in
theorem gg_wsX9_mark_r2 : GoodIn wsL_law wsX9_mark_r2 := gi_cons mL_16_12 rfl (gi_cons mL_4_5 rfl (gi_cons mL_4_0 rfl (gi_cons mL_18_16 rfl (gi_cons mL_18_17 rfl (gi_cons mL_18_18 rfl (gi_cons mL_18_19 rfl gi_nil))))))
set_option maxRecDepth 20000 in
theorem gg_wsX9_mark : GoodIn wsL_law wsX9_mark := gi_cons mL_18_14 rfl (goodIn_app (goodIn_app (goodIn_app (gg_wsX9_mark_r1) (gg_wsX9_mark_r2)) (gL_wsX90)) (gL_wsX80))
set_option maxRecDepth 20000 in
theorem gL_law_X9_mark : GoodIn wsL_law (wsV RL 57 RX9 yX9_mark wsX9_mark) := goodIn_app (gi_cons mL_18_11 rfl (gi_cons mL_18_12 rfl (gi_cons mL_18_13 rfl (gi_cons mL_1_2 rfl gi_nil)))) gg_wsX9_mark
set_option maxRecDepth 20000 in
theorem gg_wsX10_mark_r1 : GoodIn wsL_law wsX10_mark_r1 := gi_cons mL_6_10 rfl (gi_cons mL_6_17 rfl (gi_cons mL_8_13 rfl (gi_cons mL_8_14 rfl (gi_cons mL_1_5 rfl (gi_cons mL_8_15 rfl (gi_cons mL_16_17 rfl (gi_cons mL_16_18 rfl (gi_cons mL_16_19 rfl (gi_cons mL_16_20 rfl (gi_cons mL_6_13 rfl (gi_cons mL_15_1 rfl (gi_cons mL_15_2 rfl (gi_cons mL_15_3 rfl (gi_cons mL_15_4 rfl (gi_cons mL_13_10 rfl (gi_cons mL_9_18 rfl (gi_cons mL_9_19 rfl (gi_cons mL_9_20 rfl (gi_cons mL_9_21 rfl (gi_cons mL_9_22 rfl (gi_cons mL_6_5 rfl (gi_cons mL_16_21 rfl (gi_cons mL_16_22 rfl gi_nil)))))))))))))))))))))))
set_option maxRecDepth 20000 in
theorem gg_wsX10_mark_r2 : GoodIn wsL_law wsX10_mark_r2 := gi_cons mL_16_23 rfl (gi_cons mL_17_0 rfl gi_nil)
set_option maxRecDepth 20000 in
theorem gg_wsX10_mark : GoodIn wsL_law wsX10_mark := gi_cons mL_18_23 rfl (goodIn_app (goodIn_app (gg_wsX10_mark_r1) (gg_wsX10_mark_r2)) (gL_wsX100))
set_option maxRecDepth 20000 in
theorem gL_law_X10_mark : GoodIn wsL_law (wsV RL 60 RX10 yX10_mark wsX10_mark) := goodIn_app (gi_cons mL_18_20 rfl (gi_cons mL_18_21 rfl (gi_cons mL_18_22 rfl (gi_cons mL_1_5 rfl gi_nil)))) gg_wsX10_mark
set_option maxRecDepth 20000 in
theorem gg_wsX9_mean : GoodIn wsL_law wsX9_mean := gi_cons mL_19_3 rfl (goodIn_app (goodIn_app (gi_cons mL_1_19 rfl (gi_cons mL_19_4 rfl (gi_cons mL_19_5 rfl (gi_cons mL_19_6 rfl (gi_cons mL_1_18 rfl (gi_cons mL_19_7 rfl (gi_cons mL_12_13 rfl (gi_cons mL_4_5 rfl (gi_cons mL_8_23 rfl (gi_cons mL_9_0 rfl (gi_cons mL_9_1 rfl (gi_cons mL_1_2 rfl (gi_cons mL_9_2 rfl (gi_cons mL_9_3 rfl (gi_cons mL_3_3 rfl (gi_cons mL_19_8 rfl (gi_cons mL_19_9 rfl (gi_cons mL_19_10 rfl (gi_cons mL_19_11 rfl (gi_cons mL_3_22 rfl gi_nil)))))))))))))))))))) (gL_wsX90)) (gL_wsX80))
set_option maxRecDepth 20000 in
theorem gL_law_X9_mean : GoodIn wsL_law (wsV RL 61 RX9 yX9_mean wsX9_mean) := goodIn_app (gi_cons mL_19_0 rfl (gi_cons mL_19_1 rfl (gi_cons mL_19_2 rfl (gi_cons mL_1_2 rfl gi_nil)))) gg_wsX9_mean
set_option maxRecDepth 20000 in
theorem gg_wsX10_mean : GoodIn wsL_law wsX10_mean := gi_cons mL_19_15 rfl (goodIn_app (gi_cons mL_13_10 rfl (gi_cons mL_6_13 rfl (gi_cons mL_6_11 rfl (gi_cons mL_9_18 rfl (gi_cons mL_9_19 rfl (gi_cons mL_9_20 rfl (gi_cons mL_1_5 rfl (gi_cons mL_9_21 rfl (gi_cons mL_9_22 rfl (gi_cons mL_6_5 rfl gi_nil)))))))))) (gL_wsX100))
set_option maxRecDepth 20000 in
theorem gL_law_X10_mean : GoodIn wsL_law (wsV RL 65 RX10 yX10_mean wsX10_mean) := goodIn_app (gi_cons mL_19_12 rfl (gi_cons mL_19_13 rfl (gi_cons mL_19_14 rfl (gi_cons mL_1_5 rfl gi_nil)))) gg_wsX10_mean
set_option maxRecDepth 20000 in
theorem gg_wsX9_see_r1 : GoodIn wsL_law wsX9_see_r1 := gi_cons mL_1_21 rfl (gi_cons mL_19_20 rfl (gi_cons mL_19_21 rfl (gi_cons mL_1_2 rfl (gi_cons mL_19_22 rfl (gi_cons mL_7_23 rfl (gi_cons mL_8_0 rfl (gi_cons mL_8_1 rfl (gi_cons mL_19_23 rfl (gi_cons mL_20_0 rfl (gi_cons mL_20_1 rfl (gi_cons mL_8_23 rfl (gi_cons mL_9_0 rfl (gi_cons mL_9_1 rfl (gi_cons mL_9_2 rfl (gi_cons mL_9_3 rfl (gi_cons mL_3_3 rfl (gi_cons mL_20_2 rfl (gi_cons mL_20_3 rfl (gi_cons mL_20_4 rfl (gi_cons mL_1_23 rfl (gi_cons mL_20_5 rfl (gi_cons mL_4_10 rfl (gi_cons mL_20_6 rfl gi_nil)))))))))))))))))))))))
set_option maxRecDepth 20000 in
theorem gg_wsX9_see_r2 : GoodIn wsL_law wsX9_see_r2 := gi_cons mL_20_7 rfl (gi_cons mL_20_8 rfl (gi_cons mL_20_9 rfl (gi_cons mL_20_10 rfl (gi_cons mL_17_18 rfl (gi_cons mL_17_19 rfl (gi_cons mL_17_20 rfl (gi_cons mL_17_21 rfl (gi_cons mL_17_22 rfl (gi_cons mL_17_23 rfl gi_nil)))))))))
set_option maxRecDepth 20000 in
theorem gg_wsX9_see : GoodIn wsL_law wsX9_see := gi_cons mL_19_19 rfl (goodIn_app (goodIn_app (goodIn_app (gg_wsX9_see_r1) (gg_wsX9_see_r2)) (gL_wsX90)) (gL_wsX20))
set_option maxRecDepth 20000 in
theorem gL_law_X9_see : GoodIn wsL_law (wsV RL 66 RX9 yX9_see wsX9_see) := goodIn_app (gi_cons mL_19_16 rfl (gi_cons mL_19_17 rfl (gi_cons mL_19_18 rfl (gi_cons mL_1_2 rfl gi_nil)))) gg_wsX9_see
set_option maxRecDepth 20000 in
theorem gg_wsX10_see : GoodIn wsL_law wsX10_see := gi_cons mL_20_14 rfl (goodIn_app (gi_cons mL_6_18 rfl (gi_cons mL_20_15 rfl (gi_cons mL_20_16 rfl (gi_cons mL_1_5 rfl (gi_cons mL_20_17 rfl (gi_cons mL_8_13 rfl (gi_cons mL_8_14 rfl (gi_cons mL_8_15 rfl (gi_cons mL_20_18 rfl (gi_cons mL_20_19 rfl (gi_cons mL_20_20 rfl (gi_cons mL_9_18 rfl (gi_cons mL_9_19 rfl (gi_cons mL_9_20 rfl (gi_cons mL_9_21 rfl (gi_cons mL_9_22 rfl (gi_cons mL_6_5 rfl gi_nil))))))))))))))))) (gL_wsX100))
set_option maxRecDepth 20000 in
theorem gL_law_X10_see : GoodIn wsL_law (wsV RL 70 RX10 yX10_see wsX10_see) := goodIn_app (gi_cons mL_20_11 rfl (gi_cons mL_20_12 rfl (gi_cons mL_20_13 rfl (gi_cons mL_1_5 rfl gi_nil)))) gg_wsX10_see
set_option maxRecDepth 20000 in
theorem gg_wsX9_seen : GoodIn wsL_law wsX9_seen := gi_cons mL_21_0 rfl (goodIn_app (goodIn_app (gi_cons mL_1_21 rfl (gi_cons mL_19_20 rfl (gi_cons mL_19_21 rfl (gi_cons mL_1_2 rfl (gi_cons mL_19_22 rfl (gi_cons mL_19_23 rfl (gi_cons mL_20_0 rfl (gi_cons mL_20_1 rfl (gi_cons mL_8_23 rfl (gi_cons mL_9_0 rfl (gi_cons mL_9_1 rfl (gi_cons mL_9_2 rfl (gi_cons mL_9_3 rfl (gi_cons mL_3_3 rfl (gi_cons mL_21_1 rfl (gi_cons mL_21_2 rfl (gi_cons mL_21_3 rfl (gi_cons mL_1_23 rfl (gi_cons mL_21_4 rfl (gi_cons mL_4_10 rfl gi_nil)))))))))))))))))))) (gL_wsX90)) (gL_wsX20))
set_option maxRecDepth 20000 in
theorem gL_law_X9_seen : GoodIn wsL_law (wsV RL 71 RX9 yX9_seen wsX9_seen) := goodIn_app (gi_cons mL_20_21 rfl (gi_cons mL_20_22 rfl (gi_cons mL_20_23 rfl (gi_cons mL_1_2 rfl gi_nil)))) gg_wsX9_seen
set_option maxRecDepth 20000 in
theorem gg_wsX10_seen : GoodIn wsL_law wsX10_seen := gi_cons mL_21_8 rfl (goodIn_app (gi_cons mL_6_18 rfl (gi_cons mL_20_15 rfl (gi_cons mL_20_16 rfl (gi_cons mL_1_5 rfl (gi_cons mL_20_17 rfl (gi_cons mL_8_13 rfl (gi_cons mL_8_14 rfl (gi_cons mL_8_15 rfl (gi_cons mL_20_18 rfl (gi_cons mL_20_19 rfl (gi_cons mL_20_20 rfl (gi_cons mL_9_18 rfl (gi_cons mL_9_19 rfl (gi_cons mL_9_20 rfl (gi_cons mL_9_21 rfl (gi_cons mL_9_22 rfl (gi_cons mL_6_5 rfl gi_nil))))))))))))))))) (gL_wsX100))
set_option maxRecDepth 20000 in
theorem gL_law_X10_seen : GoodIn wsL_law (wsV RL 74 RX10 yX10_seen wsX10_seen) := goodIn_app (gi_cons mL_21_5 rfl (gi_cons mL_21_6 rfl (gi_cons mL_21_7 rfl (gi_cons mL_1_5 rfl gi_nil)))) gg_wsX10_seen
set_option maxRecDepth 20000 in
theorem gg_wsX9_lack_r1 : GoodIn wsL_law wsX9_lack_r1 := gi_cons mL_1_19 rfl (gi_cons mL_13_23 rfl (gi_cons mL_1_21 rfl (gi_cons mL_19_20 rfl (gi_cons mL_19_21 rfl (gi_cons mL_1_2 rfl (gi_cons mL_19_22 rfl (gi_cons mL_14_3 rfl (gi_cons mL_14_4 rfl (gi_cons mL_14_5 rfl (gi_cons mL_1_18 rfl (gi_cons mL_14_6 rfl (gi_cons mL_12_13 rfl (gi_cons mL_21_13 rfl (gi_cons mL_21_14 rfl (gi_cons mL_21_15 rfl (gi_cons mL_8_23 rfl (gi_cons mL_9_0 rfl (gi_cons mL_9_1 rfl (gi_cons mL_9_2 rfl (gi_cons mL_9_3 rfl (gi_cons mL_3_3 rfl (gi_cons mL_21_16 rfl (gi_cons mL_21_17 rfl gi_nil)))))))))))))))))))))))
set_option maxRecDepth 20000 in
theorem gg_wsX9_lack_r2 : GoodIn wsL_law wsX9_lack_r2 := gi_cons mL_21_18 rfl (gi_cons mL_21_19 rfl (gi_cons mL_3_22 rfl (gi_cons mL_21_20 rfl (gi_cons mL_21_21 rfl (gi_cons mL_21_22 rfl (gi_cons mL_21_23 rfl (gi_cons mL_22_0 rfl (gi_cons mL_22_1 rfl (gi_cons mL_17_14 rfl (gi_cons mL_17_15 rfl (gi_cons mL_17_16 rfl (gi_cons mL_3_19 rfl (gi_cons mL_3_21 rfl (gi_cons mL_22_2 rfl (gi_cons mL_20_7 rfl (gi_cons mL_20_8 rfl (gi_cons mL_1_23 rfl (gi_cons mL_20_9 rfl (gi_cons mL_4_10 rfl (gi_cons mL_22_3 rfl (gi_cons mL_17_18 rfl (gi_cons mL_17_19 rfl (gi_cons mL_17_20 rfl gi_nil)))))))))))))))))))))))
set_option maxRecDepth 20000 in
theorem gg_wsX9_lack_r3 : GoodIn wsL_law wsX9_lack_r3 := gi_cons mL_17_21 rfl (gi_cons mL_17_22 rfl (gi_cons mL_17_23 rfl gi_nil))
set_option maxRecDepth 20000 in
theorem gg_wsX9_lack : GoodIn wsL_law wsX9_lack := gi_cons mL_21_12 rfl (goodIn_app (goodIn_app (goodIn_app (goodIn_app (gg_wsX9_lack_r1) (goodIn_app (gg_wsX9_lack_r2) (gg_wsX9_lack_r3))) (gL_wsX90)) (gL_wsX80)) (gL_wsX20))
set_option maxRecDepth 20000 in
theorem gL_law_X9_lack : GoodIn wsL_law (wsV RL 75 RX9 yX9_lack wsX9_lack) := goodIn_app (gi_cons mL_21_9 rfl (gi_cons mL_21_10 rfl (gi_cons mL_21_11 rfl (gi_cons mL_1_2 rfl gi_nil)))) gg_wsX9_lack
set_option maxRecDepth 20000 in
theorem gg_wsX10_lack_r1 : GoodIn wsL_law wsX10_lack_r1 := gi_cons mL_20_15 rfl (gi_cons mL_20_16 rfl (gi_cons mL_1_5 rfl (gi_cons mL_20_17 rfl (gi_cons mL_8_13 rfl (gi_cons mL_8_14 rfl (gi_cons mL_8_15 rfl (gi_cons mL_22_8 rfl (gi_cons mL_22_9 rfl (gi_cons mL_22_10 rfl (gi_cons mL_16_17 rfl (gi_cons mL_16_18 rfl (gi_cons mL_16_19 rfl (gi_cons mL_16_20 rfl (gi_cons mL_6_13 rfl (gi_cons mL_15_1 rfl (gi_cons mL_15_2 rfl (gi_cons mL_15_3 rfl (gi_cons mL_15_4 rfl (gi_cons mL_13_10 rfl (gi_cons mL_9_18 rfl (gi_cons mL_9_19 rfl (gi_cons mL_9_20 rfl (gi_cons mL_9_21 rfl gi_nil)))))))))))))))))))))))
set_option maxRecDepth 20000 in
theorem gg_wsX10_lack_r2 : GoodIn wsL_law wsX10_lack_r2 := gi_cons mL_9_22 rfl (gi_cons mL_6_5 rfl (gi_cons mL_22_11 rfl (gi_cons mL_22_12 rfl (gi_cons mL_22_13 rfl (gi_cons mL_22_14 rfl (gi_cons mL_6_11 rfl (gi_cons mL_22_15 rfl (gi_cons mL_22_16 rfl (gi_cons mL_22_17 rfl (gi_cons mL_22_18 rfl (gi_cons mL_6_18 rfl (gi_cons mL_22_19 rfl (gi_cons mL_22_20 rfl (gi_cons mL_22_21 rfl (gi_cons mL_22_22 rfl (gi_cons mL_6_6 rfl (gi_cons mL_6_12 rfl gi_nil)))))))))))))))))
set_option maxRecDepth 20000 in
theorem gg_wsX10_lack : GoodIn wsL_law wsX10_lack := gi_cons mL_22_7 rfl (goodIn_app (goodIn_app (gg_wsX10_lack_r1) (gg_wsX10_lack_r2)) (gL_wsX100))
set_option maxRecDepth 20000 in
theorem gL_law_X10_lack : GoodIn wsL_law (wsV RL 78 RX10 yX10_lack wsX10_lack) := goodIn_app (gi_cons mL_22_4 rfl (gi_cons mL_22_5 rfl (gi_cons mL_22_6 rfl (gi_cons mL_1_5 rfl gi_nil)))) gg_wsX10_lack
set_option maxRecDepth 20000 in
theorem gg_wsX9_reading_r1 : GoodIn wsL_law wsX9_reading_r1 := gi_cons mL_1_21 rfl (gi_cons mL_2_19 rfl (gi_cons mL_23_3 rfl (gi_cons mL_23_4 rfl (gi_cons mL_23_5 rfl (gi_cons mL_19_20 rfl (gi_cons mL_19_21 rfl (gi_cons mL_1_2 rfl (gi_cons mL_19_22 rfl (gi_cons mL_21_13 rfl (gi_cons mL_21_14 rfl (gi_cons mL_21_15 rfl (gi_cons mL_23_6 rfl (gi_cons mL_23_7 rfl (gi_cons mL_23_8 rfl (gi_cons mL_23_9 rfl (gi_cons mL_23_10 rfl (gi_cons mL_1_19 rfl (gi_cons mL_23_11 rfl (gi_cons mL_23_12 rfl (gi_cons mL_23_13 rfl (gi_cons mL_23_14 rfl (gi_cons mL_1_18 rfl (gi_cons mL_23_15 rfl gi_nil)))))))))))))))))))))))
set_option maxRecDepth 20000 in
theorem gg_wsX9_reading_r2 : GoodIn wsL_law wsX9_reading_r2 := gi_cons mL_4_5 rfl (gi_cons mL_23_16 rfl (gi_cons mL_14_4 rfl (gi_cons mL_14_5 rfl (gi_cons mL_14_6 rfl (gi_cons mL_12_13 rfl (gi_cons mL_21_16 rfl (gi_cons mL_21_17 rfl (gi_cons mL_21_18 rfl (gi_cons mL_21_19 rfl (gi_cons mL_3_22 rfl (gi_cons mL_21_20 rfl (gi_cons mL_21_21 rfl (gi_cons mL_21_22 rfl (gi_cons mL_21_23 rfl (gi_cons mL_22_0 rfl (gi_cons mL_22_1 rfl (gi_cons mL_17_14 rfl (gi_cons mL_17_15 rfl (gi_cons mL_17_16 rfl (gi_cons mL_3_19 rfl (gi_cons mL_3_21 rfl (gi_cons mL_22_2 rfl (gi_cons mL_20_7 rfl gi_nil)))))))))))))))))))))))
set_option maxRecDepth 20000 in
theorem gg_wsX9_reading_r3 : GoodIn wsL_law wsX9_reading_r3 := gi_cons mL_20_8 rfl (gi_cons mL_1_23 rfl (gi_cons mL_20_9 rfl (gi_cons mL_4_10 rfl (gi_cons mL_22_3 rfl (gi_cons mL_17_18 rfl (gi_cons mL_17_19 rfl (gi_cons mL_17_20 rfl (gi_cons mL_17_21 rfl (gi_cons mL_17_22 rfl (gi_cons mL_17_23 rfl (gi_cons mL_23_17 rfl (gi_cons mL_23_18 rfl (gi_cons mL_23_19 rfl (gi_cons mL_23_20 rfl (gi_cons mL_23_21 rfl (gi_cons mL_23_22 rfl (gi_cons mL_23_23 rfl (gi_cons mL_2_18 rfl (gi_cons mL_24_0 rfl (gi_cons mL_5_18 rfl (gi_cons mL_24_1 rfl (gi_cons mL_5_19 rfl (gi_cons mL_5_20 rfl gi_nil)))))))))))))))))))))))
set_option maxRecDepth 20000 in
theorem gg_wsX9_reading_r4 : GoodIn wsL_law wsX9_reading_r4 := gi_cons mL_5_21 rfl (gi_cons mL_24_2 rfl (gi_cons mL_24_3 rfl (gi_cons mL_24_4 rfl (gi_cons mL_24_5 rfl (gi_cons mL_24_6 rfl (gi_cons mL_24_7 rfl (gi_cons mL_24_8 rfl (gi_cons mL_24_9 rfl (gi_cons mL_24_10 rfl (gi_cons mL_24_11 rfl (gi_cons mL_24_12 rfl (gi_cons mL_24_13 rfl gi_nil))))))))))))
set_option maxRecDepth 20000 in
theorem gg_wsX9_reading : GoodIn wsL_law wsX9_reading := gi_cons mL_23_2 rfl (goodIn_app (goodIn_app (goodIn_app (goodIn_app (goodIn_app (gg_wsX9_reading_r1) (goodIn_app (gg_wsX9_reading_r2) (goodIn_app (gg_wsX9_reading_r3) (gg_wsX9_reading_r4)))) (gL_wsX90)) (gL_wsX40)) (gL_wsX80)) (gL_wsX20))
set_option maxRecDepth 20000 in
theorem gL_law_X9_reading : GoodIn wsL_law (wsV RL 79 RX9 yX9_reading wsX9_reading) := goodIn_app (gi_cons mL_22_23 rfl (gi_cons mL_23_0 rfl (gi_cons mL_23_1 rfl (gi_cons mL_1_2 rfl gi_nil)))) gg_wsX9_reading
set_option maxRecDepth 20000 in
theorem gg_wsX10_reading_r1 : GoodIn wsL_law wsX10_reading_r1 := gi_cons mL_24_18 rfl (gi_cons mL_6_19 rfl (gi_cons mL_24_19 rfl (gi_cons mL_20_15 rfl (gi_cons mL_20_16 rfl (gi_cons mL_1_5 rfl (gi_cons mL_20_17 rfl (gi_cons mL_8_13 rfl (gi_cons mL_8_14 rfl (gi_cons mL_8_15 rfl (gi_cons mL_22_8 rfl (gi_cons mL_22_9 rfl (gi_cons mL_22_10 rfl (gi_cons mL_24_20 rfl (gi_cons mL_24_21 rfl (gi_cons mL_24_22 rfl (gi_cons mL_24_23 rfl (gi_cons mL_13_10 rfl (gi_cons mL_6_13 rfl (gi_cons mL_22_11 rfl (gi_cons mL_22_12 rfl (gi_cons mL_22_13 rfl (gi_cons mL_22_14 rfl (gi_cons mL_6_11 rfl gi_nil)))))))))))))))))))))))
set_option maxRecDepth 20000 in
theorem gg_wsX10_reading_r2 : GoodIn wsL_law wsX10_reading_r2 := gi_cons mL_22_15 rfl (gi_cons mL_22_16 rfl (gi_cons mL_22_17 rfl (gi_cons mL_22_18 rfl (gi_cons mL_6_18 rfl (gi_cons mL_22_19 rfl (gi_cons mL_22_20 rfl (gi_cons mL_22_21 rfl (gi_cons mL_22_22 rfl (gi_cons mL_6_6 rfl (gi_cons mL_6_12 rfl gi_nil))))))))))
set_option maxRecDepth 20000 in
theorem gg_wsX10_reading : GoodIn wsL_law wsX10_reading := gi_cons mL_24_17 rfl (goodIn_app (goodIn_app (gg_wsX10_reading_r1) (gg_wsX10_reading_r2)) (gL_wsX100))
set_option maxRecDepth 20000 in
theorem gL_law_X10_reading : GoodIn wsL_law (wsV RL 82 RX10 yX10_reading wsX10_reading) := goodIn_app (gi_cons mL_24_14 rfl (gi_cons mL_24_15 rfl (gi_cons mL_24_16 rfl (gi_cons mL_1_5 rfl gi_nil)))) gg_wsX10_reading
set_option maxRecDepth 20000 in
theorem gg_wsX9_rivals_r1 : GoodIn wsL_law wsX9_rivals_r1 := gi_cons mL_1_21 rfl (gi_cons mL_2_19 rfl (gi_cons mL_19_20 rfl (gi_cons mL_19_21 rfl (gi_cons mL_1_2 rfl (gi_cons mL_19_22 rfl (gi_cons mL_21_13 rfl (gi_cons mL_21_14 rfl (gi_cons mL_21_15 rfl (gi_cons mL_23_6 rfl (gi_cons mL_23_7 rfl (gi_cons mL_23_8 rfl (gi_cons mL_23_9 rfl (gi_cons mL_23_10 rfl (gi_cons mL_1_19 rfl (gi_cons mL_23_11 rfl (gi_cons mL_23_12 rfl (gi_cons mL_23_13 rfl (gi_cons mL_23_14 rfl (gi_cons mL_1_18 rfl (gi_cons mL_23_15 rfl (gi_cons mL_4_5 rfl (gi_cons mL_23_16 rfl (gi_cons mL_14_4 rfl gi_nil)))))))))))))))))))))))
set_option maxRecDepth 20000 in
theorem gg_wsX9_rivals_r2 : GoodIn wsL_law wsX9_rivals_r2 := gi_cons mL_14_5 rfl (gi_cons mL_14_6 rfl (gi_cons mL_12_13 rfl (gi_cons mL_21_16 rfl (gi_cons mL_21_17 rfl (gi_cons mL_21_18 rfl (gi_cons mL_21_19 rfl (gi_cons mL_3_22 rfl (gi_cons mL_21_20 rfl (gi_cons mL_21_21 rfl (gi_cons mL_21_22 rfl (gi_cons mL_21_23 rfl (gi_cons mL_22_0 rfl (gi_cons mL_22_1 rfl (gi_cons mL_17_14 rfl (gi_cons mL_17_15 rfl (gi_cons mL_17_16 rfl (gi_cons mL_3_19 rfl (gi_cons mL_3_21 rfl (gi_cons mL_22_2 rfl (gi_cons mL_20_7 rfl (gi_cons mL_20_8 rfl (gi_cons mL_1_23 rfl (gi_cons mL_20_9 rfl gi_nil)))))))))))))))))))))))
set_option maxRecDepth 20000 in
theorem gg_wsX9_rivals_r3 : GoodIn wsL_law wsX9_rivals_r3 := gi_cons mL_4_10 rfl (gi_cons mL_22_3 rfl (gi_cons mL_17_18 rfl (gi_cons mL_17_19 rfl (gi_cons mL_17_20 rfl (gi_cons mL_17_21 rfl (gi_cons mL_17_22 rfl (gi_cons mL_17_23 rfl (gi_cons mL_23_17 rfl (gi_cons mL_23_18 rfl (gi_cons mL_23_19 rfl (gi_cons mL_23_20 rfl (gi_cons mL_23_21 rfl (gi_cons mL_23_22 rfl (gi_cons mL_23_23 rfl (gi_cons mL_2_18 rfl (gi_cons mL_24_0 rfl (gi_cons mL_5_18 rfl (gi_cons mL_24_1 rfl (gi_cons mL_5_19 rfl (gi_cons mL_5_20 rfl (gi_cons mL_5_21 rfl (gi_cons mL_25_4 rfl (gi_cons mL_25_5 rfl gi_nil)))))))))))))))))))))))
set_option maxRecDepth 20000 in
theorem gg_wsX9_rivals_r4 : GoodIn wsL_law wsX9_rivals_r4 := gi_cons mL_25_6 rfl (gi_cons mL_25_7 rfl (gi_cons mL_24_6 rfl (gi_cons mL_24_7 rfl (gi_cons mL_24_8 rfl (gi_cons mL_24_9 rfl (gi_cons mL_24_10 rfl (gi_cons mL_24_11 rfl (gi_cons mL_24_12 rfl (gi_cons mL_24_13 rfl gi_nil)))))))))
set_option maxRecDepth 20000 in
theorem gg_wsX9_rivals : GoodIn wsL_law wsX9_rivals := gi_cons mL_25_3 rfl (goodIn_app (goodIn_app (goodIn_app (goodIn_app (goodIn_app (gg_wsX9_rivals_r1) (goodIn_app (gg_wsX9_rivals_r2) (goodIn_app (gg_wsX9_rivals_r3) (gg_wsX9_rivals_r4)))) (gL_wsX90)) (gL_wsX40)) (gL_wsX80)) (gL_wsX20))
set_option maxRecDepth 20000 in
theorem gL_law_X9_rivals : GoodIn wsL_law (wsV RL 83 RX9 yX9_rivals wsX9_rivals) := goodIn_app (gi_cons mL_25_0 rfl (gi_cons mL_25_1 rfl (gi_cons mL_25_2 rfl (gi_cons mL_1_2 rfl gi_nil)))) gg_wsX9_rivals
set_option maxRecDepth 20000 in
theorem gg_wsX10_rivals_r1 : GoodIn wsL_law wsX10_rivals_r1 := gi_cons mL_24_18 rfl (gi_cons mL_20_15 rfl (gi_cons mL_20_16 rfl (gi_cons mL_1_5 rfl (gi_cons mL_20_17 rfl (gi_cons mL_8_13 rfl (gi_cons mL_8_14 rfl (gi_cons mL_8_15 rfl (gi_cons mL_22_8 rfl (gi_cons mL_22_9 rfl (gi_cons mL_22_10 rfl (gi_cons mL_24_20 rfl (gi_cons mL_24_21 rfl (gi_cons mL_24_22 rfl (gi_cons mL_24_23 rfl (gi_cons mL_13_10 rfl (gi_cons mL_6_13 rfl (gi_cons mL_6_19 rfl (gi_cons mL_22_11 rfl (gi_cons mL_22_12 rfl (gi_cons mL_22_13 rfl (gi_cons mL_22_14 rfl (gi_cons mL_6_11 rfl (gi_cons mL_22_15 rfl gi_nil)))))))))))))))))))))))
set_option maxRecDepth 20000 in
theorem gg_wsX10_rivals_r2 : GoodIn wsL_law wsX10_rivals_r2 := gi_cons mL_22_16 rfl (gi_cons mL_22_17 rfl (gi_cons mL_22_18 rfl (gi_cons mL_6_18 rfl (gi_cons mL_22_19 rfl (gi_cons mL_22_20 rfl (gi_cons mL_22_21 rfl (gi_cons mL_22_22 rfl (gi_cons mL_6_6 rfl (gi_cons mL_6_12 rfl gi_nil)))))))))
set_option maxRecDepth 20000 in
theorem gg_wsX10_rivals : GoodIn wsL_law wsX10_rivals := gi_cons mL_25_11 rfl (goodIn_app (goodIn_app (gg_wsX10_rivals_r1) (gg_wsX10_rivals_r2)) (gL_wsX100))
set_option maxRecDepth 20000 in
theorem gL_law_X10_rivals : GoodIn wsL_law (wsV RL 86 RX10 yX10_rivals wsX10_rivals) := goodIn_app (gi_cons mL_25_8 rfl (gi_cons mL_25_9 rfl (gi_cons mL_25_10 rfl (gi_cons mL_1_5 rfl gi_nil)))) gg_wsX10_rivals
set_option maxRecDepth 20000 in
theorem gg_wsX9_layer_r1 : GoodIn wsL_law wsX9_layer_r1 := gi_cons mL_1_19 rfl (gi_cons mL_1_21 rfl (gi_cons mL_13_23 rfl (gi_cons mL_25_16 rfl (gi_cons mL_19_20 rfl (gi_cons mL_19_21 rfl (gi_cons mL_1_2 rfl (gi_cons mL_19_22 rfl (gi_cons mL_14_3 rfl (gi_cons mL_14_4 rfl (gi_cons mL_14_5 rfl (gi_cons mL_1_18 rfl (gi_cons mL_14_6 rfl (gi_cons mL_12_13 rfl (gi_cons mL_21_13 rfl (gi_cons mL_21_14 rfl (gi_cons mL_21_15 rfl (gi_cons mL_25_17 rfl (gi_cons mL_25_18 rfl (gi_cons mL_25_19 rfl (gi_cons mL_1_23 rfl (gi_cons mL_25_20 rfl (gi_cons mL_16_8 rfl (gi_cons mL_25_21 rfl gi_nil)))))))))))))))))))))))
set_option maxRecDepth 20000 in
theorem gg_wsX9_layer_r2 : GoodIn wsL_law wsX9_layer_r2 := gi_cons mL_25_22 rfl (gi_cons mL_25_23 rfl (gi_cons mL_26_0 rfl (gi_cons mL_4_13 rfl (gi_cons mL_8_23 rfl (gi_cons mL_9_0 rfl (gi_cons mL_9_1 rfl (gi_cons mL_9_2 rfl (gi_cons mL_9_3 rfl (gi_cons mL_3_3 rfl (gi_cons mL_21_16 rfl (gi_cons mL_21_17 rfl (gi_cons mL_21_18 rfl (gi_cons mL_21_19 rfl (gi_cons mL_3_22 rfl (gi_cons mL_26_1 rfl (gi_cons mL_26_2 rfl (gi_cons mL_26_3 rfl (gi_cons mL_26_4 rfl (gi_cons mL_4_11 rfl (gi_cons mL_4_12 rfl gi_nil))))))))))))))))))))
set_option maxRecDepth 20000 in
theorem gg_wsX9_layer : GoodIn wsL_law wsX9_layer := gi_cons mL_25_15 rfl (goodIn_app (goodIn_app (goodIn_app (goodIn_app (gg_wsX9_layer_r1) (gg_wsX9_layer_r2)) (gL_wsX90)) (gL_wsX80)) (gL_wsX20))
set_option maxRecDepth 20000 in
theorem gL_law_X9_layer : GoodIn wsL_law (wsV RL 87 RX9 yX9_layer wsX9_layer) := goodIn_app (gi_cons mL_25_12 rfl (gi_cons mL_25_13 rfl (gi_cons mL_25_14 rfl (gi_cons mL_1_2 rfl gi_nil)))) gg_wsX9_layer
