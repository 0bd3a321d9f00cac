set_option maxRecDepth 20000 in
theorem gg_wsX10_layer_r1 : GoodIn wsL_law wsX10_layer_r1 := gi_cons mL_6_20 rfl (gi_cons mL_6_23 rfl (gi_cons mL_6_13 rfl (gi_cons mL_20_15 rfl (gi_cons mL_20_16 rfl (gi_cons mL_1_5 rfl (gi_cons mL_20_17 rfl (gi_cons mL_8_13 rfl (gi_cons mL_8_14 rfl (gi_cons mL_8_15 rfl (gi_cons mL_22_8 rfl (gi_cons mL_22_9 rfl (gi_cons mL_22_10 rfl (gi_cons mL_15_1 rfl (gi_cons mL_15_2 rfl (gi_cons mL_15_3 rfl (gi_cons mL_15_4 rfl (gi_cons mL_13_10 rfl (gi_cons mL_9_18 rfl (gi_cons mL_9_19 rfl (gi_cons mL_9_20 rfl (gi_cons mL_9_21 rfl (gi_cons mL_9_22 rfl (gi_cons mL_6_5 rfl gi_nil)))))))))))))))))))))))
set_option maxRecDepth 20000 in
theorem gg_wsX10_layer_r2 : GoodIn wsL_law wsX10_layer_r2 := gi_cons mL_22_11 rfl (gi_cons mL_22_12 rfl (gi_cons mL_22_13 rfl (gi_cons mL_22_14 rfl (gi_cons mL_6_11 rfl (gi_cons mL_26_9 rfl (gi_cons mL_26_10 rfl (gi_cons mL_26_11 rfl (gi_cons mL_26_12 rfl (gi_cons mL_6_21 rfl (gi_cons mL_6_22 rfl gi_nil))))))))))
set_option maxRecDepth 20000 in
theorem gg_wsX10_layer : GoodIn wsL_law wsX10_layer := gi_cons mL_26_8 rfl (goodIn_app (goodIn_app (gg_wsX10_layer_r1) (gg_wsX10_layer_r2)) (gL_wsX100))
set_option maxRecDepth 20000 in
theorem gL_law_X10_layer : GoodIn wsL_law (wsV RL 90 RX10 yX10_layer wsX10_layer) := goodIn_app (gi_cons mL_26_5 rfl (gi_cons mL_26_6 rfl (gi_cons mL_26_7 rfl (gi_cons mL_1_5 rfl gi_nil)))) gg_wsX10_layer
set_option maxRecDepth 20000 in
theorem gg_wsX9_bare : GoodIn wsL_law wsX9_bare := gi_cons mL_26_16 rfl (goodIn_app (goodIn_app (gi_cons mL_1_21 rfl (gi_cons mL_25_16 rfl (gi_cons mL_19_20 rfl (gi_cons mL_19_21 rfl (gi_cons mL_1_2 rfl (gi_cons mL_19_22 rfl gi_nil)))))) (gL_wsX90)) (gL_wsX20))
set_option maxRecDepth 20000 in
theorem gL_law_X9_bare : GoodIn wsL_law (wsV RL 91 RX9 yX9_bare wsX9_bare) := goodIn_app (gi_cons mL_26_13 rfl (gi_cons mL_26_14 rfl (gi_cons mL_26_15 rfl (gi_cons mL_1_2 rfl gi_nil)))) gg_wsX9_bare
set_option maxRecDepth 20000 in
theorem gg_wsX10_bare : GoodIn wsL_law wsX10_bare := gi_cons mL_26_20 rfl (goodIn_app (gi_cons mL_6_20 rfl (gi_cons mL_20_15 rfl (gi_cons mL_20_16 rfl (gi_cons mL_1_5 rfl (gi_cons mL_20_17 rfl (gi_cons mL_8_13 rfl (gi_cons mL_8_14 rfl (gi_cons mL_8_15 rfl gi_nil)))))))) (gL_wsX100))
set_option maxRecDepth 20000 in
theorem gL_law_X10_bare : GoodIn wsL_law (wsV RL 94 RX10 yX10_bare wsX10_bare) := goodIn_app (gi_cons mL_26_17 rfl (gi_cons mL_26_18 rfl (gi_cons mL_26_19 rfl (gi_cons mL_1_5 rfl gi_nil)))) gg_wsX10_bare
set_option maxRecDepth 20000 in
theorem gg_wsX9_layerTold : GoodIn wsL_law wsX9_layerTold := gi_cons mL_27_0 rfl (goodIn_app (goodIn_app (gi_cons mL_1_21 rfl (gi_cons mL_25_16 rfl (gi_cons mL_19_20 rfl (gi_cons mL_19_21 rfl (gi_cons mL_1_2 rfl (gi_cons mL_19_22 rfl (gi_cons mL_27_1 rfl (gi_cons mL_27_2 rfl (gi_cons mL_27_3 rfl (gi_cons mL_1_23 rfl (gi_cons mL_27_4 rfl (gi_cons mL_4_11 rfl (gi_cons mL_4_12 rfl (gi_cons mL_4_13 rfl gi_nil)))))))))))))) (gL_wsX90)) (gL_wsX20))
set_option maxRecDepth 20000 in
theorem gL_law_X9_layerTold : GoodIn wsL_law (wsV RL 95 RX9 yX9_layerTold wsX9_layerTold) := goodIn_app (gi_cons mL_26_21 rfl (gi_cons mL_26_22 rfl (gi_cons mL_26_23 rfl (gi_cons mL_1_2 rfl gi_nil)))) gg_wsX9_layerTold
set_option maxRecDepth 20000 in
theorem gg_wsX10_layerTold : GoodIn wsL_law wsX10_layerTold := gi_cons mL_27_8 rfl (goodIn_app (gi_cons mL_6_20 rfl (gi_cons mL_6_21 rfl (gi_cons mL_6_22 rfl (gi_cons mL_6_23 rfl (gi_cons mL_20_15 rfl (gi_cons mL_20_16 rfl (gi_cons mL_1_5 rfl (gi_cons mL_20_17 rfl (gi_cons mL_8_13 rfl (gi_cons mL_8_14 rfl (gi_cons mL_8_15 rfl gi_nil))))))))))) (gL_wsX100))
set_option maxRecDepth 20000 in
theorem gL_law_X10_layerTold : GoodIn wsL_law (wsV RL 98 RX10 yX10_layerTold wsX10_layerTold) := goodIn_app (gi_cons mL_27_5 rfl (gi_cons mL_27_6 rfl (gi_cons mL_27_7 rfl (gi_cons mL_1_5 rfl gi_nil)))) gg_wsX10_layerTold
set_option maxRecDepth 20000 in
theorem gg_wsX9_faded_r1 : GoodIn wsL_law wsX9_faded_r1 := gi_cons mL_1_21 rfl (gi_cons mL_19_20 rfl (gi_cons mL_19_21 rfl (gi_cons mL_1_2 rfl (gi_cons mL_19_22 rfl (gi_cons mL_27_13 rfl (gi_cons mL_27_14 rfl (gi_cons mL_27_15 rfl (gi_cons mL_27_16 rfl (gi_cons mL_25_16 rfl (gi_cons mL_27_17 rfl (gi_cons mL_22_0 rfl (gi_cons mL_27_18 rfl (gi_cons mL_27_19 rfl (gi_cons mL_27_20 rfl (gi_cons mL_27_21 rfl (gi_cons mL_1_19 rfl (gi_cons mL_27_22 rfl (gi_cons mL_27_23 rfl (gi_cons mL_22_1 rfl (gi_cons mL_17_14 rfl (gi_cons mL_17_15 rfl (gi_cons mL_1_18 rfl (gi_cons mL_17_16 rfl gi_nil)))))))))))))))))))))))
set_option maxRecDepth 20000 in
theorem gg_wsX9_faded_r2 : GoodIn wsL_law wsX9_faded_r2 := gi_cons mL_3_22 rfl (gi_cons mL_3_19 rfl (gi_cons mL_3_21 rfl (gi_cons mL_28_0 rfl (gi_cons mL_28_1 rfl (gi_cons mL_28_2 rfl (gi_cons mL_28_3 rfl (gi_cons mL_22_3 rfl (gi_cons mL_17_18 rfl (gi_cons mL_17_19 rfl (gi_cons mL_17_20 rfl (gi_cons mL_17_21 rfl (gi_cons mL_17_22 rfl (gi_cons mL_17_23 rfl gi_nil)))))))))))))
set_option maxRecDepth 20000 in
theorem gg_wsX9_faded : GoodIn wsL_law wsX9_faded := gi_cons mL_27_12 rfl (goodIn_app (goodIn_app (goodIn_app (goodIn_app (gg_wsX9_faded_r1) (gg_wsX9_faded_r2)) (gL_wsX90)) (gL_wsX20)) (gL_wsX80))
set_option maxRecDepth 20000 in
theorem gL_law_X9_faded : GoodIn wsL_law (wsV RL 99 RX9 yX9_faded wsX9_faded) := goodIn_app (gi_cons mL_27_9 rfl (gi_cons mL_27_10 rfl (gi_cons mL_27_11 rfl (gi_cons mL_1_2 rfl gi_nil)))) gg_wsX9_faded
set_option maxRecDepth 20000 in
theorem gg_wsX10_faded : GoodIn wsL_law wsX10_faded := gi_cons mL_28_7 rfl (goodIn_app (gi_cons mL_20_15 rfl (gi_cons mL_20_16 rfl (gi_cons mL_1_5 rfl (gi_cons mL_20_17 rfl (gi_cons mL_8_13 rfl (gi_cons mL_8_14 rfl (gi_cons mL_8_15 rfl (gi_cons mL_28_8 rfl (gi_cons mL_28_9 rfl (gi_cons mL_28_10 rfl (gi_cons mL_28_11 rfl (gi_cons mL_6_18 rfl (gi_cons mL_6_20 rfl (gi_cons mL_6_21 rfl (gi_cons mL_6_22 rfl (gi_cons mL_6_23 rfl (gi_cons mL_22_19 rfl (gi_cons mL_22_20 rfl (gi_cons mL_22_21 rfl (gi_cons mL_22_22 rfl (gi_cons mL_6_11 rfl (gi_cons mL_6_6 rfl (gi_cons mL_6_12 rfl gi_nil))))))))))))))))))))))) (gL_wsX100))
set_option maxRecDepth 20000 in
theorem gL_law_X10_faded : GoodIn wsL_law (wsV RL 102 RX10 yX10_faded wsX10_faded) := goodIn_app (gi_cons mL_28_4 rfl (gi_cons mL_28_5 rfl (gi_cons mL_28_6 rfl (gi_cons mL_1_5 rfl gi_nil)))) gg_wsX10_faded
set_option maxRecDepth 20000 in
theorem gg_wsX9_two_r1 : GoodIn wsL_law wsX9_two_r1 := gi_cons mL_1_21 rfl (gi_cons mL_2_19 rfl (gi_cons mL_2_20 rfl (gi_cons mL_3_0 rfl (gi_cons mL_25_16 rfl (gi_cons mL_28_16 rfl (gi_cons mL_28_17 rfl (gi_cons mL_28_18 rfl (gi_cons mL_28_19 rfl (gi_cons mL_19_20 rfl (gi_cons mL_19_21 rfl (gi_cons mL_1_2 rfl (gi_cons mL_19_22 rfl (gi_cons mL_21_13 rfl (gi_cons mL_21_14 rfl (gi_cons mL_21_15 rfl (gi_cons mL_23_6 rfl (gi_cons mL_23_7 rfl (gi_cons mL_23_8 rfl (gi_cons mL_23_9 rfl (gi_cons mL_23_10 rfl (gi_cons mL_1_19 rfl (gi_cons mL_23_11 rfl (gi_cons mL_23_12 rfl gi_nil)))))))))))))))))))))))
set_option maxRecDepth 20000 in
theorem gg_wsX9_two_r2 : GoodIn wsL_law wsX9_two_r2 := gi_cons mL_23_13 rfl (gi_cons mL_23_14 rfl (gi_cons mL_1_18 rfl (gi_cons mL_23_15 rfl (gi_cons mL_4_5 rfl (gi_cons mL_23_16 rfl (gi_cons mL_14_4 rfl (gi_cons mL_14_5 rfl (gi_cons mL_14_6 rfl (gi_cons mL_12_13 rfl (gi_cons mL_21_16 rfl (gi_cons mL_21_17 rfl (gi_cons mL_21_18 rfl (gi_cons mL_21_19 rfl (gi_cons mL_3_22 rfl (gi_cons mL_21_20 rfl (gi_cons mL_21_21 rfl (gi_cons mL_21_22 rfl (gi_cons mL_21_23 rfl (gi_cons mL_22_0 rfl (gi_cons mL_22_1 rfl (gi_cons mL_17_14 rfl (gi_cons mL_17_15 rfl (gi_cons mL_17_16 rfl gi_nil)))))))))))))))))))))))
set_option maxRecDepth 20000 in
theorem gg_wsX9_two_r3 : GoodIn wsL_law wsX9_two_r3 := gi_cons mL_3_19 rfl (gi_cons mL_3_21 rfl (gi_cons mL_22_2 rfl (gi_cons mL_20_7 rfl (gi_cons mL_20_8 rfl (gi_cons mL_1_23 rfl (gi_cons mL_20_9 rfl (gi_cons mL_4_10 rfl (gi_cons mL_22_3 rfl (gi_cons mL_17_18 rfl (gi_cons mL_17_19 rfl (gi_cons mL_17_20 rfl (gi_cons mL_17_21 rfl (gi_cons mL_17_22 rfl (gi_cons mL_17_23 rfl (gi_cons mL_23_17 rfl (gi_cons mL_23_18 rfl (gi_cons mL_23_19 rfl (gi_cons mL_23_20 rfl (gi_cons mL_23_21 rfl (gi_cons mL_23_22 rfl (gi_cons mL_23_23 rfl (gi_cons mL_2_18 rfl (gi_cons mL_24_0 rfl gi_nil)))))))))))))))))))))))
set_option maxRecDepth 20000 in
theorem gg_wsX9_two_r4 : GoodIn wsL_law wsX9_two_r4 := gi_cons mL_5_18 rfl (gi_cons mL_24_1 rfl (gi_cons mL_5_19 rfl (gi_cons mL_5_20 rfl (gi_cons mL_5_21 rfl (gi_cons mL_28_20 rfl (gi_cons mL_28_21 rfl (gi_cons mL_28_22 rfl (gi_cons mL_2_23 rfl (gi_cons mL_28_23 rfl (gi_cons mL_29_0 rfl (gi_cons mL_29_1 rfl (gi_cons mL_29_2 rfl (gi_cons mL_29_3 rfl (gi_cons mL_29_4 rfl (gi_cons mL_29_5 rfl (gi_cons mL_29_6 rfl (gi_cons mL_29_7 rfl (gi_cons mL_29_8 rfl (gi_cons mL_29_9 rfl (gi_cons mL_29_10 rfl (gi_cons mL_29_11 rfl (gi_cons mL_29_12 rfl (gi_cons mL_29_13 rfl gi_nil)))))))))))))))))))))))
set_option maxRecDepth 20000 in
theorem gg_wsX9_two_r5 : GoodIn wsL_law wsX9_two_r5 := gi_cons mL_29_14 rfl (gi_cons mL_29_15 rfl (gi_cons mL_29_16 rfl (gi_cons mL_29_17 rfl (gi_cons mL_29_18 rfl (gi_cons mL_29_19 rfl (gi_cons mL_29_20 rfl (gi_cons mL_29_21 rfl (gi_cons mL_29_22 rfl (gi_cons mL_23_5 rfl (gi_cons mL_23_3 rfl (gi_cons mL_26_1 rfl (gi_cons mL_26_2 rfl (gi_cons mL_26_3 rfl (gi_cons mL_26_4 rfl (gi_cons mL_4_11 rfl (gi_cons mL_16_8 rfl (gi_cons mL_4_12 rfl (gi_cons mL_4_13 rfl gi_nil))))))))))))))))))
set_option maxRecDepth 20000 in
theorem gg_wsX9_two : GoodIn wsL_law wsX9_two := gi_cons mL_28_15 rfl (goodIn_app (goodIn_app (goodIn_app (goodIn_app (goodIn_app (goodIn_app (gg_wsX9_two_r1) (goodIn_app (gg_wsX9_two_r2) (goodIn_app (gg_wsX9_two_r3) (goodIn_app (gg_wsX9_two_r4) (gg_wsX9_two_r5))))) (gL_wsX90)) (gL_wsX20)) (gL_wsX30)) (gL_wsX40)) (gL_wsX80))
set_option maxRecDepth 20000 in
theorem gL_law_X9_two : GoodIn wsL_law (wsV RL 103 RX9 yX9_two wsX9_two) := goodIn_app (gi_cons mL_28_12 rfl (gi_cons mL_28_13 rfl (gi_cons mL_28_14 rfl (gi_cons mL_1_2 rfl gi_nil)))) gg_wsX9_two
set_option maxRecDepth 20000 in
theorem gg_wsX10_two_r1 : GoodIn wsL_law wsX10_two_r1 := gi_cons mL_30_3 rfl (gi_cons mL_13_10 rfl (gi_cons mL_6_20 rfl (gi_cons mL_7_0 rfl (gi_cons mL_20_15 rfl (gi_cons mL_20_16 rfl (gi_cons mL_1_5 rfl (gi_cons mL_20_17 rfl (gi_cons mL_8_13 rfl (gi_cons mL_8_14 rfl (gi_cons mL_8_15 rfl (gi_cons mL_22_8 rfl (gi_cons mL_22_9 rfl (gi_cons mL_22_10 rfl (gi_cons mL_30_4 rfl (gi_cons mL_30_5 rfl (gi_cons mL_30_6 rfl (gi_cons mL_30_7 rfl (gi_cons mL_6_21 rfl (gi_cons mL_7_1 rfl (gi_cons mL_6_22 rfl (gi_cons mL_6_23 rfl (gi_cons mL_30_8 rfl (gi_cons mL_30_9 rfl gi_nil)))))))))))))))))))))))
set_option maxRecDepth 20000 in
theorem gg_wsX10_two_r2 : GoodIn wsL_law wsX10_two_r2 := gi_cons mL_30_10 rfl (gi_cons mL_30_11 rfl (gi_cons mL_6_13 rfl (gi_cons mL_22_11 rfl (gi_cons mL_22_12 rfl (gi_cons mL_22_13 rfl (gi_cons mL_22_14 rfl (gi_cons mL_6_11 rfl (gi_cons mL_22_15 rfl (gi_cons mL_22_16 rfl (gi_cons mL_22_17 rfl (gi_cons mL_22_18 rfl (gi_cons mL_6_18 rfl (gi_cons mL_22_19 rfl (gi_cons mL_22_20 rfl (gi_cons mL_22_21 rfl (gi_cons mL_22_22 rfl (gi_cons mL_6_6 rfl (gi_cons mL_6_12 rfl (gi_cons mL_30_12 rfl (gi_cons mL_30_13 rfl (gi_cons mL_30_14 rfl (gi_cons mL_30_15 rfl (gi_cons mL_26_9 rfl gi_nil)))))))))))))))))))))))
set_option maxRecDepth 20000 in
theorem gg_wsX10_two_r3 : GoodIn wsL_law wsX10_two_r3 := gi_cons mL_26_10 rfl (gi_cons mL_26_11 rfl (gi_cons mL_26_12 rfl (gi_cons mL_28_8 rfl (gi_cons mL_28_9 rfl (gi_cons mL_28_10 rfl (gi_cons mL_28_11 rfl gi_nil))))))
set_option maxRecDepth 20000 in
theorem gg_wsX10_two : GoodIn wsL_law wsX10_two := gi_cons mL_30_2 rfl (goodIn_app (goodIn_app (gg_wsX10_two_r1) (goodIn_app (gg_wsX10_two_r2) (gg_wsX10_two_r3))) (gL_wsX100))
set_option maxRecDepth 20000 in
theorem gL_law_X10_two : GoodIn wsL_law (wsV RL 106 RX10 yX10_two wsX10_two) := goodIn_app (gi_cons mL_29_23 rfl (gi_cons mL_30_0 rfl (gi_cons mL_30_1 rfl (gi_cons mL_1_5 rfl gi_nil)))) gg_wsX10_two
set_option maxRecDepth 20000 in
theorem gg_wsX9_renumber : GoodIn wsL_law wsX9_renumber := gi_cons mL_30_19 rfl (goodIn_app (goodIn_app (gi_cons mL_2_3 rfl (gi_cons mL_30_20 rfl (gi_cons mL_14_7 rfl (gi_cons mL_14_8 rfl (gi_cons mL_2_2 rfl (gi_cons mL_14_9 rfl (gi_cons mL_30_21 rfl (gi_cons mL_30_22 rfl (gi_cons mL_30_23 rfl (gi_cons mL_31_0 rfl (gi_cons mL_31_1 rfl (gi_cons mL_4_17 rfl (gi_cons mL_31_2 rfl (gi_cons mL_31_3 rfl (gi_cons mL_31_4 rfl (gi_cons mL_31_5 rfl (gi_cons mL_31_6 rfl (gi_cons mL_31_7 rfl (gi_cons mL_31_8 rfl (gi_cons mL_31_9 rfl (gi_cons mL_4_18 rfl (gi_cons mL_4_19 rfl gi_nil)))))))))))))))))))))) (gL_wsX90)) (gL_wsX60))
set_option maxRecDepth 20000 in
theorem gL_law_X9_renumber : GoodIn wsL_law (wsV RL 107 RX9 yX9_renumber wsX9_renumber) := goodIn_app (gi_cons mL_30_16 rfl (gi_cons mL_30_17 rfl (gi_cons mL_30_18 rfl (gi_cons mL_1_2 rfl gi_nil)))) gg_wsX9_renumber
set_option maxRecDepth 20000 in
theorem gg_wsX10_renumber : GoodIn wsL_law wsX10_renumber := gi_cons mL_31_13 rfl (goodIn_app (gi_cons mL_31_14 rfl (gi_cons mL_7_2 rfl (gi_cons mL_7_3 rfl (gi_cons mL_7_4 rfl (gi_cons mL_14_22 rfl (gi_cons mL_14_23 rfl (gi_cons mL_1_5 rfl (gi_cons mL_15_0 rfl (gi_cons mL_8_13 rfl (gi_cons mL_8_14 rfl (gi_cons mL_8_15 rfl gi_nil))))))))))) (gL_wsX100))
set_option maxRecDepth 20000 in
theorem gL_law_X10_renumber : GoodIn wsL_law (wsV RL 110 RX10 yX10_renumber wsX10_renumber) := goodIn_app (gi_cons mL_31_10 rfl (gi_cons mL_31_11 rfl (gi_cons mL_31_12 rfl (gi_cons mL_1_5 rfl gi_nil)))) gg_wsX10_renumber
set_option maxRecDepth 20000 in
theorem gg_wsX9_number : GoodIn wsL_law wsX9_number := gi_cons mL_31_18 rfl (goodIn_app (goodIn_app (gi_cons mL_2_3 rfl (gi_cons mL_14_0 rfl (gi_cons mL_14_1 rfl (gi_cons mL_2_2 rfl (gi_cons mL_14_2 rfl (gi_cons mL_14_7 rfl (gi_cons mL_14_8 rfl (gi_cons mL_14_9 rfl (gi_cons mL_31_19 rfl (gi_cons mL_31_20 rfl (gi_cons mL_31_21 rfl (gi_cons mL_31_22 rfl (gi_cons mL_31_1 rfl (gi_cons mL_4_17 rfl (gi_cons mL_4_18 rfl (gi_cons mL_4_19 rfl (gi_cons mL_31_23 rfl (gi_cons mL_32_0 rfl (gi_cons mL_24_12 rfl (gi_cons mL_32_1 rfl (gi_cons mL_32_2 rfl (gi_cons mL_24_11 rfl (gi_cons mL_24_13 rfl gi_nil))))))))))))))))))))))) (gL_wsX90)) (gL_wsX60))
set_option maxRecDepth 20000 in
theorem gL_law_X9_number : GoodIn wsL_law (wsV RL 111 RX9 yX9_number wsX9_number) := goodIn_app (gi_cons mL_31_15 rfl (gi_cons mL_31_16 rfl (gi_cons mL_31_17 rfl (gi_cons mL_1_2 rfl gi_nil)))) gg_wsX9_number
set_option maxRecDepth 20000 in
theorem gg_wsX10_number : GoodIn wsL_law wsX10_number := gi_cons mL_32_6 rfl (goodIn_app (gi_cons mL_14_19 rfl (gi_cons mL_14_20 rfl (gi_cons mL_1_5 rfl (gi_cons mL_14_21 rfl (gi_cons mL_8_13 rfl (gi_cons mL_8_14 rfl (gi_cons mL_8_15 rfl (gi_cons mL_14_22 rfl (gi_cons mL_14_23 rfl (gi_cons mL_15_0 rfl (gi_cons mL_32_7 rfl (gi_cons mL_32_8 rfl (gi_cons mL_32_9 rfl (gi_cons mL_32_10 rfl (gi_cons mL_31_14 rfl (gi_cons mL_7_2 rfl (gi_cons mL_7_3 rfl (gi_cons mL_7_4 rfl gi_nil)))))))))))))))))) (gL_wsX100))
set_option maxRecDepth 20000 in
theorem gL_law_X10_number : GoodIn wsL_law (wsV RL 114 RX10 yX10_number wsX10_number) := goodIn_app (gi_cons mL_32_3 rfl (gi_cons mL_32_4 rfl (gi_cons mL_32_5 rfl (gi_cons mL_1_5 rfl gi_nil)))) gg_wsX10_number
set_option maxRecDepth 20000 in
theorem gg_wsX9_address : GoodIn wsL_law wsX9_address := gi_cons mL_32_14 rfl (goodIn_app (goodIn_app (gi_cons mL_2_3 rfl (gi_cons mL_32_15 rfl (gi_cons mL_32_16 rfl (gi_cons mL_14_0 rfl (gi_cons mL_14_1 rfl (gi_cons mL_2_2 rfl (gi_cons mL_14_2 rfl (gi_cons mL_14_7 rfl (gi_cons mL_14_8 rfl (gi_cons mL_14_9 rfl gi_nil)))))))))) (gL_wsX90)) (gL_wsX60))
set_option maxRecDepth 20000 in
theorem gL_law_X9_address : GoodIn wsL_law (wsV RL 115 RX9 yX9_address wsX9_address) := goodIn_app (gi_cons mL_32_11 rfl (gi_cons mL_32_12 rfl (gi_cons mL_32_13 rfl (gi_cons mL_1_2 rfl gi_nil)))) gg_wsX9_address
set_option maxRecDepth 20000 in
theorem gg_wsX10_address : GoodIn wsL_law wsX10_address := gi_cons mL_32_20 rfl (goodIn_app (gi_cons mL_7_5 rfl (gi_cons mL_7_6 rfl (gi_cons mL_14_19 rfl (gi_cons mL_14_20 rfl (gi_cons mL_1_5 rfl (gi_cons mL_14_21 rfl (gi_cons mL_8_13 rfl (gi_cons mL_8_14 rfl (gi_cons mL_8_15 rfl (gi_cons mL_14_22 rfl (gi_cons mL_14_23 rfl (gi_cons mL_15_0 rfl gi_nil)))))))))))) (gL_wsX100))
set_option maxRecDepth 20000 in
theorem gL_law_X10_address : GoodIn wsL_law (wsV RL 118 RX10 yX10_address wsX10_address) := goodIn_app (gi_cons mL_32_17 rfl (gi_cons mL_32_18 rfl (gi_cons mL_32_19 rfl (gi_cons mL_1_5 rfl gi_nil)))) gg_wsX10_address
set_option maxRecDepth 20000 in
theorem gg_wsX9_span_r1 : GoodIn wsL_law wsX9_span_r1 := gi_cons mL_1_19 rfl (gi_cons mL_13_23 rfl (gi_cons mL_14_3 rfl (gi_cons mL_14_4 rfl (gi_cons mL_14_5 rfl (gi_cons mL_1_18 rfl (gi_cons mL_14_6 rfl (gi_cons mL_12_13 rfl (gi_cons mL_8_23 rfl (gi_cons mL_9_0 rfl (gi_cons mL_9_1 rfl (gi_cons mL_1_2 rfl (gi_cons mL_9_2 rfl (gi_cons mL_9_3 rfl (gi_cons mL_3_3 rfl (gi_cons mL_33_1 rfl (gi_cons mL_33_2 rfl (gi_cons mL_33_3 rfl (gi_cons mL_33_4 rfl (gi_cons mL_33_5 rfl (gi_cons mL_15_15 rfl (gi_cons mL_2_3 rfl (gi_cons mL_32_15 rfl (gi_cons mL_32_16 rfl gi_nil)))))))))))))))))))))))
set_option maxRecDepth 20000 in
theorem gg_wsX9_span_r2 : GoodIn wsL_law wsX9_span_r2 := gi_cons mL_15_13 rfl (gi_cons mL_15_14 rfl (gi_cons mL_31_19 rfl (gi_cons mL_31_20 rfl (gi_cons mL_31_21 rfl (gi_cons mL_2_2 rfl (gi_cons mL_31_22 rfl (gi_cons mL_31_1 rfl (gi_cons mL_4_17 rfl (gi_cons mL_4_18 rfl (gi_cons mL_4_19 rfl (gi_cons mL_31_23 rfl (gi_cons mL_32_0 rfl (gi_cons mL_24_12 rfl (gi_cons mL_32_1 rfl (gi_cons mL_32_2 rfl (gi_cons mL_24_11 rfl (gi_cons mL_24_13 rfl (gi_cons mL_33_6 rfl (gi_cons mL_33_7 rfl (gi_cons mL_33_8 rfl (gi_cons mL_33_9 rfl (gi_cons mL_33_10 rfl (gi_cons mL_33_11 rfl gi_nil)))))))))))))))))))))))
set_option maxRecDepth 20000 in
theorem gg_wsX9_span_r3 : GoodIn wsL_law wsX9_span_r3 := gi_cons mL_33_12 rfl (gi_cons mL_33_13 rfl gi_nil)
set_option maxRecDepth 20000 in
theorem gg_wsX9_span : GoodIn wsL_law wsX9_span := gi_cons mL_33_0 rfl (goodIn_app (goodIn_app (goodIn_app (goodIn_app (gg_wsX9_span_r1) (goodIn_app (gg_wsX9_span_r2) (gg_wsX9_span_r3))) (gL_wsX90)) (gL_wsX80)) (gL_wsX60))
set_option maxRecDepth 20000 in
theorem gL_law_X9_span : GoodIn wsL_law (wsV RL 119 RX9 yX9_span wsX9_span) := goodIn_app (gi_cons mL_32_21 rfl (gi_cons mL_32_22 rfl (gi_cons mL_32_23 rfl (gi_cons mL_1_2 rfl gi_nil)))) gg_wsX9_span
set_option maxRecDepth 20000 in
theorem gg_wsX10_span_r1 : GoodIn wsL_law wsX10_span_r1 := gi_cons mL_16_17 rfl (gi_cons mL_16_18 rfl (gi_cons mL_16_19 rfl (gi_cons mL_1_5 rfl (gi_cons mL_16_20 rfl (gi_cons mL_6_13 rfl (gi_cons mL_15_1 rfl (gi_cons mL_15_2 rfl (gi_cons mL_15_3 rfl (gi_cons mL_15_4 rfl (gi_cons mL_13_10 rfl (gi_cons mL_8_13 rfl (gi_cons mL_8_14 rfl (gi_cons mL_8_15 rfl (gi_cons mL_9_18 rfl (gi_cons mL_9_19 rfl (gi_cons mL_9_20 rfl (gi_cons mL_9_21 rfl (gi_cons mL_9_22 rfl (gi_cons mL_6_5 rfl (gi_cons mL_33_18 rfl (gi_cons mL_33_19 rfl (gi_cons mL_33_20 rfl (gi_cons mL_33_21 rfl gi_nil)))))))))))))))))))))))
set_option maxRecDepth 20000 in
theorem gg_wsX10_span_r2 : GoodIn wsL_law wsX10_span_r2 := gi_cons mL_6_10 rfl (gi_cons mL_6_16 rfl (gi_cons mL_7_6 rfl (gi_cons mL_7_5 rfl (gi_cons mL_6_14 rfl (gi_cons mL_6_15 rfl (gi_cons mL_32_7 rfl (gi_cons mL_32_8 rfl (gi_cons mL_32_9 rfl (gi_cons mL_32_10 rfl (gi_cons mL_31_14 rfl (gi_cons mL_7_2 rfl (gi_cons mL_7_3 rfl (gi_cons mL_7_4 rfl (gi_cons mL_33_22 rfl (gi_cons mL_33_23 rfl (gi_cons mL_34_0 rfl (gi_cons mL_34_1 rfl gi_nil)))))))))))))))))
set_option maxRecDepth 20000 in
theorem gg_wsX10_span : GoodIn wsL_law wsX10_span := gi_cons mL_33_17 rfl (goodIn_app (goodIn_app (gg_wsX10_span_r1) (gg_wsX10_span_r2)) (gL_wsX100))
set_option maxRecDepth 20000 in
theorem gL_law_X10_span : GoodIn wsL_law (wsV RL 123 RX10 yX10_span wsX10_span) := goodIn_app (gi_cons mL_33_14 rfl (gi_cons mL_33_15 rfl (gi_cons mL_33_16 rfl (gi_cons mL_1_5 rfl gi_nil)))) gg_wsX10_span
set_option maxRecDepth 20000 in
theorem gg_wsX9_agrees_r1 : GoodIn wsL_law wsX9_agrees_r1 := gi_cons mL_1_21 rfl (gi_cons mL_25_16 rfl (gi_cons mL_27_22 rfl (gi_cons mL_34_6 rfl (gi_cons mL_32_0 rfl (gi_cons mL_24_12 rfl (gi_cons mL_32_1 rfl (gi_cons mL_19_20 rfl (gi_cons mL_19_21 rfl (gi_cons mL_1_2 rfl (gi_cons mL_19_22 rfl (gi_cons mL_33_10 rfl (gi_cons mL_33_11 rfl (gi_cons mL_33_12 rfl (gi_cons mL_33_13 rfl (gi_cons mL_1_19 rfl (gi_cons mL_33_5 rfl (gi_cons mL_15_14 rfl (gi_cons mL_33_1 rfl (gi_cons mL_33_2 rfl (gi_cons mL_33_3 rfl (gi_cons mL_33_4 rfl (gi_cons mL_15_15 rfl (gi_cons mL_2_3 rfl gi_nil)))))))))))))))))))))))
set_option maxRecDepth 20000 in
theorem gg_wsX9_agrees_r2 : GoodIn wsL_law wsX9_agrees_r2 := gi_cons mL_32_15 rfl (gi_cons mL_32_16 rfl (gi_cons mL_15_13 rfl (gi_cons mL_31_19 rfl (gi_cons mL_31_20 rfl (gi_cons mL_31_21 rfl (gi_cons mL_2_2 rfl (gi_cons mL_31_22 rfl (gi_cons mL_31_1 rfl (gi_cons mL_4_17 rfl (gi_cons mL_4_18 rfl (gi_cons mL_4_19 rfl (gi_cons mL_31_23 rfl (gi_cons mL_32_2 rfl (gi_cons mL_24_11 rfl (gi_cons mL_24_13 rfl (gi_cons mL_33_6 rfl (gi_cons mL_33_7 rfl (gi_cons mL_33_8 rfl (gi_cons mL_33_9 rfl gi_nil)))))))))))))))))))
set_option maxRecDepth 20000 in
theorem gg_wsX9_agrees : GoodIn wsL_law wsX9_agrees := gi_cons mL_34_5 rfl (goodIn_app (goodIn_app (goodIn_app (goodIn_app (goodIn_app (gg_wsX9_agrees_r1) (gg_wsX9_agrees_r2)) (gL_wsX90)) (gL_wsX20)) (gL_wsX80)) (gL_wsX60))
set_option maxRecDepth 20000 in
theorem gL_law_X9_agrees : GoodIn wsL_law (wsV RL 124 RX9 yX9_agrees wsX9_agrees) := goodIn_app (gi_cons mL_34_2 rfl (gi_cons mL_34_3 rfl (gi_cons mL_34_4 rfl (gi_cons mL_1_2 rfl gi_nil)))) gg_wsX9_agrees
set_option maxRecDepth 20000 in
theorem gg_wsX10_agrees_r1 : GoodIn wsL_law wsX10_agrees_r1 := gi_cons mL_6_20 rfl (gi_cons mL_6_21 rfl (gi_cons mL_20_15 rfl (gi_cons mL_20_16 rfl (gi_cons mL_1_5 rfl (gi_cons mL_20_17 rfl (gi_cons mL_8_13 rfl (gi_cons mL_8_14 rfl (gi_cons mL_8_15 rfl (gi_cons mL_33_22 rfl (gi_cons mL_33_23 rfl (gi_cons mL_34_0 rfl (gi_cons mL_34_1 rfl (gi_cons mL_6_10 rfl (gi_cons mL_6_16 rfl (gi_cons mL_6_15 rfl (gi_cons mL_33_18 rfl (gi_cons mL_33_19 rfl (gi_cons mL_33_20 rfl (gi_cons mL_33_21 rfl (gi_cons mL_7_6 rfl (gi_cons mL_7_5 rfl (gi_cons mL_6_14 rfl (gi_cons mL_32_7 rfl gi_nil)))))))))))))))))))))))
set_option maxRecDepth 20000 in
theorem gg_wsX10_agrees_r2 : GoodIn wsL_law wsX10_agrees_r2 := gi_cons mL_32_8 rfl (gi_cons mL_32_9 rfl (gi_cons mL_32_10 rfl (gi_cons mL_31_14 rfl (gi_cons mL_7_2 rfl (gi_cons mL_7_3 rfl (gi_cons mL_7_4 rfl gi_nil))))))
set_option maxRecDepth 20000 in
theorem gg_wsX10_agrees : GoodIn wsL_law wsX10_agrees := gi_cons mL_34_10 rfl (goodIn_app (goodIn_app (gg_wsX10_agrees_r1) (gg_wsX10_agrees_r2)) (gL_wsX100))
set_option maxRecDepth 20000 in
theorem gL_law_X10_agrees : GoodIn wsL_law (wsV RL 127 RX10 yX10_agrees wsX10_agrees) := goodIn_app (gi_cons mL_34_7 rfl (gi_cons mL_34_8 rfl (gi_cons mL_34_9 rfl (gi_cons mL_1_5 rfl gi_nil)))) gg_wsX10_agrees
set_option maxRecDepth 20000 in
theorem gg_wsX9_light_r1 : GoodIn wsL_law wsX9_light_r1 := gi_cons mL_2_7 rfl (gi_cons mL_34_15 rfl (gi_cons mL_34_16 rfl (gi_cons mL_34_17 rfl (gi_cons mL_2_6 rfl (gi_cons mL_34_18 rfl (gi_cons mL_19_20 rfl (gi_cons mL_19_21 rfl (gi_cons mL_1_2 rfl (gi_cons mL_19_22 rfl (gi_cons mL_7_23 rfl (gi_cons mL_8_0 rfl (gi_cons mL_8_1 rfl (gi_cons mL_34_19 rfl (gi_cons mL_34_20 rfl (gi_cons mL_34_21 rfl (gi_cons mL_34_22 rfl (gi_cons mL_34_23 rfl (gi_cons mL_19_23 rfl (gi_cons mL_20_0 rfl (gi_cons mL_20_1 rfl (gi_cons mL_8_23 rfl (gi_cons mL_9_0 rfl (gi_cons mL_9_1 rfl gi_nil)))))))))))))))))))))))
set_option maxRecDepth 20000 in
theorem gg_wsX9_light_r2 : GoodIn wsL_law wsX9_light_r2 := gi_cons mL_9_2 rfl (gi_cons mL_9_3 rfl (gi_cons mL_3_3 rfl (gi_cons mL_35_0 rfl (gi_cons mL_35_1 rfl (gi_cons mL_35_2 rfl (gi_cons mL_35_3 rfl (gi_cons mL_5_1 rfl (gi_cons mL_5_2 rfl (gi_cons mL_5_3 rfl (gi_cons mL_5_4 rfl gi_nil))))))))))
set_option maxRecDepth 20000 in
theorem gg_wsX9_light : GoodIn wsL_law wsX9_light := gi_cons mL_34_14 rfl (goodIn_app (goodIn_app (goodIn_app (gg_wsX9_light_r1) (gg_wsX9_light_r2)) (gL_wsX90)) (gL_wsX10))
set_option maxRecDepth 20000 in
theorem gL_law_X9_light : GoodIn wsL_law (wsV RL 128 RX9 yX9_light wsX9_light) := goodIn_app (gi_cons mL_34_11 rfl (gi_cons mL_34_12 rfl (gi_cons mL_34_13 rfl (gi_cons mL_1_2 rfl gi_nil)))) gg_wsX9_light
set_option maxRecDepth 20000 in
theorem gg_wsX10_light : GoodIn wsL_law wsX10_light := gi_cons mL_35_7 rfl (goodIn_app (gi_cons mL_35_8 rfl (gi_cons mL_7_7 rfl (gi_cons mL_7_8 rfl (gi_cons mL_7_9 rfl (gi_cons mL_7_10 rfl (gi_cons mL_8_13 rfl (gi_cons mL_8_14 rfl (gi_cons mL_1_5 rfl (gi_cons mL_8_15 rfl (gi_cons mL_20_15 rfl (gi_cons mL_20_16 rfl (gi_cons mL_20_17 rfl (gi_cons mL_20_18 rfl (gi_cons mL_20_19 rfl (gi_cons mL_20_20 rfl (gi_cons mL_9_18 rfl (gi_cons mL_9_19 rfl (gi_cons mL_9_20 rfl (gi_cons mL_9_21 rfl (gi_cons mL_9_22 rfl (gi_cons mL_6_5 rfl gi_nil))))))))))))))))))))) (gL_wsX100))
set_option maxRecDepth 20000 in
theorem gL_law_X10_light : GoodIn wsL_law (wsV RL 131 RX10 yX10_light wsX10_light) := goodIn_app (gi_cons mL_35_4 rfl (gi_cons mL_35_5 rfl (gi_cons mL_35_6 rfl (gi_cons mL_1_5 rfl gi_nil)))) gg_wsX10_light
set_option maxRecDepth 20000 in
theorem gg_wsX9_gain_r1 : GoodIn wsL_law wsX9_gain_r1 := gi_cons mL_1_21 rfl (gi_cons mL_34_16 rfl (gi_cons mL_34_17 rfl (gi_cons mL_2_6 rfl (gi_cons mL_34_18 rfl (gi_cons mL_19_20 rfl (gi_cons mL_19_21 rfl (gi_cons mL_1_2 rfl (gi_cons mL_19_22 rfl (gi_cons mL_21_13 rfl (gi_cons mL_21_14 rfl (gi_cons mL_21_15 rfl (gi_cons mL_35_13 rfl (gi_cons mL_35_14 rfl (gi_cons mL_35_15 rfl (gi_cons mL_35_16 rfl (gi_cons mL_2_19 rfl (gi_cons mL_23_10 rfl (gi_cons mL_35_17 rfl (gi_cons mL_1_19 rfl (gi_cons mL_23_5 rfl (gi_cons mL_23_3 rfl (gi_cons mL_3_2 rfl (gi_cons mL_23_6 rfl gi_nil)))))))))))))))))))))))
set_option maxRecDepth 20000 in
theorem gg_wsX9_gain_r2 : GoodIn wsL_law wsX9_gain_r2 := gi_cons mL_23_7 rfl (gi_cons mL_23_8 rfl (gi_cons mL_23_9 rfl (gi_cons mL_23_11 rfl (gi_cons mL_23_12 rfl (gi_cons mL_23_13 rfl (gi_cons mL_23_14 rfl (gi_cons mL_1_18 rfl (gi_cons mL_23_15 rfl (gi_cons mL_4_5 rfl (gi_cons mL_23_16 rfl (gi_cons mL_14_4 rfl (gi_cons mL_14_5 rfl (gi_cons mL_14_6 rfl (gi_cons mL_12_13 rfl (gi_cons mL_21_16 rfl (gi_cons mL_21_17 rfl (gi_cons mL_21_18 rfl (gi_cons mL_21_19 rfl (gi_cons mL_3_22 rfl (gi_cons mL_21_20 rfl (gi_cons mL_21_21 rfl (gi_cons mL_21_22 rfl (gi_cons mL_21_23 rfl gi_nil)))))))))))))))))))))))
set_option maxRecDepth 20000 in
theorem gg_wsX9_gain_r3 : GoodIn wsL_law wsX9_gain_r3 := gi_cons mL_22_0 rfl (gi_cons mL_22_1 rfl (gi_cons mL_17_14 rfl (gi_cons mL_17_15 rfl (gi_cons mL_17_16 rfl (gi_cons mL_3_19 rfl (gi_cons mL_3_21 rfl (gi_cons mL_22_2 rfl (gi_cons mL_20_7 rfl (gi_cons mL_20_8 rfl (gi_cons mL_1_23 rfl (gi_cons mL_20_9 rfl (gi_cons mL_4_10 rfl (gi_cons mL_22_3 rfl (gi_cons mL_17_18 rfl (gi_cons mL_17_19 rfl (gi_cons mL_17_20 rfl (gi_cons mL_17_21 rfl (gi_cons mL_17_22 rfl (gi_cons mL_17_23 rfl (gi_cons mL_23_17 rfl (gi_cons mL_23_18 rfl (gi_cons mL_23_19 rfl (gi_cons mL_23_20 rfl gi_nil)))))))))))))))))))))))
set_option maxRecDepth 20000 in
theorem gg_wsX9_gain_r4 : GoodIn wsL_law wsX9_gain_r4 := gi_cons mL_23_21 rfl (gi_cons mL_23_22 rfl (gi_cons mL_23_23 rfl (gi_cons mL_2_18 rfl (gi_cons mL_24_0 rfl (gi_cons mL_5_18 rfl (gi_cons mL_24_1 rfl (gi_cons mL_5_19 rfl (gi_cons mL_5_20 rfl (gi_cons mL_5_21 rfl (gi_cons mL_35_18 rfl (gi_cons mL_24_7 rfl (gi_cons mL_24_8 rfl (gi_cons mL_24_9 rfl (gi_cons mL_24_10 rfl (gi_cons mL_24_11 rfl (gi_cons mL_24_12 rfl (gi_cons mL_24_13 rfl (gi_cons mL_35_19 rfl (gi_cons mL_35_20 rfl (gi_cons mL_35_21 rfl (gi_cons mL_35_22 rfl (gi_cons mL_2_7 rfl (gi_cons mL_35_23 rfl gi_nil)))))))))))))))))))))))
set_option maxRecDepth 20000 in
theorem gg_wsX9_gain_r5 : GoodIn wsL_law wsX9_gain_r5 := gi_cons mL_36_0 rfl (gi_cons mL_36_1 rfl (gi_cons mL_36_2 rfl (gi_cons mL_34_23 rfl (gi_cons mL_5_1 rfl (gi_cons mL_5_2 rfl (gi_cons mL_5_3 rfl (gi_cons mL_5_4 rfl gi_nil)))))))
set_option maxRecDepth 20000 in
theorem gg_wsX9_gain : GoodIn wsL_law wsX9_gain := gi_cons mL_35_12 rfl (goodIn_app (goodIn_app (goodIn_app (goodIn_app (goodIn_app (goodIn_app (gg_wsX9_gain_r1) (goodIn_app (gg_wsX9_gain_r2) (goodIn_app (gg_wsX9_gain_r3) (goodIn_app (gg_wsX9_gain_r4) (gg_wsX9_gain_r5))))) (gL_wsX90)) (gL_wsX40)) (gL_wsX80)) (gL_wsX20)) (gL_wsX10))
set_option maxRecDepth 20000 in
theorem gL_law_X9_gain : GoodIn wsL_law (wsV RL 132 RX9 yX9_gain wsX9_gain) := goodIn_app (gi_cons mL_35_9 rfl (gi_cons mL_35_10 rfl (gi_cons mL_35_11 rfl (gi_cons mL_1_2 rfl gi_nil)))) gg_wsX9_gain
set_option maxRecDepth 20000 in
theorem gg_wsX10_gain_r1 : GoodIn wsL_law wsX10_gain_r1 := gi_cons mL_8_13 rfl (gi_cons mL_8_14 rfl (gi_cons mL_1_5 rfl (gi_cons mL_8_15 rfl (gi_cons mL_20_15 rfl (gi_cons mL_20_16 rfl (gi_cons mL_20_17 rfl (gi_cons mL_22_8 rfl (gi_cons mL_22_9 rfl (gi_cons mL_22_10 rfl (gi_cons mL_24_20 rfl (gi_cons mL_24_21 rfl (gi_cons mL_24_22 rfl (gi_cons mL_24_23 rfl (gi_cons mL_24_18 rfl (gi_cons mL_13_10 rfl (gi_cons mL_6_13 rfl (gi_cons mL_6_19 rfl (gi_cons mL_22_11 rfl (gi_cons mL_22_12 rfl (gi_cons mL_22_13 rfl (gi_cons mL_22_14 rfl (gi_cons mL_6_11 rfl (gi_cons mL_22_15 rfl gi_nil)))))))))))))))))))))))
set_option maxRecDepth 20000 in
theorem gg_wsX10_gain_r2 : GoodIn wsL_law wsX10_gain_r2 := gi_cons mL_22_16 rfl (gi_cons mL_22_17 rfl (gi_cons mL_22_18 rfl (gi_cons mL_6_18 rfl (gi_cons mL_22_19 rfl (gi_cons mL_22_20 rfl (gi_cons mL_22_21 rfl (gi_cons mL_22_22 rfl (gi_cons mL_6_6 rfl (gi_cons mL_6_12 rfl (gi_cons mL_36_7 rfl (gi_cons mL_36_8 rfl (gi_cons mL_36_9 rfl (gi_cons mL_36_10 rfl (gi_cons mL_35_8 rfl (gi_cons mL_7_7 rfl (gi_cons mL_7_8 rfl (gi_cons mL_7_9 rfl (gi_cons mL_7_10 rfl gi_nil))))))))))))))))))
set_option maxRecDepth 20000 in
theorem gg_wsX10_gain : GoodIn wsL_law wsX10_gain := gi_cons mL_36_6 rfl (goodIn_app (goodIn_app (gg_wsX10_gain_r1) (gg_wsX10_gain_r2)) (gL_wsX100))
set_option maxRecDepth 20000 in
theorem gL_law_X10_gain : GoodIn wsL_law (wsV RL 135 RX10 yX10_gain wsX10_gain) := goodIn_app (gi_cons mL_36_3 rfl (gi_cons mL_36_4 rfl (gi_cons mL_36_5 rfl (gi_cons mL_1_5 rfl gi_nil)))) gg_wsX10_gain
set_option maxRecDepth 20000 in
theorem gg_wsX9_next_r1 : GoodIn wsL_law wsX9_next_r1 := gi_cons mL_1_21 rfl (gi_cons mL_19_20 rfl (gi_cons mL_19_21 rfl (gi_cons mL_1_2 rfl (gi_cons mL_19_22 rfl (gi_cons mL_21_13 rfl (gi_cons mL_21_14 rfl (gi_cons mL_21_15 rfl (gi_cons mL_35_13 rfl (gi_cons mL_35_14 rfl (gi_cons mL_35_15 rfl (gi_cons mL_35_16 rfl (gi_cons mL_2_19 rfl (gi_cons mL_23_10 rfl (gi_cons mL_35_17 rfl (gi_cons mL_1_19 rfl (gi_cons mL_23_5 rfl (gi_cons mL_23_3 rfl (gi_cons mL_3_2 rfl (gi_cons mL_23_6 rfl (gi_cons mL_23_7 rfl (gi_cons mL_23_8 rfl (gi_cons mL_23_9 rfl (gi_cons mL_23_11 rfl gi_nil)))))))))))))))))))))))
set_option maxRecDepth 20000 in
theorem gg_wsX9_next_r2 : GoodIn wsL_law wsX9_next_r2 := gi_cons mL_23_12 rfl (gi_cons mL_23_13 rfl (gi_cons mL_23_14 rfl (gi_cons mL_1_18 rfl (gi_cons mL_23_15 rfl (gi_cons mL_4_5 rfl (gi_cons mL_23_16 rfl (gi_cons mL_14_4 rfl (gi_cons mL_14_5 rfl (gi_cons mL_14_6 rfl (gi_cons mL_12_13 rfl (gi_cons mL_21_16 rfl (gi_cons mL_21_17 rfl (gi_cons mL_21_18 rfl (gi_cons mL_21_19 rfl (gi_cons mL_3_22 rfl (gi_cons mL_21_20 rfl (gi_cons mL_21_21 rfl (gi_cons mL_21_22 rfl (gi_cons mL_21_23 rfl (gi_cons mL_22_0 rfl (gi_cons mL_22_1 rfl (gi_cons mL_17_14 rfl (gi_cons mL_17_15 rfl gi_nil)))))))))))))))))))))))
set_option maxRecDepth 20000 in
theorem gg_wsX9_next_r3 : GoodIn wsL_law wsX9_next_r3 := gi_cons mL_17_16 rfl (gi_cons mL_3_19 rfl (gi_cons mL_3_21 rfl (gi_cons mL_22_2 rfl (gi_cons mL_20_7 rfl (gi_cons mL_20_8 rfl (gi_cons mL_1_23 rfl (gi_cons mL_20_9 rfl (gi_cons mL_4_10 rfl (gi_cons mL_22_3 rfl (gi_cons mL_17_18 rfl (gi_cons mL_17_19 rfl (gi_cons mL_17_20 rfl (gi_cons mL_17_21 rfl (gi_cons mL_17_22 rfl (gi_cons mL_17_23 rfl (gi_cons mL_23_17 rfl (gi_cons mL_23_18 rfl (gi_cons mL_23_19 rfl (gi_cons mL_23_20 rfl (gi_cons mL_23_21 rfl (gi_cons mL_23_22 rfl (gi_cons mL_23_23 rfl (gi_cons mL_2_18 rfl gi_nil)))))))))))))))))))))))
set_option maxRecDepth 20000 in
theorem gg_wsX9_next_r4 : GoodIn wsL_law wsX9_next_r4 := gi_cons mL_24_0 rfl (gi_cons mL_5_18 rfl (gi_cons mL_24_1 rfl (gi_cons mL_5_19 rfl (gi_cons mL_5_20 rfl (gi_cons mL_5_21 rfl (gi_cons mL_35_18 rfl (gi_cons mL_24_7 rfl (gi_cons mL_24_8 rfl (gi_cons mL_24_9 rfl (gi_cons mL_24_10 rfl (gi_cons mL_24_11 rfl (gi_cons mL_24_12 rfl (gi_cons mL_24_13 rfl (gi_cons mL_35_19 rfl (gi_cons mL_35_20 rfl (gi_cons mL_35_21 rfl (gi_cons mL_35_22 rfl (gi_cons mL_2_7 rfl (gi_cons mL_35_23 rfl (gi_cons mL_36_0 rfl (gi_cons mL_36_1 rfl (gi_cons mL_2_6 rfl (gi_cons mL_36_2 rfl gi_nil)))))))))))))))))))))))
set_option maxRecDepth 20000 in
theorem gg_wsX9_next_r5 : GoodIn wsL_law wsX9_next_r5 := gi_cons mL_34_23 rfl (gi_cons mL_5_1 rfl (gi_cons mL_5_2 rfl (gi_cons mL_5_3 rfl (gi_cons mL_5_4 rfl gi_nil))))
set_option maxRecDepth 20000 in
theorem gg_wsX9_next : GoodIn wsL_law wsX9_next := gi_cons mL_36_14 rfl (goodIn_app (goodIn_app (goodIn_app (goodIn_app (goodIn_app (goodIn_app (gg_wsX9_next_r1) (goodIn_app (gg_wsX9_next_r2) (goodIn_app (gg_wsX9_next_r3) (goodIn_app (gg_wsX9_next_r4) (gg_wsX9_next_r5))))) (gL_wsX90)) (gL_wsX40)) (gL_wsX80)) (gL_wsX20)) (gL_wsX10))
set_option maxRecDepth 20000 in
theorem gL_law_X9_next : GoodIn wsL_law (wsV RL 136 RX9 yX9_next wsX9_next) := goodIn_app (gi_cons mL_36_11 rfl (gi_cons mL_36_12 rfl (gi_cons mL_36_13 rfl (gi_cons mL_1_2 rfl gi_nil)))) gg_wsX9_next
set_option maxRecDepth 20000 in
theorem gg_wsX10_next_r1 : GoodIn wsL_law wsX10_next_r1 := gi_cons mL_20_15 rfl (gi_cons mL_20_16 rfl (gi_cons mL_1_5 rfl (gi_cons mL_20_17 rfl (gi_cons mL_8_13 rfl (gi_cons mL_8_14 rfl (gi_cons mL_8_15 rfl (gi_cons mL_22_8 rfl (gi_cons mL_22_9 rfl (gi_cons mL_22_10 rfl (gi_cons mL_24_20 rfl (gi_cons mL_24_21 rfl (gi_cons mL_24_22 rfl (gi_cons mL_24_23 rfl (gi_cons mL_24_18 rfl (gi_cons mL_13_10 rfl (gi_cons mL_6_13 rfl (gi_cons mL_6_19 rfl (gi_cons mL_22_11 rfl (gi_cons mL_22_12 rfl (gi_cons mL_22_13 rfl (gi_cons mL_22_14 rfl (gi_cons mL_6_11 rfl (gi_cons mL_22_15 rfl gi_nil)))))))))))))))))))))))
set_option maxRecDepth 20000 in
theorem gg_wsX10_next_r2 : GoodIn wsL_law wsX10_next_r2 := gi_cons mL_22_16 rfl (gi_cons mL_22_17 rfl (gi_cons mL_22_18 rfl (gi_cons mL_6_18 rfl (gi_cons mL_22_19 rfl (gi_cons mL_22_20 rfl (gi_cons mL_22_21 rfl (gi_cons mL_22_22 rfl (gi_cons mL_6_6 rfl (gi_cons mL_6_12 rfl (gi_cons mL_36_7 rfl (gi_cons mL_36_8 rfl (gi_cons mL_36_9 rfl (gi_cons mL_36_10 rfl (gi_cons mL_35_8 rfl (gi_cons mL_7_7 rfl (gi_cons mL_7_8 rfl (gi_cons mL_7_9 rfl (gi_cons mL_7_10 rfl gi_nil))))))))))))))))))
set_option maxRecDepth 20000 in
theorem gg_wsX10_next : GoodIn wsL_law wsX10_next := gi_cons mL_36_18 rfl (goodIn_app (goodIn_app (gg_wsX10_next_r1) (gg_wsX10_next_r2)) (gL_wsX100))
set_option maxRecDepth 20000 in
theorem gL_law_X10_next : GoodIn wsL_law (wsV RL 139 RX10 yX10_next wsX10_next) := goodIn_app (gi_cons mL_36_15 rfl (gi_cons mL_36_16 rfl (gi_cons mL_36_17 rfl (gi_cons mL_1_5 rfl gi_nil)))) gg_wsX10_next
set_option maxRecDepth 20000 in
theorem gg_wsX9_read_r1 : GoodIn wsL_law wsX9_read_r1 := gi_cons mL_1_19 rfl (gi_cons mL_2_11 rfl (gi_cons mL_13_23 rfl (gi_cons mL_36_23 rfl (gi_cons mL_19_20 rfl (gi_cons mL_19_21 rfl (gi_cons mL_1_2 rfl (gi_cons mL_19_22 rfl (gi_cons mL_14_3 rfl (gi_cons mL_14_4 rfl (gi_cons mL_14_5 rfl (gi_cons mL_1_18 rfl (gi_cons mL_14_6 rfl (gi_cons mL_12_13 rfl (gi_cons mL_37_0 rfl (gi_cons mL_37_1 rfl (gi_cons mL_37_2 rfl (gi_cons mL_2_10 rfl (gi_cons mL_37_3 rfl (gi_cons mL_37_4 rfl (gi_cons mL_8_23 rfl (gi_cons mL_9_0 rfl (gi_cons mL_9_1 rfl (gi_cons mL_9_2 rfl gi_nil)))))))))))))))))))))))
set_option maxRecDepth 20000 in
theorem gg_wsX9_read_r2 : GoodIn wsL_law wsX9_read_r2 := gi_cons mL_9_3 rfl (gi_cons mL_3_3 rfl (gi_cons mL_37_5 rfl (gi_cons mL_37_6 rfl (gi_cons mL_37_7 rfl (gi_cons mL_37_8 rfl (gi_cons mL_5_8 rfl (gi_cons mL_5_9 rfl gi_nil)))))))
set_option maxRecDepth 20000 in
theorem gg_wsX9_read : GoodIn wsL_law wsX9_read := gi_cons mL_36_22 rfl (goodIn_app (goodIn_app (goodIn_app (goodIn_app (gg_wsX9_read_r1) (gg_wsX9_read_r2)) (gL_wsX90)) (gL_wsX80)) (gL_wsX00))
set_option maxRecDepth 20000 in
theorem gL_law_X9_read : GoodIn wsL_law (wsV RL 140 RX9 yX9_read wsX9_read) := goodIn_app (gi_cons mL_36_19 rfl (gi_cons mL_36_20 rfl (gi_cons mL_36_21 rfl (gi_cons mL_1_2 rfl gi_nil)))) gg_wsX9_read
set_option maxRecDepth 20000 in
theorem gg_wsX10_read : GoodIn wsL_law wsX10_read := gi_cons mL_37_12 rfl (goodIn_app (gi_cons mL_37_13 rfl (gi_cons mL_6_13 rfl (gi_cons mL_7_11 rfl (gi_cons mL_7_12 rfl (gi_cons mL_20_15 rfl (gi_cons mL_20_16 rfl (gi_cons mL_1_5 rfl (gi_cons mL_20_17 rfl (gi_cons mL_8_13 rfl (gi_cons mL_8_14 rfl (gi_cons mL_8_15 rfl (gi_cons mL_15_1 rfl (gi_cons mL_15_2 rfl (gi_cons mL_15_3 rfl (gi_cons mL_15_4 rfl (gi_cons mL_13_10 rfl (gi_cons mL_9_18 rfl (gi_cons mL_9_19 rfl (gi_cons mL_9_20 rfl (gi_cons mL_9_21 rfl (gi_cons mL_9_22 rfl (gi_cons mL_6_5 rfl gi_nil)))))))))))))))))))))) (gL_wsX100))
set_option maxRecDepth 20000 in
theorem gL_law_X10_read : GoodIn wsL_law (wsV RL 143 RX10 yX10_read wsX10_read) := goodIn_app (gi_cons mL_37_9 rfl (gi_cons mL_37_10 rfl (gi_cons mL_37_11 rfl (gi_cons mL_1_5 rfl gi_nil)))) gg_wsX10_read
set_option maxRecDepth 20000 in
theorem gg_wsX9_spread : GoodIn wsL_law wsX9_spread := gi_cons mL_37_17 rfl (goodIn_app (goodIn_app (goodIn_app (gi_cons mL_23_4 rfl (gi_cons mL_1_19 rfl (gi_cons mL_23_11 rfl (gi_cons mL_2_11 rfl (gi_cons mL_19_20 rfl (gi_cons mL_19_21 rfl (gi_cons mL_1_2 rfl (gi_cons mL_19_22 rfl (gi_cons mL_37_18 rfl (gi_cons mL_37_19 rfl (gi_cons mL_37_20 rfl (gi_cons mL_2_10 rfl (gi_cons mL_37_21 rfl (gi_cons mL_37_4 rfl (gi_cons mL_5_8 rfl (gi_cons mL_5_9 rfl gi_nil)))))))))))))))) (gL_wsX90)) (gL_wsX80)) (gL_wsX00))
set_option maxRecDepth 20000 in
theorem gL_law_X9_spread : GoodIn wsL_law (wsV RL 144 RX9 yX9_spread wsX9_spread) := goodIn_app (gi_cons mL_37_14 rfl (gi_cons mL_37_15 rfl (gi_cons mL_37_16 rfl (gi_cons mL_1_2 rfl gi_nil)))) gg_wsX9_spread
set_option maxRecDepth 20000 in
theorem gg_wsX10_spread : GoodIn wsL_law wsX10_spread := gi_cons mL_38_1 rfl (goodIn_app (gi_cons mL_13_10 rfl (gi_cons mL_37_13 rfl (gi_cons mL_7_11 rfl (gi_cons mL_7_12 rfl (gi_cons mL_24_19 rfl (gi_cons mL_20_15 rfl (gi_cons mL_20_16 rfl (gi_cons mL_1_5 rfl (gi_cons mL_20_17 rfl (gi_cons mL_8_13 rfl (gi_cons mL_8_14 rfl (gi_cons mL_8_15 rfl gi_nil)))))))))))) (gL_wsX100))
set_option maxRecDepth 20000 in
theorem gL_law_X10_spread : GoodIn wsL_law (wsV RL 147 RX10 yX10_spread wsX10_spread) := goodIn_app (gi_cons mL_37_22 rfl (gi_cons mL_37_23 rfl (gi_cons mL_38_0 rfl (gi_cons mL_1_5 rfl gi_nil)))) gg_wsX10_spread
set_option maxRecDepth 20000 in
theorem gg_wsX9_wall : GoodIn wsL_law wsX9_wall := gi_cons mL_38_5 rfl (goodIn_app (goodIn_app (gi_cons mL_2_15 rfl (gi_cons mL_38_6 rfl (gi_cons mL_38_7 rfl (gi_cons mL_38_8 rfl (gi_cons mL_2_14 rfl (gi_cons mL_38_9 rfl (gi_cons mL_38_10 rfl (gi_cons mL_38_11 rfl (gi_cons mL_38_12 rfl (gi_cons mL_38_13 rfl (gi_cons mL_38_14 rfl (gi_cons mL_5_13 rfl (gi_cons mL_5_14 rfl (gi_cons mL_38_15 rfl gi_nil)))))))))))))) (gL_wsX90)) (gL_wsX70))
set_option maxRecDepth 20000 in
theorem gL_law_X9_wall : GoodIn wsL_law (wsV RL 148 RX9 yX9_wall wsX9_wall) := goodIn_app (gi_cons mL_38_2 rfl (gi_cons mL_38_3 rfl (gi_cons mL_38_4 rfl (gi_cons mL_1_2 rfl gi_nil)))) gg_wsX9_wall
set_option maxRecDepth 20000 in
theorem gg_wsX10_wall : GoodIn wsL_law wsX10_wall := gi_cons mL_38_19 rfl (goodIn_app (gi_cons mL_38_20 rfl (gi_cons mL_7_13 rfl (gi_cons mL_7_14 rfl (gi_cons mL_7_15 rfl (gi_cons mL_8_13 rfl (gi_cons mL_8_14 rfl (gi_cons mL_1_5 rfl (gi_cons mL_8_15 rfl gi_nil)))))))) (gL_wsX100))
set_option maxRecDepth 20000 in
theorem gL_law_X10_wall : GoodIn wsL_law (wsV RL 152 RX10 yX10_wall wsX10_wall) := goodIn_app (gi_cons mL_38_16 rfl (gi_cons mL_38_17 rfl (gi_cons mL_38_18 rfl (gi_cons mL_1_5 rfl gi_nil)))) gg_wsX10_wall
set_option maxRecDepth 20000 in
theorem gg_wsX9_keep : GoodIn wsL_law wsX9_keep := gi_cons mL_39_0 rfl (goodIn_app (goodIn_app (gi_cons mL_2_15 rfl (gi_cons mL_23_4 rfl (gi_cons mL_39_1 rfl (gi_cons mL_39_2 rfl (gi_cons mL_39_3 rfl (gi_cons mL_39_4 rfl (gi_cons mL_2_14 rfl (gi_cons mL_39_5 rfl (gi_cons mL_38_10 rfl (gi_cons mL_38_15 rfl (gi_cons mL_5_14 rfl (gi_cons mL_5_13 rfl (gi_cons mL_39_6 rfl (gi_cons mL_39_7 rfl (gi_cons mL_39_8 rfl (gi_cons mL_39_9 rfl gi_nil)))))))))))))))) (gL_wsX90)) (gL_wsX70))
set_option maxRecDepth 20000 in
theorem gL_law_X9_keep : GoodIn wsL_law (wsV RL 153 RX9 yX9_keep wsX9_keep) := goodIn_app (gi_cons mL_38_21 rfl (gi_cons mL_38_22 rfl (gi_cons mL_38_23 rfl (gi_cons mL_1_2 rfl gi_nil)))) gg_wsX9_keep
set_option maxRecDepth 20000 in
theorem gg_wsX10_keep : GoodIn wsL_law wsX10_keep := gi_cons mL_39_13 rfl (goodIn_app (gi_cons mL_38_20 rfl (gi_cons mL_7_13 rfl (gi_cons mL_7_14 rfl (gi_cons mL_7_15 rfl (gi_cons mL_24_19 rfl (gi_cons mL_8_13 rfl (gi_cons mL_8_14 rfl (gi_cons mL_1_5 rfl (gi_cons mL_8_15 rfl gi_nil))))))))) (gL_wsX100))
set_option maxRecDepth 20000 in
theorem gL_law_X10_keep : GoodIn wsL_law (wsV RL 156 RX10 yX10_keep wsX10_keep) := goodIn_app (gi_cons mL_39_10 rfl (gi_cons mL_39_11 rfl (gi_cons mL_39_12 rfl (gi_cons mL_1_5 rfl gi_nil)))) gg_wsX10_keep
set_option maxRecDepth 20000 in
theorem gg_wsX9_asked : GoodIn wsL_law wsX9_asked := gi_cons mL_39_17 rfl (goodIn_app (gi_cons mL_23_4 rfl gi_nil) (gL_wsX90))
set_option maxRecDepth 20000 in
theorem gL_law_X9_asked : GoodIn wsL_law (wsV RL 157 RX9 yX9_asked wsX9_asked) := goodIn_app (gi_cons mL_39_14 rfl (gi_cons mL_39_15 rfl (gi_cons mL_39_16 rfl (gi_cons mL_1_2 rfl gi_nil)))) gg_wsX9_asked
set_option maxRecDepth 20000 in
theorem gg_wsX10_asked : GoodIn wsL_law wsX10_asked := gi_cons mL_39_21 rfl (goodIn_app (gi_cons mL_24_19 rfl gi_nil) (gL_wsX100))
set_option maxRecDepth 20000 in
theorem gL_law_X10_asked : GoodIn wsL_law (wsV RL 160 RX10 yX10_asked wsX10_asked) := goodIn_app (gi_cons mL_39_18 rfl (gi_cons mL_39_19 rfl (gi_cons mL_39_20 rfl (gi_cons mL_1_5 rfl gi_nil)))) gg_wsX10_asked
set_option maxRecDepth 20000 in
theorem gg_wsX9_count_r1 : GoodIn wsL_law wsX9_count_r1 := gi_cons mL_40_2 rfl (gi_cons mL_40_3 rfl (gi_cons mL_40_4 rfl (gi_cons mL_1_2 rfl (gi_cons mL_40_5 rfl (gi_cons mL_1_19 rfl (gi_cons mL_23_11 rfl (gi_cons mL_1_21 rfl (gi_cons mL_25_16 rfl (gi_cons mL_2_11 rfl (gi_cons mL_36_23 rfl (gi_cons mL_2_15 rfl (gi_cons mL_40_6 rfl (gi_cons mL_19_4 rfl (gi_cons mL_19_5 rfl (gi_cons mL_19_6 rfl (gi_cons mL_1_18 rfl (gi_cons mL_19_7 rfl (gi_cons mL_12_13 rfl (gi_cons mL_4_5 rfl (gi_cons mL_40_7 rfl (gi_cons mL_40_8 rfl (gi_cons mL_40_9 rfl (gi_cons mL_1_23 rfl gi_nil)))))))))))))))))))))))
set_option maxRecDepth 20000 in
theorem gg_wsX9_count_r2 : GoodIn wsL_law wsX9_count_r2 := gi_cons mL_40_10 rfl (gi_cons mL_20_6 rfl (gi_cons mL_20_7 rfl (gi_cons mL_20_8 rfl (gi_cons mL_20_9 rfl (gi_cons mL_4_10 rfl (gi_cons mL_20_10 rfl (gi_cons mL_17_18 rfl (gi_cons mL_17_19 rfl (gi_cons mL_17_20 rfl (gi_cons mL_17_21 rfl (gi_cons mL_17_22 rfl (gi_cons mL_17_23 rfl gi_nil))))))))))))
set_option maxRecDepth 20000 in
theorem gg_wsX9_count : GoodIn wsL_law wsX9_count := gi_cons mL_40_1 rfl (goodIn_app (goodIn_app (goodIn_app (goodIn_app (goodIn_app (goodIn_app (gg_wsX9_count_r1) (gg_wsX9_count_r2)) (gL_wsX90)) (gL_wsX80)) (gL_wsX20)) (gL_wsX00)) (gL_wsX70))
set_option maxRecDepth 20000 in
theorem gL_law_X9_count : GoodIn wsL_law (wsV RL 161 RX9 yX9_count wsX9_count) := goodIn_app (gi_cons mL_39_22 rfl (gi_cons mL_39_23 rfl (gi_cons mL_40_0 rfl (gi_cons mL_1_2 rfl gi_nil)))) gg_wsX9_count
set_option maxRecDepth 20000 in
theorem gg_wsX10_count : GoodIn wsL_law wsX10_count := gi_cons mL_40_14 rfl (goodIn_app (gi_cons mL_8_13 rfl (gi_cons mL_8_14 rfl (gi_cons mL_1_5 rfl (gi_cons mL_8_15 rfl (gi_cons mL_40_15 rfl (gi_cons mL_40_16 rfl (gi_cons mL_40_17 rfl (gi_cons mL_40_18 rfl (gi_cons mL_13_10 rfl (gi_cons mL_6_13 rfl (gi_cons mL_6_18 rfl (gi_cons mL_6_20 rfl (gi_cons mL_37_13 rfl (gi_cons mL_38_20 rfl gi_nil)))))))))))))) (gL_wsX100))
set_option maxRecDepth 20000 in
theorem gL_law_X10_count : GoodIn wsL_law (wsV RL 164 RX10 yX10_count wsX10_count) := goodIn_app (gi_cons mL_40_11 rfl (gi_cons mL_40_12 rfl (gi_cons mL_40_13 rfl (gi_cons mL_1_5 rfl gi_nil)))) gg_wsX10_count
set_option maxRecDepth 20000 in
theorem gg_wsX9_finding : GoodIn wsL_law wsX9_finding := gi_cons mL_40_22 rfl (goodIn_app (gi_cons mL_9_3 rfl gi_nil) (gL_wsX90))
set_option maxRecDepth 20000 in
theorem gL_law_X9_finding : GoodIn wsL_law (wsV RL 165 RX9 yX9_finding wsX9_finding) := goodIn_app (gi_cons mL_40_19 rfl (gi_cons mL_40_20 rfl (gi_cons mL_40_21 rfl (gi_cons mL_1_2 rfl gi_nil)))) gg_wsX9_finding
set_option maxRecDepth 20000 in
theorem gg_wsX10_finding : GoodIn wsL_law wsX10_finding := gi_cons mL_41_2 rfl (goodIn_app (gi_cons mL_9_22 rfl gi_nil) (gL_wsX100))
set_option maxRecDepth 20000 in
theorem gL_law_X10_finding : GoodIn wsL_law (wsV RL 168 RX10 yX10_finding wsX10_finding) := goodIn_app (gi_cons mL_40_23 rfl (gi_cons mL_41_0 rfl (gi_cons mL_41_1 rfl (gi_cons mL_1_5 rfl gi_nil)))) gg_wsX10_finding
set_option maxRecDepth 20000 in
theorem gg_wsX9_findings : GoodIn wsL_law wsX9_findings := gi_cons mL_41_6 rfl (goodIn_app (gi_cons mL_3_3 rfl gi_nil) (gL_wsX90))
set_option maxRecDepth 20000 in
theorem gL_law_X9_findings : GoodIn wsL_law (wsV RL 169 RX9 yX9_findings wsX9_findings) := goodIn_app (gi_cons mL_41_3 rfl (gi_cons mL_41_4 rfl (gi_cons mL_41_5 rfl (gi_cons mL_1_2 rfl gi_nil)))) gg_wsX9_findings
set_option maxRecDepth 20000 in
theorem gg_wsX10_findings : GoodIn wsL_law wsX10_findings := gi_cons mL_41_10 rfl (goodIn_app (gi_cons mL_6_5 rfl (gi_cons mL_8_13 rfl (gi_cons mL_8_14 rfl (gi_cons mL_1_5 rfl (gi_cons mL_8_15 rfl gi_nil))))) (gL_wsX100))
set_option maxRecDepth 20000 in
theorem gL_law_X10_findings : GoodIn wsL_law (wsV RL 172 RX10 yX10_findings wsX10_findings) := goodIn_app (gi_cons mL_41_7 rfl (gi_cons mL_41_8 rfl (gi_cons mL_41_9 rfl (gi_cons mL_1_5 rfl gi_nil)))) gg_wsX10_findings
set_option maxRecDepth 20000 in
theorem gg_wsX9_digest_r1 : GoodIn wsL_law wsX9_digest_r1 := gi_cons mL_41_15 rfl (gi_cons mL_41_16 rfl (gi_cons mL_1_19 rfl (gi_cons mL_1_21 rfl (gi_cons mL_1_15 rfl (gi_cons mL_40_2 rfl (gi_cons mL_40_3 rfl (gi_cons mL_40_4 rfl (gi_cons mL_1_2 rfl (gi_cons mL_40_5 rfl (gi_cons mL_23_11 rfl (gi_cons mL_25_16 rfl (gi_cons mL_2_11 rfl (gi_cons mL_36_23 rfl (gi_cons mL_2_15 rfl (gi_cons mL_40_6 rfl (gi_cons mL_19_4 rfl (gi_cons mL_19_5 rfl (gi_cons mL_19_6 rfl (gi_cons mL_1_18 rfl (gi_cons mL_19_7 rfl (gi_cons mL_12_13 rfl (gi_cons mL_4_5 rfl (gi_cons mL_40_7 rfl gi_nil)))))))))))))))))))))))
set_option maxRecDepth 20000 in
theorem gg_wsX9_digest_r2 : GoodIn wsL_law wsX9_digest_r2 := gi_cons mL_40_8 rfl (gi_cons mL_40_9 rfl (gi_cons mL_1_23 rfl (gi_cons mL_40_10 rfl (gi_cons mL_20_6 rfl (gi_cons mL_20_7 rfl (gi_cons mL_20_8 rfl (gi_cons mL_20_9 rfl (gi_cons mL_4_10 rfl (gi_cons mL_20_10 rfl (gi_cons mL_17_18 rfl (gi_cons mL_17_19 rfl (gi_cons mL_17_20 rfl (gi_cons mL_17_21 rfl (gi_cons mL_17_22 rfl (gi_cons mL_17_23 rfl (gi_cons mL_41_17 rfl (gi_cons mL_41_18 rfl (gi_cons mL_41_19 rfl (gi_cons mL_41_20 rfl (gi_cons mL_41_21 rfl (gi_cons mL_41_22 rfl (gi_cons mL_17_6 rfl (gi_cons mL_17_7 rfl gi_nil)))))))))))))))))))))))
set_option maxRecDepth 20000 in
theorem gg_wsX9_digest_r3 : GoodIn wsL_law wsX9_digest_r3 := gi_cons mL_17_8 rfl (gi_cons mL_3_23 rfl (gi_cons mL_3_22 rfl (gi_cons mL_4_2 rfl (gi_cons mL_4_3 rfl (gi_cons mL_4_1 rfl (gi_cons mL_17_9 rfl (gi_cons mL_17_10 rfl (gi_cons mL_17_11 rfl (gi_cons mL_17_12 rfl (gi_cons mL_17_13 rfl (gi_cons mL_17_14 rfl (gi_cons mL_17_15 rfl (gi_cons mL_17_16 rfl (gi_cons mL_3_19 rfl (gi_cons mL_3_21 rfl (gi_cons mL_17_17 rfl (gi_cons mL_41_23 rfl (gi_cons mL_42_0 rfl (gi_cons mL_42_1 rfl (gi_cons mL_42_2 rfl (gi_cons mL_42_3 rfl (gi_cons mL_42_4 rfl (gi_cons mL_21_2 rfl gi_nil)))))))))))))))))))))))
set_option maxRecDepth 20000 in
theorem gg_wsX9_digest_r4 : GoodIn wsL_law wsX9_digest_r4 := gi_cons mL_21_3 rfl (gi_cons mL_21_4 rfl (gi_cons mL_42_5 rfl (gi_cons mL_42_6 rfl (gi_cons mL_42_7 rfl (gi_cons mL_42_8 rfl (gi_cons mL_16_8 rfl (gi_cons mL_42_9 rfl (gi_cons mL_27_2 rfl (gi_cons mL_27_3 rfl (gi_cons mL_27_4 rfl (gi_cons mL_4_11 rfl (gi_cons mL_4_12 rfl (gi_cons mL_4_13 rfl (gi_cons mL_42_10 rfl (gi_cons mL_42_11 rfl (gi_cons mL_42_12 rfl (gi_cons mL_1_14 rfl (gi_cons mL_42_13 rfl (gi_cons mL_42_14 rfl (gi_cons mL_3_11 rfl (gi_cons mL_3_10 rfl gi_nil)))))))))))))))))))))
set_option maxRecDepth 20000 in
theorem gg_wsX9_digest : GoodIn wsL_law wsX9_digest := gi_cons mL_41_14 rfl (goodIn_app (goodIn_app (goodIn_app (goodIn_app (goodIn_app (goodIn_app (goodIn_app (gg_wsX9_digest_r1) (goodIn_app (gg_wsX9_digest_r2) (goodIn_app (gg_wsX9_digest_r3) (gg_wsX9_digest_r4)))) (gL_wsX90)) (gL_wsX80)) (gL_wsX20)) (gL_wsX00)) (gL_wsX70)) (gL_wsX50))
set_option maxRecDepth 20000 in
theorem gL_law_X9_digest : GoodIn wsL_law (wsV RL 173 RX9 yX9_digest wsX9_digest) := goodIn_app (gi_cons mL_41_11 rfl (gi_cons mL_41_12 rfl (gi_cons mL_41_13 rfl (gi_cons mL_1_2 rfl gi_nil)))) gg_wsX9_digest
set_option maxRecDepth 20000 in
theorem gg_wsX10_digest_r1 : GoodIn wsL_law wsX10_digest_r1 := gi_cons mL_42_19 rfl (gi_cons mL_42_20 rfl (gi_cons mL_13_10 rfl (gi_cons mL_6_13 rfl (gi_cons mL_6_18 rfl (gi_cons mL_6_20 rfl (gi_cons mL_6_21 rfl (gi_cons mL_6_22 rfl (gi_cons mL_6_23 rfl (gi_cons mL_6_7 rfl (gi_cons mL_6_8 rfl (gi_cons mL_40_15 rfl (gi_cons mL_40_16 rfl (gi_cons mL_40_17 rfl (gi_cons mL_1_5 rfl (gi_cons mL_40_18 rfl (gi_cons mL_37_13 rfl (gi_cons mL_38_20 rfl (gi_cons mL_18_4 rfl (gi_cons mL_18_5 rfl (gi_cons mL_18_6 rfl (gi_cons mL_18_7 rfl (gi_cons mL_6_11 rfl (gi_cons mL_6_6 rfl gi_nil)))))))))))))))))))))))
set_option maxRecDepth 20000 in
theorem gg_wsX10_digest_r2 : GoodIn wsL_law wsX10_digest_r2 := gi_cons mL_6_12 rfl (gi_cons mL_6_10 rfl (gi_cons mL_6_15 rfl (gi_cons mL_6_16 rfl (gi_cons mL_6_14 rfl (gi_cons mL_18_8 rfl (gi_cons mL_18_9 rfl (gi_cons mL_18_10 rfl gi_nil)))))))
set_option maxRecDepth 20000 in
theorem gg_wsX10_digest : GoodIn wsL_law wsX10_digest := gi_cons mL_42_18 rfl (goodIn_app (goodIn_app (gg_wsX10_digest_r1) (gg_wsX10_digest_r2)) (gL_wsX100))
set_option maxRecDepth 20000 in
theorem gL_law_X10_digest : GoodIn wsL_law (wsV RL 177 RX10 yX10_digest wsX10_digest) := goodIn_app (gi_cons mL_42_15 rfl (gi_cons mL_42_16 rfl (gi_cons mL_42_17 rfl (gi_cons mL_1_5 rfl gi_nil)))) gg_wsX10_digest
