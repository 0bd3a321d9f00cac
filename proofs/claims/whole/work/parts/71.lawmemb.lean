set_option maxRecDepth 20000 in
theorem mL_15_0 : (Cond.code yX10_isYear cX10_isYear 1 (some .boolean)) ∈ wsL_law := inr_15 _ (List.mem_of_getElem? (l := wsL_law_r15) (i := 0) rfl)
set_option maxRecDepth 20000 in
theorem tL_15_0 : (Cond.code yX10_isYear cX10_isYear 1 (some .boolean)) ∈ lw_tbl := tb_5 _ (List.mem_of_getElem? (l := tables_1_5) (i := 53) rfl)
set_option maxRecDepth 20000 in
theorem mL_15_1 : (Cond.methodLink RX10 154 yX10_isWord) ∈ wsL_law := inr_15 _ (List.mem_of_getElem? (l := wsL_law_r15) (i := 1) rfl)
set_option maxRecDepth 20000 in
theorem tL_15_1 : (Cond.methodLink RX10 154 yX10_isWord) ∈ lw_tbl := tb_5 _ (List.mem_of_getElem? (l := tables_1_5) (i := 54) rfl)
set_option maxRecDepth 20000 in
theorem mL_15_2 : (Cond.instanceMethod yX10_isWord) ∈ wsL_law := inr_15 _ (List.mem_of_getElem? (l := wsL_law_r15) (i := 2) rfl)
set_option maxRecDepth 20000 in
theorem tL_15_2 : (Cond.instanceMethod yX10_isWord) ∈ lw_tbl := tb_5 _ (List.mem_of_getElem? (l := tables_1_5) (i := 56) rfl)
set_option maxRecDepth 20000 in
theorem mL_15_3 : (Cond.selects RX10 yX10_isWord yX10_isWord) ∈ wsL_law := inr_15 _ (List.mem_of_getElem? (l := wsL_law_r15) (i := 3) rfl)
set_option maxRecDepth 20000 in
theorem tL_15_3 : (Cond.selects RX10 yX10_isWord yX10_isWord) ∈ lw_tbl := List.mem_append_left _ (List.mem_of_getElem? (l := k2_sels lw_privs) (i := 21) rfl)
set_option maxRecDepth 20000 in
theorem mL_15_4 : (Cond.code yX10_isWord cX10_isWord 2 (some .boolean)) ∈ wsL_law := inr_15 _ (List.mem_of_getElem? (l := wsL_law_r15) (i := 4) rfl)
set_option maxRecDepth 20000 in
theorem tL_15_4 : (Cond.code yX10_isWord cX10_isWord 2 (some .boolean)) ∈ lw_tbl := tb_5 _ (List.mem_of_getElem? (l := tables_1_5) (i := 57) rfl)
set_option maxRecDepth 20000 in
theorem mL_15_5 : (Cond.methodLink RX10 157 yX10_isFirm) ∈ wsL_law := inr_15 _ (List.mem_of_getElem? (l := wsL_law_r15) (i := 5) rfl)
set_option maxRecDepth 20000 in
theorem tL_15_5 : (Cond.methodLink RX10 157 yX10_isFirm) ∈ lw_tbl := tb_5 _ (List.mem_of_getElem? (l := tables_1_5) (i := 58) rfl)
set_option maxRecDepth 20000 in
theorem mL_15_6 : (Cond.instanceMethod yX10_isFirm) ∈ wsL_law := inr_15 _ (List.mem_of_getElem? (l := wsL_law_r15) (i := 6) rfl)
set_option maxRecDepth 20000 in
theorem tL_15_6 : (Cond.instanceMethod yX10_isFirm) ∈ lw_tbl := tb_5 _ (List.mem_of_getElem? (l := tables_1_5) (i := 60) rfl)
set_option maxRecDepth 20000 in
theorem mL_15_7 : (Cond.selects RX10 yX10_isFirm yX10_isFirm) ∈ wsL_law := inr_15 _ (List.mem_of_getElem? (l := wsL_law_r15) (i := 7) rfl)
set_option maxRecDepth 20000 in
theorem tL_15_7 : (Cond.selects RX10 yX10_isFirm yX10_isFirm) ∈ lw_tbl := List.mem_append_left _ (List.mem_of_getElem? (l := k2_sels lw_privs) (i := 22) rfl)
set_option maxRecDepth 20000 in
theorem mL_15_8 : (Cond.code yX10_isFirm cX10_isFirm 2 (some .boolean)) ∈ wsL_law := inr_15 _ (List.mem_of_getElem? (l := wsL_law_r15) (i := 8) rfl)
set_option maxRecDepth 20000 in
theorem tL_15_8 : (Cond.code yX10_isFirm cX10_isFirm 2 (some .boolean)) ∈ lw_tbl := tb_5 _ (List.mem_of_getElem? (l := tables_1_5) (i := 61) rfl)
set_option maxRecDepth 20000 in
theorem mL_15_9 : (Cond.methodLink RL 45 yX9_slogan) ∈ wsL_law := inr_15 _ (List.mem_of_getElem? (l := wsL_law_r15) (i := 9) rfl)
set_option maxRecDepth 20000 in
theorem tL_15_9 : (Cond.methodLink RL 45 yX9_slogan) ∈ lw_tbl := tb_2 _ (List.mem_of_getElem? (l := tables_1_2) (i := 177) rfl)
set_option maxRecDepth 20000 in
theorem mL_15_10 : (Cond.instanceMethod yX9_slogan) ∈ wsL_law := inr_15 _ (List.mem_of_getElem? (l := wsL_law_r15) (i := 10) rfl)
set_option maxRecDepth 20000 in
theorem tL_15_10 : (Cond.instanceMethod yX9_slogan) ∈ lw_tbl := tb_2 _ (List.mem_of_getElem? (l := tables_1_2) (i := 178) rfl)
set_option maxRecDepth 20000 in
theorem mL_15_11 : (Cond.selects RX9 yX9_slogan yX9_slogan) ∈ wsL_law := inr_15 _ (List.mem_of_getElem? (l := wsL_law_r15) (i := 11) rfl)
set_option maxRecDepth 20000 in
theorem tL_15_11 : (Cond.selects RX9 yX9_slogan yX9_slogan) ∈ lw_tbl := tb_2 _ (List.mem_of_getElem? (l := tables_1_2) (i := 179) rfl)
set_option maxRecDepth 20000 in
theorem mL_15_12 : (Cond.code yX9_slogan cX9_slogan 4 (some .int)) ∈ wsL_law := inr_15 _ (List.mem_of_getElem? (l := wsL_law_r15) (i := 12) rfl)
set_option maxRecDepth 20000 in
theorem tL_15_12 : (Cond.code yX9_slogan cX9_slogan 4 (some .int)) ∈ lw_tbl := tb_2 _ (List.mem_of_getElem? (l := tables_1_2) (i := 180) rfl)
set_option maxRecDepth 20000 in
theorem mL_15_13 : (Cond.fieldLink RX9 158 "GhostSigns$Words" "numbers" "[I") ∈ wsL_law := inr_15 _ (List.mem_of_getElem? (l := wsL_law_r15) (i := 13) rfl)
set_option maxRecDepth 20000 in
theorem tL_15_13 : (Cond.fieldLink RX9 158 "GhostSigns$Words" "numbers" "[I") ∈ lw_tbl := tb_1 _ (List.mem_of_getElem? (l := tables_1_1) (i := 61) rfl)
set_option maxRecDepth 20000 in
theorem mL_15_14 : (Cond.fieldLink RX9 161 "GhostSigns$Words" "froms" "[I") ∈ wsL_law := inr_15 _ (List.mem_of_getElem? (l := wsL_law_r15) (i := 14) rfl)
set_option maxRecDepth 20000 in
theorem tL_15_14 : (Cond.fieldLink RX9 161 "GhostSigns$Words" "froms" "[I") ∈ lw_tbl := tb_1 _ (List.mem_of_getElem? (l := tables_1_1) (i := 63) rfl)
set_option maxRecDepth 20000 in
theorem mL_15_15 : (Cond.fieldLink RX9 164 "GhostSigns$Words" "tos" "[I") ∈ wsL_law := inr_15 _ (List.mem_of_getElem? (l := wsL_law_r15) (i := 15) rfl)
set_option maxRecDepth 20000 in
theorem tL_15_15 : (Cond.fieldLink RX9 164 "GhostSigns$Words" "tos" "[I") ∈ lw_tbl := tb_1 _ (List.mem_of_getElem? (l := tables_1_1) (i := 65) rfl)
set_option maxRecDepth 20000 in
theorem mL_15_16 : (Cond.methodLink RL 48 yX10_slogan) ∈ wsL_law := inr_15 _ (List.mem_of_getElem? (l := wsL_law_r15) (i := 16) rfl)
set_option maxRecDepth 20000 in
theorem tL_15_16 : (Cond.methodLink RL 48 yX10_slogan) ∈ lw_tbl := tb_5 _ (List.mem_of_getElem? (l := tables_1_5) (i := 62) rfl)
set_option maxRecDepth 20000 in
theorem mL_15_17 : (Cond.instanceMethod yX10_slogan) ∈ wsL_law := inr_15 _ (List.mem_of_getElem? (l := wsL_law_r15) (i := 17) rfl)
set_option maxRecDepth 20000 in
theorem tL_15_17 : (Cond.instanceMethod yX10_slogan) ∈ lw_tbl := tb_5 _ (List.mem_of_getElem? (l := tables_1_5) (i := 63) rfl)
set_option maxRecDepth 20000 in
theorem mL_15_18 : (Cond.selects RX10 yX10_slogan yX10_slogan) ∈ wsL_law := inr_15 _ (List.mem_of_getElem? (l := wsL_law_r15) (i := 18) rfl)
set_option maxRecDepth 20000 in
theorem tL_15_18 : (Cond.selects RX10 yX10_slogan yX10_slogan) ∈ lw_tbl := tb_5 _ (List.mem_of_getElem? (l := tables_1_5) (i := 64) rfl)
set_option maxRecDepth 20000 in
theorem mL_15_19 : (Cond.code yX10_slogan cX10_slogan 3 (some .int)) ∈ wsL_law := inr_15 _ (List.mem_of_getElem? (l := wsL_law_r15) (i := 19) rfl)
set_option maxRecDepth 20000 in
theorem tL_15_19 : (Cond.code yX10_slogan cX10_slogan 3 (some .int)) ∈ lw_tbl := tb_5 _ (List.mem_of_getElem? (l := tables_1_5) (i := 65) rfl)
set_option maxRecDepth 20000 in
theorem mL_15_20 : (Cond.methodLink RL 49 yX9_strike) ∈ wsL_law := inr_15 _ (List.mem_of_getElem? (l := wsL_law_r15) (i := 20) rfl)
set_option maxRecDepth 20000 in
theorem tL_15_20 : (Cond.methodLink RL 49 yX9_strike) ∈ lw_tbl := tb_2 _ (List.mem_of_getElem? (l := tables_1_2) (i := 181) rfl)
set_option maxRecDepth 20000 in
theorem mL_15_21 : (Cond.instanceMethod yX9_strike) ∈ wsL_law := inr_15 _ (List.mem_of_getElem? (l := wsL_law_r15) (i := 21) rfl)
set_option maxRecDepth 20000 in
theorem tL_15_21 : (Cond.instanceMethod yX9_strike) ∈ lw_tbl := tb_2 _ (List.mem_of_getElem? (l := tables_1_2) (i := 182) rfl)
set_option maxRecDepth 20000 in
theorem mL_15_22 : (Cond.selects RX9 yX9_strike yX9_strike) ∈ wsL_law := inr_15 _ (List.mem_of_getElem? (l := wsL_law_r15) (i := 22) rfl)
set_option maxRecDepth 20000 in
theorem tL_15_22 : (Cond.selects RX9 yX9_strike yX9_strike) ∈ lw_tbl := tb_2 _ (List.mem_of_getElem? (l := tables_1_2) (i := 183) rfl)
set_option maxRecDepth 20000 in
theorem mL_15_23 : (Cond.code yX9_strike cX9_strike 2 (some .int)) ∈ wsL_law := inr_15 _ (List.mem_of_getElem? (l := wsL_law_r15) (i := 23) rfl)
set_option maxRecDepth 20000 in
theorem tL_15_23 : (Cond.code yX9_strike cX9_strike 2 (some .int)) ∈ lw_tbl := tb_2 _ (List.mem_of_getElem? (l := tables_1_2) (i := 184) rfl)
set_option maxRecDepth 20000 in
theorem tin_15 : ∀ w ∈ wsL_law_r15, w ∈ lw_tbl := List.forall_mem_cons.mpr ⟨tL_15_0, List.forall_mem_cons.mpr ⟨tL_15_1, List.forall_mem_cons.mpr ⟨tL_15_2, List.forall_mem_cons.mpr ⟨tL_15_3, List.forall_mem_cons.mpr ⟨tL_15_4, List.forall_mem_cons.mpr ⟨tL_15_5, List.forall_mem_cons.mpr ⟨tL_15_6, List.forall_mem_cons.mpr ⟨tL_15_7, List.forall_mem_cons.mpr ⟨tL_15_8, List.forall_mem_cons.mpr ⟨tL_15_9, List.forall_mem_cons.mpr ⟨tL_15_10, List.forall_mem_cons.mpr ⟨tL_15_11, List.forall_mem_cons.mpr ⟨tL_15_12, List.forall_mem_cons.mpr ⟨tL_15_13, List.forall_mem_cons.mpr ⟨tL_15_14, List.forall_mem_cons.mpr ⟨tL_15_15, List.forall_mem_cons.mpr ⟨tL_15_16, List.forall_mem_cons.mpr ⟨tL_15_17, List.forall_mem_cons.mpr ⟨tL_15_18, List.forall_mem_cons.mpr ⟨tL_15_19, List.forall_mem_cons.mpr ⟨tL_15_20, List.forall_mem_cons.mpr ⟨tL_15_21, List.forall_mem_cons.mpr ⟨tL_15_22, List.forall_mem_cons.mpr ⟨tL_15_23, List.forall_mem_nil _⟩⟩⟩⟩⟩⟩⟩⟩⟩⟩⟩⟩⟩⟩⟩⟩⟩⟩⟩⟩⟩⟩⟩⟩
set_option maxRecDepth 20000 in
theorem mL_16_0 : (Cond.methodLink RX9 167 yX9_isLayer) ∈ wsL_law := inr_16 _ (List.mem_of_getElem? (l := wsL_law_r16) (i := 0) rfl)
set_option maxRecDepth 20000 in
theorem tL_16_0 : (Cond.methodLink RX9 167 yX9_isLayer) ∈ lw_tbl := tb_2 _ (List.mem_of_getElem? (l := tables_1_2) (i := 185) rfl)
set_option maxRecDepth 20000 in
theorem mL_16_1 : (Cond.instanceMethod yX9_isLayer) ∈ wsL_law := inr_16 _ (List.mem_of_getElem? (l := wsL_law_r16) (i := 1) rfl)
set_option maxRecDepth 20000 in
theorem tL_16_1 : (Cond.instanceMethod yX9_isLayer) ∈ lw_tbl := tb_2 _ (List.mem_of_getElem? (l := tables_1_2) (i := 187) rfl)
set_option maxRecDepth 20000 in
theorem mL_16_2 : (Cond.selects RX9 yX9_isLayer yX9_isLayer) ∈ wsL_law := inr_16 _ (List.mem_of_getElem? (l := wsL_law_r16) (i := 2) rfl)
set_option maxRecDepth 20000 in
theorem tL_16_2 : (Cond.selects RX9 yX9_isLayer yX9_isLayer) ∈ lw_tbl := List.mem_append_left _ (List.mem_of_getElem? (l := k2_sels lw_privs) (i := 2) rfl)
set_option maxRecDepth 20000 in
theorem mL_16_3 : (Cond.code yX9_isLayer cX9_isLayer 3 (some .boolean)) ∈ wsL_law := inr_16 _ (List.mem_of_getElem? (l := wsL_law_r16) (i := 3) rfl)
set_option maxRecDepth 20000 in
theorem tL_16_3 : (Cond.code yX9_isLayer cX9_isLayer 3 (some .boolean)) ∈ lw_tbl := tb_2 _ (List.mem_of_getElem? (l := tables_1_2) (i := 188) rfl)
set_option maxRecDepth 20000 in
theorem mL_16_4 : (Cond.methodLink RX9 376 yX2_hasLayerOf) ∈ wsL_law := inr_16 _ (List.mem_of_getElem? (l := wsL_law_r16) (i := 4) rfl)
set_option maxRecDepth 20000 in
theorem tL_16_4 : (Cond.methodLink RX9 376 yX2_hasLayerOf) ∈ lw_tbl := tb_2 _ (List.mem_of_getElem? (l := tables_1_2) (i := 189) rfl)
set_option maxRecDepth 20000 in
theorem mL_16_5 : (Cond.instanceMethod yX2_hasLayerOf) ∈ wsL_law := inr_16 _ (List.mem_of_getElem? (l := wsL_law_r16) (i := 5) rfl)
set_option maxRecDepth 20000 in
theorem tL_16_5 : (Cond.instanceMethod yX2_hasLayerOf) ∈ lw_tbl := tb_2 _ (List.mem_of_getElem? (l := tables_1_2) (i := 190) rfl)
set_option maxRecDepth 20000 in
theorem mL_16_6 : (Cond.selects RX2 yX2_hasLayerOf yX2_hasLayerOf) ∈ wsL_law := inr_16 _ (List.mem_of_getElem? (l := wsL_law_r16) (i := 6) rfl)
set_option maxRecDepth 20000 in
theorem tL_16_6 : (Cond.selects RX2 yX2_hasLayerOf yX2_hasLayerOf) ∈ lw_tbl := tb_2 _ (List.mem_of_getElem? (l := tables_1_2) (i := 191) rfl)
set_option maxRecDepth 20000 in
theorem mL_16_7 : (Cond.code yX2_hasLayerOf cX2_hasLayerOf 3 (some .boolean)) ∈ wsL_law := inr_16 _ (List.mem_of_getElem? (l := wsL_law_r16) (i := 7) rfl)
set_option maxRecDepth 20000 in
theorem tL_16_7 : (Cond.code yX2_hasLayerOf cX2_hasLayerOf 3 (some .boolean)) ∈ lw_tbl := tb_2 _ (List.mem_of_getElem? (l := tables_1_2) (i := 192) rfl)
set_option maxRecDepth 20000 in
theorem mL_16_8 : (Cond.fieldLink RX2 35 "GhostSigns$Line" "layers" "I") ∈ wsL_law := inr_16 _ (List.mem_of_getElem? (l := wsL_law_r16) (i := 8) rfl)
set_option maxRecDepth 20000 in
theorem tL_16_8 : (Cond.fieldLink RX2 35 "GhostSigns$Line" "layers" "I") ∈ lw_tbl := tb_1 _ (List.mem_of_getElem? (l := tables_1_1) (i := 109) rfl)
set_option maxRecDepth 20000 in
theorem mL_16_9 : (Cond.methodLink RX9 170 yX8_sizeOfHouse) ∈ wsL_law := inr_16 _ (List.mem_of_getElem? (l := wsL_law_r16) (i := 9) rfl)
set_option maxRecDepth 20000 in
theorem tL_16_9 : (Cond.methodLink RX9 170 yX8_sizeOfHouse) ∈ lw_tbl := tb_2 _ (List.mem_of_getElem? (l := tables_1_2) (i := 193) rfl)
set_option maxRecDepth 20000 in
theorem mL_16_10 : (Cond.instanceMethod yX8_sizeOfHouse) ∈ wsL_law := inr_16 _ (List.mem_of_getElem? (l := wsL_law_r16) (i := 10) rfl)
set_option maxRecDepth 20000 in
theorem tL_16_10 : (Cond.instanceMethod yX8_sizeOfHouse) ∈ lw_tbl := tb_2 _ (List.mem_of_getElem? (l := tables_1_2) (i := 194) rfl)
set_option maxRecDepth 20000 in
theorem mL_16_11 : (Cond.selects RX8 yX8_sizeOfHouse yX8_sizeOfHouse) ∈ wsL_law := inr_16 _ (List.mem_of_getElem? (l := wsL_law_r16) (i := 11) rfl)
set_option maxRecDepth 20000 in
theorem tL_16_11 : (Cond.selects RX8 yX8_sizeOfHouse yX8_sizeOfHouse) ∈ lw_tbl := tb_2 _ (List.mem_of_getElem? (l := tables_1_2) (i := 195) rfl)
set_option maxRecDepth 20000 in
theorem mL_16_12 : (Cond.code yX8_sizeOfHouse cX8_sizeOfHouse 4 (some .int)) ∈ wsL_law := inr_16 _ (List.mem_of_getElem? (l := wsL_law_r16) (i := 12) rfl)
set_option maxRecDepth 20000 in
theorem tL_16_12 : (Cond.code yX8_sizeOfHouse cX8_sizeOfHouse 4 (some .int)) ∈ lw_tbl := tb_2 _ (List.mem_of_getElem? (l := tables_1_2) (i := 196) rfl)
set_option maxRecDepth 20000 in
theorem mL_16_13 : (Cond.methodLink RL 52 yX10_strike) ∈ wsL_law := inr_16 _ (List.mem_of_getElem? (l := wsL_law_r16) (i := 13) rfl)
set_option maxRecDepth 20000 in
theorem tL_16_13 : (Cond.methodLink RL 52 yX10_strike) ∈ lw_tbl := tb_5 _ (List.mem_of_getElem? (l := tables_1_5) (i := 66) rfl)
set_option maxRecDepth 20000 in
theorem mL_16_14 : (Cond.instanceMethod yX10_strike) ∈ wsL_law := inr_16 _ (List.mem_of_getElem? (l := wsL_law_r16) (i := 14) rfl)
set_option maxRecDepth 20000 in
theorem tL_16_14 : (Cond.instanceMethod yX10_strike) ∈ lw_tbl := tb_5 _ (List.mem_of_getElem? (l := tables_1_5) (i := 67) rfl)
set_option maxRecDepth 20000 in
theorem mL_16_15 : (Cond.selects RX10 yX10_strike yX10_strike) ∈ wsL_law := inr_16 _ (List.mem_of_getElem? (l := wsL_law_r16) (i := 15) rfl)
set_option maxRecDepth 20000 in
theorem tL_16_15 : (Cond.selects RX10 yX10_strike yX10_strike) ∈ lw_tbl := tb_5 _ (List.mem_of_getElem? (l := tables_1_5) (i := 68) rfl)
set_option maxRecDepth 20000 in
theorem mL_16_16 : (Cond.code yX10_strike cX10_strike 6 (some .int)) ∈ wsL_law := inr_16 _ (List.mem_of_getElem? (l := wsL_law_r16) (i := 16) rfl)
set_option maxRecDepth 20000 in
theorem tL_16_16 : (Cond.code yX10_strike cX10_strike 6 (some .int)) ∈ lw_tbl := tb_5 _ (List.mem_of_getElem? (l := tables_1_5) (i := 69) rfl)
set_option maxRecDepth 20000 in
theorem mL_16_17 : (Cond.methodLink RX10 160 yX10_askedFor) ∈ wsL_law := inr_16 _ (List.mem_of_getElem? (l := wsL_law_r16) (i := 17) rfl)
set_option maxRecDepth 20000 in
theorem tL_16_17 : (Cond.methodLink RX10 160 yX10_askedFor) ∈ lw_tbl := tb_5 _ (List.mem_of_getElem? (l := tables_1_5) (i := 70) rfl)
set_option maxRecDepth 20000 in
theorem mL_16_18 : (Cond.instanceMethod yX10_askedFor) ∈ wsL_law := inr_16 _ (List.mem_of_getElem? (l := wsL_law_r16) (i := 18) rfl)
set_option maxRecDepth 20000 in
theorem tL_16_18 : (Cond.instanceMethod yX10_askedFor) ∈ lw_tbl := tb_5 _ (List.mem_of_getElem? (l := tables_1_5) (i := 72) rfl)
set_option maxRecDepth 20000 in
theorem mL_16_19 : (Cond.selects RX10 yX10_askedFor yX10_askedFor) ∈ wsL_law := inr_16 _ (List.mem_of_getElem? (l := wsL_law_r16) (i := 19) rfl)
set_option maxRecDepth 20000 in
theorem tL_16_19 : (Cond.selects RX10 yX10_askedFor yX10_askedFor) ∈ lw_tbl := List.mem_append_left _ (List.mem_of_getElem? (l := k2_sels lw_privs) (i := 23) rfl)
set_option maxRecDepth 20000 in
theorem mL_16_20 : (Cond.code yX10_askedFor cX10_askedFor 2 (some .int)) ∈ wsL_law := inr_16 _ (List.mem_of_getElem? (l := wsL_law_r16) (i := 20) rfl)
set_option maxRecDepth 20000 in
theorem tL_16_20 : (Cond.code yX10_askedFor cX10_askedFor 2 (some .int)) ∈ lw_tbl := tb_5 _ (List.mem_of_getElem? (l := tables_1_5) (i := 73) rfl)
set_option maxRecDepth 20000 in
theorem mL_16_21 : (Cond.methodLink RX10 163 yX10_children) ∈ wsL_law := inr_16 _ (List.mem_of_getElem? (l := wsL_law_r16) (i := 21) rfl)
set_option maxRecDepth 20000 in
theorem tL_16_21 : (Cond.methodLink RX10 163 yX10_children) ∈ lw_tbl := tb_5 _ (List.mem_of_getElem? (l := tables_1_5) (i := 74) rfl)
set_option maxRecDepth 20000 in
theorem mL_16_22 : (Cond.instanceMethod yX10_children) ∈ wsL_law := inr_16 _ (List.mem_of_getElem? (l := wsL_law_r16) (i := 22) rfl)
set_option maxRecDepth 20000 in
theorem tL_16_22 : (Cond.instanceMethod yX10_children) ∈ lw_tbl := tb_5 _ (List.mem_of_getElem? (l := tables_1_5) (i := 76) rfl)
set_option maxRecDepth 20000 in
theorem mL_16_23 : (Cond.selects RX10 yX10_children yX10_children) ∈ wsL_law := inr_16 _ (List.mem_of_getElem? (l := wsL_law_r16) (i := 23) rfl)
set_option maxRecDepth 20000 in
theorem tL_16_23 : (Cond.selects RX10 yX10_children yX10_children) ∈ lw_tbl := List.mem_append_left _ (List.mem_of_getElem? (l := k2_sels lw_privs) (i := 24) rfl)
set_option maxRecDepth 20000 in
theorem tin_16 : ∀ w ∈ wsL_law_r16, w ∈ lw_tbl := List.forall_mem_cons.mpr ⟨tL_16_0, List.forall_mem_cons.mpr ⟨tL_16_1, List.forall_mem_cons.mpr ⟨tL_16_2, List.forall_mem_cons.mpr ⟨tL_16_3, List.forall_mem_cons.mpr ⟨tL_16_4, List.forall_mem_cons.mpr ⟨tL_16_5, List.forall_mem_cons.mpr ⟨tL_16_6, List.forall_mem_cons.mpr ⟨tL_16_7, List.forall_mem_cons.mpr ⟨tL_16_8, List.forall_mem_cons.mpr ⟨tL_16_9, List.forall_mem_cons.mpr ⟨tL_16_10, List.forall_mem_cons.mpr ⟨tL_16_11, List.forall_mem_cons.mpr ⟨tL_16_12, List.forall_mem_cons.mpr ⟨tL_16_13, List.forall_mem_cons.mpr ⟨tL_16_14, List.forall_mem_cons.mpr ⟨tL_16_15, List.forall_mem_cons.mpr ⟨tL_16_16, List.forall_mem_cons.mpr ⟨tL_16_17, List.forall_mem_cons.mpr ⟨tL_16_18, List.forall_mem_cons.mpr ⟨tL_16_19, List.forall_mem_cons.mpr ⟨tL_16_20, List.forall_mem_cons.mpr ⟨tL_16_21, List.forall_mem_cons.mpr ⟨tL_16_22, List.forall_mem_cons.mpr ⟨tL_16_23, List.forall_mem_nil _⟩⟩⟩⟩⟩⟩⟩⟩⟩⟩⟩⟩⟩⟩⟩⟩⟩⟩⟩⟩⟩⟩⟩⟩
set_option maxRecDepth 20000 in
theorem mL_17_0 : (Cond.code yX10_children cX10_children 4 (some .int)) ∈ wsL_law := inr_17 _ (List.mem_of_getElem? (l := wsL_law_r17) (i := 0) rfl)
set_option maxRecDepth 20000 in
theorem tL_17_0 : (Cond.code yX10_children cX10_children 4 (some .int)) ∈ lw_tbl := tb_5 _ (List.mem_of_getElem? (l := tables_1_5) (i := 77) rfl)
set_option maxRecDepth 20000 in
theorem mL_17_1 : (Cond.methodLink RL 53 yX9_told) ∈ wsL_law := inr_17 _ (List.mem_of_getElem? (l := wsL_law_r17) (i := 1) rfl)
set_option maxRecDepth 20000 in
theorem tL_17_1 : (Cond.methodLink RL 53 yX9_told) ∈ lw_tbl := tb_2 _ (List.mem_of_getElem? (l := tables_1_2) (i := 197) rfl)
set_option maxRecDepth 20000 in
theorem mL_17_2 : (Cond.instanceMethod yX9_told) ∈ wsL_law := inr_17 _ (List.mem_of_getElem? (l := wsL_law_r17) (i := 2) rfl)
set_option maxRecDepth 20000 in
theorem tL_17_2 : (Cond.instanceMethod yX9_told) ∈ lw_tbl := tb_2 _ (List.mem_of_getElem? (l := tables_1_2) (i := 198) rfl)
set_option maxRecDepth 20000 in
theorem mL_17_3 : (Cond.selects RX9 yX9_told yX9_told) ∈ wsL_law := inr_17 _ (List.mem_of_getElem? (l := wsL_law_r17) (i := 3) rfl)
set_option maxRecDepth 20000 in
theorem tL_17_3 : (Cond.selects RX9 yX9_told yX9_told) ∈ lw_tbl := tb_2 _ (List.mem_of_getElem? (l := tables_1_2) (i := 199) rfl)
set_option maxRecDepth 20000 in
theorem mL_17_4 : (Cond.code yX9_told cX9_told 3 (some .int)) ∈ wsL_law := inr_17 _ (List.mem_of_getElem? (l := wsL_law_r17) (i := 4) rfl)
set_option maxRecDepth 20000 in
theorem tL_17_4 : (Cond.code yX9_told cX9_told 3 (some .int)) ∈ lw_tbl := tb_2 _ (List.mem_of_getElem? (l := tables_1_2) (i := 200) rfl)
set_option maxRecDepth 20000 in
theorem mL_17_5 : (Cond.methodLink RX9 173 yX8_factOf) ∈ wsL_law := inr_17 _ (List.mem_of_getElem? (l := wsL_law_r17) (i := 5) rfl)
set_option maxRecDepth 20000 in
theorem tL_17_5 : (Cond.methodLink RX9 173 yX8_factOf) ∈ lw_tbl := tb_2 _ (List.mem_of_getElem? (l := tables_1_2) (i := 201) rfl)
set_option maxRecDepth 20000 in
theorem mL_17_6 : (Cond.instanceMethod yX8_factOf) ∈ wsL_law := inr_17 _ (List.mem_of_getElem? (l := wsL_law_r17) (i := 6) rfl)
set_option maxRecDepth 20000 in
theorem tL_17_6 : (Cond.instanceMethod yX8_factOf) ∈ lw_tbl := tb_2 _ (List.mem_of_getElem? (l := tables_1_2) (i := 202) rfl)
set_option maxRecDepth 20000 in
theorem mL_17_7 : (Cond.selects RX8 yX8_factOf yX8_factOf) ∈ wsL_law := inr_17 _ (List.mem_of_getElem? (l := wsL_law_r17) (i := 7) rfl)
set_option maxRecDepth 20000 in
theorem tL_17_7 : (Cond.selects RX8 yX8_factOf yX8_factOf) ∈ lw_tbl := tb_2 _ (List.mem_of_getElem? (l := tables_1_2) (i := 203) rfl)
set_option maxRecDepth 20000 in
theorem mL_17_8 : (Cond.code yX8_factOf cX8_factOf 3 (some .int)) ∈ wsL_law := inr_17 _ (List.mem_of_getElem? (l := wsL_law_r17) (i := 8) rfl)
set_option maxRecDepth 20000 in
theorem tL_17_8 : (Cond.code yX8_factOf cX8_factOf 3 (some .int)) ∈ lw_tbl := tb_2 _ (List.mem_of_getElem? (l := tables_1_2) (i := 204) rfl)
set_option maxRecDepth 20000 in
theorem mL_17_9 : (Cond.methodLink RX8 57 yX8_sizeInCells) ∈ wsL_law := inr_17 _ (List.mem_of_getElem? (l := wsL_law_r17) (i := 9) rfl)
set_option maxRecDepth 20000 in
theorem tL_17_9 : (Cond.methodLink RX8 57 yX8_sizeInCells) ∈ lw_tbl := tb_2 _ (List.mem_of_getElem? (l := tables_1_2) (i := 205) rfl)
set_option maxRecDepth 20000 in
theorem mL_17_10 : (Cond.instanceMethod yX8_sizeInCells) ∈ wsL_law := inr_17 _ (List.mem_of_getElem? (l := wsL_law_r17) (i := 10) rfl)
set_option maxRecDepth 20000 in
theorem tL_17_10 : (Cond.instanceMethod yX8_sizeInCells) ∈ lw_tbl := tb_2 _ (List.mem_of_getElem? (l := tables_1_2) (i := 207) rfl)
set_option maxRecDepth 20000 in
theorem mL_17_11 : (Cond.selects RX8 yX8_sizeInCells yX8_sizeInCells) ∈ wsL_law := inr_17 _ (List.mem_of_getElem? (l := wsL_law_r17) (i := 11) rfl)
set_option maxRecDepth 20000 in
theorem tL_17_11 : (Cond.selects RX8 yX8_sizeInCells yX8_sizeInCells) ∈ lw_tbl := List.mem_append_left _ (List.mem_of_getElem? (l := k2_sels lw_privs) (i := 3) rfl)
set_option maxRecDepth 20000 in
theorem mL_17_12 : (Cond.code yX8_sizeInCells cX8_sizeInCells 4 (some .int)) ∈ wsL_law := inr_17 _ (List.mem_of_getElem? (l := wsL_law_r17) (i := 12) rfl)
set_option maxRecDepth 20000 in
theorem tL_17_12 : (Cond.code yX8_sizeInCells cX8_sizeInCells 4 (some .int)) ∈ lw_tbl := tb_2 _ (List.mem_of_getElem? (l := tables_1_2) (i := 208) rfl)
set_option maxRecDepth 20000 in
theorem mL_17_13 : (Cond.methodLink RX8 61 yX8_cellsIn) ∈ wsL_law := inr_17 _ (List.mem_of_getElem? (l := wsL_law_r17) (i := 13) rfl)
set_option maxRecDepth 20000 in
theorem tL_17_13 : (Cond.methodLink RX8 61 yX8_cellsIn) ∈ lw_tbl := tb_2 _ (List.mem_of_getElem? (l := tables_1_2) (i := 209) rfl)
set_option maxRecDepth 20000 in
theorem mL_17_14 : (Cond.instanceMethod yX8_cellsIn) ∈ wsL_law := inr_17 _ (List.mem_of_getElem? (l := wsL_law_r17) (i := 14) rfl)
set_option maxRecDepth 20000 in
theorem tL_17_14 : (Cond.instanceMethod yX8_cellsIn) ∈ lw_tbl := tb_2 _ (List.mem_of_getElem? (l := tables_1_2) (i := 210) rfl)
set_option maxRecDepth 20000 in
theorem mL_17_15 : (Cond.selects RX8 yX8_cellsIn yX8_cellsIn) ∈ wsL_law := inr_17 _ (List.mem_of_getElem? (l := wsL_law_r17) (i := 15) rfl)
set_option maxRecDepth 20000 in
theorem tL_17_15 : (Cond.selects RX8 yX8_cellsIn yX8_cellsIn) ∈ lw_tbl := tb_2 _ (List.mem_of_getElem? (l := tables_1_2) (i := 211) rfl)
set_option maxRecDepth 20000 in
theorem mL_17_16 : (Cond.code yX8_cellsIn cX8_cellsIn 5 (some .int)) ∈ wsL_law := inr_17 _ (List.mem_of_getElem? (l := wsL_law_r17) (i := 16) rfl)
set_option maxRecDepth 20000 in
theorem tL_17_16 : (Cond.code yX8_cellsIn cX8_cellsIn 5 (some .int)) ∈ lw_tbl := tb_2 _ (List.mem_of_getElem? (l := tables_1_2) (i := 212) rfl)
set_option maxRecDepth 20000 in
theorem mL_17_17 : (Cond.methodLink RX8 65 yJ6_bitCount_0f7a4) ∈ wsL_law := inr_17 _ (List.mem_of_getElem? (l := wsL_law_r17) (i := 17) rfl)
set_option maxRecDepth 20000 in
theorem tL_17_17 : (Cond.methodLink RX8 65 yJ6_bitCount_0f7a4) ∈ lw_tbl := tb_2 _ (List.mem_of_getElem? (l := tables_1_2) (i := 213) rfl)
set_option maxRecDepth 20000 in
theorem mL_17_18 : (Cond.static yJ6_bitCount_0f7a4) ∈ wsL_law := inr_17 _ (List.mem_of_getElem? (l := wsL_law_r17) (i := 18) rfl)
set_option maxRecDepth 20000 in
theorem tL_17_18 : (Cond.static yJ6_bitCount_0f7a4) ∈ lw_tbl := tb_2 _ (List.mem_of_getElem? (l := tables_1_2) (i := 214) rfl)
set_option maxRecDepth 20000 in
theorem mL_17_19 : (Cond.initialized RJ6) ∈ wsL_law := inr_17 _ (List.mem_of_getElem? (l := wsL_law_r17) (i := 19) rfl)
set_option maxRecDepth 20000 in
theorem tL_17_19 : (Cond.initialized RJ6) ∈ lw_tbl := tb_1 _ (List.mem_of_getElem? (l := tables_1_1) (i := 14) rfl)
set_option maxRecDepth 20000 in
theorem mL_17_20 : (Cond.code yJ6_bitCount_0f7a4 cJ6_bitCount_0f7a4 1 (some .int)) ∈ wsL_law := inr_17 _ (List.mem_of_getElem? (l := wsL_law_r17) (i := 20) rfl)
set_option maxRecDepth 20000 in
theorem tL_17_20 : (Cond.code yJ6_bitCount_0f7a4 cJ6_bitCount_0f7a4 1 (some .int)) ∈ lw_tbl := tb_2 _ (List.mem_of_getElem? (l := tables_1_2) (i := 215) rfl)
set_option maxRecDepth 20000 in
theorem mL_17_21 : (Cond.constant RJ6 265 (1431655765)) ∈ wsL_law := inr_17 _ (List.mem_of_getElem? (l := wsL_law_r17) (i := 21) rfl)
set_option maxRecDepth 20000 in
theorem tL_17_21 : (Cond.constant RJ6 265 (1431655765)) ∈ lw_tbl := tb_2 _ (List.mem_of_getElem? (l := tables_1_2) (i := 216) rfl)
set_option maxRecDepth 20000 in
theorem mL_17_22 : (Cond.constant RJ6 266 (858993459)) ∈ wsL_law := inr_17 _ (List.mem_of_getElem? (l := wsL_law_r17) (i := 22) rfl)
set_option maxRecDepth 20000 in
theorem tL_17_22 : (Cond.constant RJ6 266 (858993459)) ∈ lw_tbl := tb_2 _ (List.mem_of_getElem? (l := tables_1_2) (i := 217) rfl)
set_option maxRecDepth 20000 in
theorem mL_17_23 : (Cond.constant RJ6 267 (252645135)) ∈ wsL_law := inr_17 _ (List.mem_of_getElem? (l := wsL_law_r17) (i := 23) rfl)
set_option maxRecDepth 20000 in
theorem tL_17_23 : (Cond.constant RJ6 267 (252645135)) ∈ lw_tbl := tb_2 _ (List.mem_of_getElem? (l := tables_1_2) (i := 218) rfl)
set_option maxRecDepth 20000 in
theorem tin_17 : ∀ w ∈ wsL_law_r17, w ∈ lw_tbl := List.forall_mem_cons.mpr ⟨tL_17_0, List.forall_mem_cons.mpr ⟨tL_17_1, List.forall_mem_cons.mpr ⟨tL_17_2, List.forall_mem_cons.mpr ⟨tL_17_3, List.forall_mem_cons.mpr ⟨tL_17_4, List.forall_mem_cons.mpr ⟨tL_17_5, List.forall_mem_cons.mpr ⟨tL_17_6, List.forall_mem_cons.mpr ⟨tL_17_7, List.forall_mem_cons.mpr ⟨tL_17_8, List.forall_mem_cons.mpr ⟨tL_17_9, List.forall_mem_cons.mpr ⟨tL_17_10, List.forall_mem_cons.mpr ⟨tL_17_11, List.forall_mem_cons.mpr ⟨tL_17_12, List.forall_mem_cons.mpr ⟨tL_17_13, List.forall_mem_cons.mpr ⟨tL_17_14, List.forall_mem_cons.mpr ⟨tL_17_15, List.forall_mem_cons.mpr ⟨tL_17_16, List.forall_mem_cons.mpr ⟨tL_17_17, List.forall_mem_cons.mpr ⟨tL_17_18, List.forall_mem_cons.mpr ⟨tL_17_19, List.forall_mem_cons.mpr ⟨tL_17_20, List.forall_mem_cons.mpr ⟨tL_17_21, List.forall_mem_cons.mpr ⟨tL_17_22, List.forall_mem_cons.mpr ⟨tL_17_23, List.forall_mem_nil _⟩⟩⟩⟩⟩⟩⟩⟩⟩⟩⟩⟩⟩⟩⟩⟩⟩⟩⟩⟩⟩⟩⟩⟩
set_option maxRecDepth 20000 in
theorem mL_18_0 : (Cond.methodLink RL 56 yX10_told) ∈ wsL_law := inr_18 _ (List.mem_of_getElem? (l := wsL_law_r18) (i := 0) rfl)
set_option maxRecDepth 20000 in
theorem tL_18_0 : (Cond.methodLink RL 56 yX10_told) ∈ lw_tbl := tb_5 _ (List.mem_of_getElem? (l := tables_1_5) (i := 78) rfl)
set_option maxRecDepth 20000 in
theorem mL_18_1 : (Cond.instanceMethod yX10_told) ∈ wsL_law := inr_18 _ (List.mem_of_getElem? (l := wsL_law_r18) (i := 1) rfl)
set_option maxRecDepth 20000 in
theorem tL_18_1 : (Cond.instanceMethod yX10_told) ∈ lw_tbl := tb_5 _ (List.mem_of_getElem? (l := tables_1_5) (i := 79) rfl)
set_option maxRecDepth 20000 in
theorem mL_18_2 : (Cond.selects RX10 yX10_told yX10_told) ∈ wsL_law := inr_18 _ (List.mem_of_getElem? (l := wsL_law_r18) (i := 2) rfl)
set_option maxRecDepth 20000 in
theorem tL_18_2 : (Cond.selects RX10 yX10_told yX10_told) ∈ lw_tbl := tb_5 _ (List.mem_of_getElem? (l := tables_1_5) (i := 80) rfl)
set_option maxRecDepth 20000 in
theorem mL_18_3 : (Cond.code yX10_told cX10_told 4 (some .int)) ∈ wsL_law := inr_18 _ (List.mem_of_getElem? (l := wsL_law_r18) (i := 3) rfl)
set_option maxRecDepth 20000 in
theorem tL_18_3 : (Cond.code yX10_told cX10_told 4 (some .int)) ∈ lw_tbl := tb_5 _ (List.mem_of_getElem? (l := tables_1_5) (i := 81) rfl)
set_option maxRecDepth 20000 in
theorem mL_18_4 : (Cond.methodLink RX10 169 yX10_tells) ∈ wsL_law := inr_18 _ (List.mem_of_getElem? (l := wsL_law_r18) (i := 4) rfl)
set_option maxRecDepth 20000 in
theorem tL_18_4 : (Cond.methodLink RX10 169 yX10_tells) ∈ lw_tbl := tb_5 _ (List.mem_of_getElem? (l := tables_1_5) (i := 82) rfl)
set_option maxRecDepth 20000 in
theorem mL_18_5 : (Cond.instanceMethod yX10_tells) ∈ wsL_law := inr_18 _ (List.mem_of_getElem? (l := wsL_law_r18) (i := 5) rfl)
set_option maxRecDepth 20000 in
theorem tL_18_5 : (Cond.instanceMethod yX10_tells) ∈ lw_tbl := tb_5 _ (List.mem_of_getElem? (l := tables_1_5) (i := 84) rfl)
set_option maxRecDepth 20000 in
theorem mL_18_6 : (Cond.selects RX10 yX10_tells yX10_tells) ∈ wsL_law := inr_18 _ (List.mem_of_getElem? (l := wsL_law_r18) (i := 6) rfl)
set_option maxRecDepth 20000 in
theorem tL_18_6 : (Cond.selects RX10 yX10_tells yX10_tells) ∈ lw_tbl := List.mem_append_left _ (List.mem_of_getElem? (l := k2_sels lw_privs) (i := 25) rfl)
set_option maxRecDepth 20000 in
theorem mL_18_7 : (Cond.code yX10_tells cX10_tells 5 (some .int)) ∈ wsL_law := inr_18 _ (List.mem_of_getElem? (l := wsL_law_r18) (i := 7) rfl)
set_option maxRecDepth 20000 in
theorem tL_18_7 : (Cond.code yX10_tells cX10_tells 5 (some .int)) ∈ lw_tbl := tb_5 _ (List.mem_of_getElem? (l := tables_1_5) (i := 85) rfl)
set_option maxRecDepth 20000 in
theorem mL_18_8 : (Cond.methodLink RX10 166 yX10_bits) ∈ wsL_law := inr_18 _ (List.mem_of_getElem? (l := wsL_law_r18) (i := 8) rfl)
set_option maxRecDepth 20000 in
theorem tL_18_8 : (Cond.methodLink RX10 166 yX10_bits) ∈ lw_tbl := tb_5 _ (List.mem_of_getElem? (l := tables_1_5) (i := 86) rfl)
set_option maxRecDepth 20000 in
theorem mL_18_9 : (Cond.static yX10_bits) ∈ wsL_law := inr_18 _ (List.mem_of_getElem? (l := wsL_law_r18) (i := 9) rfl)
set_option maxRecDepth 20000 in
theorem tL_18_9 : (Cond.static yX10_bits) ∈ lw_tbl := tb_5 _ (List.mem_of_getElem? (l := tables_1_5) (i := 87) rfl)
set_option maxRecDepth 20000 in
theorem mL_18_10 : (Cond.code yX10_bits cX10_bits 3 (some .int)) ∈ wsL_law := inr_18 _ (List.mem_of_getElem? (l := wsL_law_r18) (i := 10) rfl)
set_option maxRecDepth 20000 in
theorem tL_18_10 : (Cond.code yX10_bits cX10_bits 3 (some .int)) ∈ lw_tbl := tb_5 _ (List.mem_of_getElem? (l := tables_1_5) (i := 88) rfl)
set_option maxRecDepth 20000 in
theorem mL_18_11 : (Cond.methodLink RL 57 yX9_mark) ∈ wsL_law := inr_18 _ (List.mem_of_getElem? (l := wsL_law_r18) (i := 11) rfl)
set_option maxRecDepth 20000 in
theorem tL_18_11 : (Cond.methodLink RL 57 yX9_mark) ∈ lw_tbl := tb_2 _ (List.mem_of_getElem? (l := tables_1_2) (i := 219) rfl)
set_option maxRecDepth 20000 in
theorem mL_18_12 : (Cond.instanceMethod yX9_mark) ∈ wsL_law := inr_18 _ (List.mem_of_getElem? (l := wsL_law_r18) (i := 12) rfl)
set_option maxRecDepth 20000 in
theorem tL_18_12 : (Cond.instanceMethod yX9_mark) ∈ lw_tbl := tb_2 _ (List.mem_of_getElem? (l := tables_1_2) (i := 220) rfl)
set_option maxRecDepth 20000 in
theorem mL_18_13 : (Cond.selects RX9 yX9_mark yX9_mark) ∈ wsL_law := inr_18 _ (List.mem_of_getElem? (l := wsL_law_r18) (i := 13) rfl)
set_option maxRecDepth 20000 in
theorem tL_18_13 : (Cond.selects RX9 yX9_mark yX9_mark) ∈ lw_tbl := tb_2 _ (List.mem_of_getElem? (l := tables_1_2) (i := 221) rfl)
set_option maxRecDepth 20000 in
theorem mL_18_14 : (Cond.code yX9_mark cX9_mark 3 (some .int)) ∈ wsL_law := inr_18 _ (List.mem_of_getElem? (l := wsL_law_r18) (i := 14) rfl)
set_option maxRecDepth 20000 in
theorem tL_18_14 : (Cond.code yX9_mark cX9_mark 3 (some .int)) ∈ lw_tbl := tb_2 _ (List.mem_of_getElem? (l := tables_1_2) (i := 222) rfl)
set_option maxRecDepth 20000 in
theorem mL_18_15 : (Cond.fieldLink RX9 179 "GhostSigns$Words" "firms" "[I") ∈ wsL_law := inr_18 _ (List.mem_of_getElem? (l := wsL_law_r18) (i := 15) rfl)
set_option maxRecDepth 20000 in
theorem tL_18_15 : (Cond.fieldLink RX9 179 "GhostSigns$Words" "firms" "[I") ∈ lw_tbl := tb_1 _ (List.mem_of_getElem? (l := tables_1_1) (i := 59) rfl)
set_option maxRecDepth 20000 in
theorem mL_18_16 : (Cond.methodLink RX9 176 yX8_founderOf) ∈ wsL_law := inr_18 _ (List.mem_of_getElem? (l := wsL_law_r18) (i := 16) rfl)
set_option maxRecDepth 20000 in
theorem tL_18_16 : (Cond.methodLink RX9 176 yX8_founderOf) ∈ lw_tbl := tb_2 _ (List.mem_of_getElem? (l := tables_1_2) (i := 223) rfl)
set_option maxRecDepth 20000 in
theorem mL_18_17 : (Cond.instanceMethod yX8_founderOf) ∈ wsL_law := inr_18 _ (List.mem_of_getElem? (l := wsL_law_r18) (i := 17) rfl)
set_option maxRecDepth 20000 in
theorem tL_18_17 : (Cond.instanceMethod yX8_founderOf) ∈ lw_tbl := tb_2 _ (List.mem_of_getElem? (l := tables_1_2) (i := 224) rfl)
set_option maxRecDepth 20000 in
theorem mL_18_18 : (Cond.selects RX8 yX8_founderOf yX8_founderOf) ∈ wsL_law := inr_18 _ (List.mem_of_getElem? (l := wsL_law_r18) (i := 18) rfl)
set_option maxRecDepth 20000 in
theorem tL_18_18 : (Cond.selects RX8 yX8_founderOf yX8_founderOf) ∈ lw_tbl := tb_2 _ (List.mem_of_getElem? (l := tables_1_2) (i := 225) rfl)
set_option maxRecDepth 20000 in
theorem mL_18_19 : (Cond.code yX8_founderOf cX8_founderOf 4 (some .int)) ∈ wsL_law := inr_18 _ (List.mem_of_getElem? (l := wsL_law_r18) (i := 19) rfl)
set_option maxRecDepth 20000 in
theorem tL_18_19 : (Cond.code yX8_founderOf cX8_founderOf 4 (some .int)) ∈ lw_tbl := tb_2 _ (List.mem_of_getElem? (l := tables_1_2) (i := 226) rfl)
set_option maxRecDepth 20000 in
theorem mL_18_20 : (Cond.methodLink RL 60 yX10_mark) ∈ wsL_law := inr_18 _ (List.mem_of_getElem? (l := wsL_law_r18) (i := 20) rfl)
set_option maxRecDepth 20000 in
theorem tL_18_20 : (Cond.methodLink RL 60 yX10_mark) ∈ lw_tbl := tb_5 _ (List.mem_of_getElem? (l := tables_1_5) (i := 89) rfl)
set_option maxRecDepth 20000 in
theorem mL_18_21 : (Cond.instanceMethod yX10_mark) ∈ wsL_law := inr_18 _ (List.mem_of_getElem? (l := wsL_law_r18) (i := 21) rfl)
set_option maxRecDepth 20000 in
theorem tL_18_21 : (Cond.instanceMethod yX10_mark) ∈ lw_tbl := tb_5 _ (List.mem_of_getElem? (l := tables_1_5) (i := 90) rfl)
set_option maxRecDepth 20000 in
theorem mL_18_22 : (Cond.selects RX10 yX10_mark yX10_mark) ∈ wsL_law := inr_18 _ (List.mem_of_getElem? (l := wsL_law_r18) (i := 22) rfl)
set_option maxRecDepth 20000 in
theorem tL_18_22 : (Cond.selects RX10 yX10_mark yX10_mark) ∈ lw_tbl := tb_5 _ (List.mem_of_getElem? (l := tables_1_5) (i := 91) rfl)
set_option maxRecDepth 20000 in
theorem mL_18_23 : (Cond.code yX10_mark cX10_mark 5 (some .int)) ∈ wsL_law := inr_18 _ (List.mem_of_getElem? (l := wsL_law_r18) (i := 23) rfl)
set_option maxRecDepth 20000 in
theorem tL_18_23 : (Cond.code yX10_mark cX10_mark 5 (some .int)) ∈ lw_tbl := tb_5 _ (List.mem_of_getElem? (l := tables_1_5) (i := 92) rfl)
set_option maxRecDepth 20000 in
theorem tin_18 : ∀ w ∈ wsL_law_r18, w ∈ lw_tbl := List.forall_mem_cons.mpr ⟨tL_18_0, List.forall_mem_cons.mpr ⟨tL_18_1, List.forall_mem_cons.mpr ⟨tL_18_2, List.forall_mem_cons.mpr ⟨tL_18_3, List.forall_mem_cons.mpr ⟨tL_18_4, List.forall_mem_cons.mpr ⟨tL_18_5, List.forall_mem_cons.mpr ⟨tL_18_6, List.forall_mem_cons.mpr ⟨tL_18_7, List.forall_mem_cons.mpr ⟨tL_18_8, List.forall_mem_cons.mpr ⟨tL_18_9, List.forall_mem_cons.mpr ⟨tL_18_10, List.forall_mem_cons.mpr ⟨tL_18_11, List.forall_mem_cons.mpr ⟨tL_18_12, List.forall_mem_cons.mpr ⟨tL_18_13, List.forall_mem_cons.mpr ⟨tL_18_14, List.forall_mem_cons.mpr ⟨tL_18_15, List.forall_mem_cons.mpr ⟨tL_18_16, List.forall_mem_cons.mpr ⟨tL_18_17, List.forall_mem_cons.mpr ⟨tL_18_18, List.forall_mem_cons.mpr ⟨tL_18_19, List.forall_mem_cons.mpr ⟨tL_18_20, List.forall_mem_cons.mpr ⟨tL_18_21, List.forall_mem_cons.mpr ⟨tL_18_22, List.forall_mem_cons.mpr ⟨tL_18_23, List.forall_mem_nil _⟩⟩⟩⟩⟩⟩⟩⟩⟩⟩⟩⟩⟩⟩⟩⟩⟩⟩⟩⟩⟩⟩⟩⟩
set_option maxRecDepth 20000 in
theorem mL_19_0 : (Cond.methodLink RL 61 yX9_mean) ∈ wsL_law := inr_19 _ (List.mem_of_getElem? (l := wsL_law_r19) (i := 0) rfl)
set_option maxRecDepth 20000 in
theorem tL_19_0 : (Cond.methodLink RL 61 yX9_mean) ∈ lw_tbl := tb_2 _ (List.mem_of_getElem? (l := tables_1_2) (i := 227) rfl)
set_option maxRecDepth 20000 in
theorem mL_19_1 : (Cond.instanceMethod yX9_mean) ∈ wsL_law := inr_19 _ (List.mem_of_getElem? (l := wsL_law_r19) (i := 1) rfl)
set_option maxRecDepth 20000 in
theorem tL_19_1 : (Cond.instanceMethod yX9_mean) ∈ lw_tbl := tb_2 _ (List.mem_of_getElem? (l := tables_1_2) (i := 228) rfl)
set_option maxRecDepth 20000 in
theorem mL_19_2 : (Cond.selects RX9 yX9_mean yX9_mean) ∈ wsL_law := inr_19 _ (List.mem_of_getElem? (l := wsL_law_r19) (i := 2) rfl)
set_option maxRecDepth 20000 in
theorem tL_19_2 : (Cond.selects RX9 yX9_mean yX9_mean) ∈ lw_tbl := tb_2 _ (List.mem_of_getElem? (l := tables_1_2) (i := 229) rfl)
set_option maxRecDepth 20000 in
theorem mL_19_3 : (Cond.code yX9_mean cX9_mean 2 (some .int)) ∈ wsL_law := inr_19 _ (List.mem_of_getElem? (l := wsL_law_r19) (i := 3) rfl)
set_option maxRecDepth 20000 in
theorem tL_19_3 : (Cond.code yX9_mean cX9_mean 2 (some .int)) ∈ lw_tbl := tb_2 _ (List.mem_of_getElem? (l := tables_1_2) (i := 230) rfl)
set_option maxRecDepth 20000 in
theorem mL_19_4 : (Cond.methodLink RX9 182 yX8_sizeThere) ∈ wsL_law := inr_19 _ (List.mem_of_getElem? (l := wsL_law_r19) (i := 4) rfl)
set_option maxRecDepth 20000 in
theorem tL_19_4 : (Cond.methodLink RX9 182 yX8_sizeThere) ∈ lw_tbl := tb_2 _ (List.mem_of_getElem? (l := tables_1_2) (i := 231) rfl)
set_option maxRecDepth 20000 in
theorem mL_19_5 : (Cond.instanceMethod yX8_sizeThere) ∈ wsL_law := inr_19 _ (List.mem_of_getElem? (l := wsL_law_r19) (i := 5) rfl)
set_option maxRecDepth 20000 in
theorem tL_19_5 : (Cond.instanceMethod yX8_sizeThere) ∈ lw_tbl := tb_2 _ (List.mem_of_getElem? (l := tables_1_2) (i := 232) rfl)
set_option maxRecDepth 20000 in
theorem mL_19_6 : (Cond.selects RX8 yX8_sizeThere yX8_sizeThere) ∈ wsL_law := inr_19 _ (List.mem_of_getElem? (l := wsL_law_r19) (i := 6) rfl)
set_option maxRecDepth 20000 in
theorem tL_19_6 : (Cond.selects RX8 yX8_sizeThere yX8_sizeThere) ∈ lw_tbl := tb_2 _ (List.mem_of_getElem? (l := tables_1_2) (i := 233) rfl)
set_option maxRecDepth 20000 in
theorem mL_19_7 : (Cond.code yX8_sizeThere cX8_sizeThere 3 (some .int)) ∈ wsL_law := inr_19 _ (List.mem_of_getElem? (l := wsL_law_r19) (i := 7) rfl)
set_option maxRecDepth 20000 in
theorem tL_19_7 : (Cond.code yX8_sizeThere cX8_sizeThere 3 (some .int)) ∈ lw_tbl := tb_2 _ (List.mem_of_getElem? (l := tables_1_2) (i := 234) rfl)
set_option maxRecDepth 20000 in
theorem mL_19_8 : (Cond.methodLink RX9 186 yX8_lettersThere) ∈ wsL_law := inr_19 _ (List.mem_of_getElem? (l := wsL_law_r19) (i := 8) rfl)
set_option maxRecDepth 20000 in
theorem tL_19_8 : (Cond.methodLink RX9 186 yX8_lettersThere) ∈ lw_tbl := tb_2 _ (List.mem_of_getElem? (l := tables_1_2) (i := 235) rfl)
set_option maxRecDepth 20000 in
theorem mL_19_9 : (Cond.instanceMethod yX8_lettersThere) ∈ wsL_law := inr_19 _ (List.mem_of_getElem? (l := wsL_law_r19) (i := 9) rfl)
set_option maxRecDepth 20000 in
theorem tL_19_9 : (Cond.instanceMethod yX8_lettersThere) ∈ lw_tbl := tb_2 _ (List.mem_of_getElem? (l := tables_1_2) (i := 236) rfl)
set_option maxRecDepth 20000 in
theorem mL_19_10 : (Cond.selects RX8 yX8_lettersThere yX8_lettersThere) ∈ wsL_law := inr_19 _ (List.mem_of_getElem? (l := wsL_law_r19) (i := 10) rfl)
set_option maxRecDepth 20000 in
theorem tL_19_10 : (Cond.selects RX8 yX8_lettersThere yX8_lettersThere) ∈ lw_tbl := tb_2 _ (List.mem_of_getElem? (l := tables_1_2) (i := 237) rfl)
set_option maxRecDepth 20000 in
theorem mL_19_11 : (Cond.code yX8_lettersThere cX8_lettersThere 3 (some .int)) ∈ wsL_law := inr_19 _ (List.mem_of_getElem? (l := wsL_law_r19) (i := 11) rfl)
set_option maxRecDepth 20000 in
theorem tL_19_11 : (Cond.code yX8_lettersThere cX8_lettersThere 3 (some .int)) ∈ lw_tbl := tb_2 _ (List.mem_of_getElem? (l := tables_1_2) (i := 238) rfl)
set_option maxRecDepth 20000 in
theorem mL_19_12 : (Cond.methodLink RL 65 yX10_mean) ∈ wsL_law := inr_19 _ (List.mem_of_getElem? (l := wsL_law_r19) (i := 12) rfl)
set_option maxRecDepth 20000 in
theorem tL_19_12 : (Cond.methodLink RL 65 yX10_mean) ∈ lw_tbl := tb_5 _ (List.mem_of_getElem? (l := tables_1_5) (i := 93) rfl)
set_option maxRecDepth 20000 in
theorem mL_19_13 : (Cond.instanceMethod yX10_mean) ∈ wsL_law := inr_19 _ (List.mem_of_getElem? (l := wsL_law_r19) (i := 13) rfl)
set_option maxRecDepth 20000 in
theorem tL_19_13 : (Cond.instanceMethod yX10_mean) ∈ lw_tbl := tb_5 _ (List.mem_of_getElem? (l := tables_1_5) (i := 94) rfl)
set_option maxRecDepth 20000 in
theorem mL_19_14 : (Cond.selects RX10 yX10_mean yX10_mean) ∈ wsL_law := inr_19 _ (List.mem_of_getElem? (l := wsL_law_r19) (i := 14) rfl)
set_option maxRecDepth 20000 in
theorem tL_19_14 : (Cond.selects RX10 yX10_mean yX10_mean) ∈ lw_tbl := tb_5 _ (List.mem_of_getElem? (l := tables_1_5) (i := 95) rfl)
set_option maxRecDepth 20000 in
theorem mL_19_15 : (Cond.code yX10_mean cX10_mean 4 (some .int)) ∈ wsL_law := inr_19 _ (List.mem_of_getElem? (l := wsL_law_r19) (i := 15) rfl)
set_option maxRecDepth 20000 in
theorem tL_19_15 : (Cond.code yX10_mean cX10_mean 4 (some .int)) ∈ lw_tbl := tb_5 _ (List.mem_of_getElem? (l := tables_1_5) (i := 96) rfl)
set_option maxRecDepth 20000 in
theorem mL_19_16 : (Cond.methodLink RL 66 yX9_see) ∈ wsL_law := inr_19 _ (List.mem_of_getElem? (l := wsL_law_r19) (i := 16) rfl)
set_option maxRecDepth 20000 in
theorem tL_19_16 : (Cond.methodLink RL 66 yX9_see) ∈ lw_tbl := tb_2 _ (List.mem_of_getElem? (l := tables_1_2) (i := 239) rfl)
set_option maxRecDepth 20000 in
theorem mL_19_17 : (Cond.instanceMethod yX9_see) ∈ wsL_law := inr_19 _ (List.mem_of_getElem? (l := wsL_law_r19) (i := 17) rfl)
set_option maxRecDepth 20000 in
theorem tL_19_17 : (Cond.instanceMethod yX9_see) ∈ lw_tbl := tb_3 _ (List.mem_of_getElem? (l := tables_1_3) (i := 0) rfl)
set_option maxRecDepth 20000 in
theorem mL_19_18 : (Cond.selects RX9 yX9_see yX9_see) ∈ wsL_law := inr_19 _ (List.mem_of_getElem? (l := wsL_law_r19) (i := 18) rfl)
set_option maxRecDepth 20000 in
theorem tL_19_18 : (Cond.selects RX9 yX9_see yX9_see) ∈ lw_tbl := tb_3 _ (List.mem_of_getElem? (l := tables_1_3) (i := 1) rfl)
set_option maxRecDepth 20000 in
theorem mL_19_19 : (Cond.code yX9_see cX9_see 5 (some .int)) ∈ wsL_law := inr_19 _ (List.mem_of_getElem? (l := wsL_law_r19) (i := 19) rfl)
set_option maxRecDepth 20000 in
theorem tL_19_19 : (Cond.code yX9_see cX9_see 5 (some .int)) ∈ lw_tbl := tb_3 _ (List.mem_of_getElem? (l := tables_1_3) (i := 2) rfl)
set_option maxRecDepth 20000 in
theorem mL_19_20 : (Cond.methodLink RX9 189 yX9_isLine) ∈ wsL_law := inr_19 _ (List.mem_of_getElem? (l := wsL_law_r19) (i := 20) rfl)
set_option maxRecDepth 20000 in
theorem tL_19_20 : (Cond.methodLink RX9 189 yX9_isLine) ∈ lw_tbl := tb_3 _ (List.mem_of_getElem? (l := tables_1_3) (i := 3) rfl)
set_option maxRecDepth 20000 in
theorem mL_19_21 : (Cond.static yX9_isLine) ∈ wsL_law := inr_19 _ (List.mem_of_getElem? (l := wsL_law_r19) (i := 21) rfl)
set_option maxRecDepth 20000 in
theorem tL_19_21 : (Cond.static yX9_isLine) ∈ lw_tbl := tb_3 _ (List.mem_of_getElem? (l := tables_1_3) (i := 4) rfl)
set_option maxRecDepth 20000 in
theorem mL_19_22 : (Cond.code yX9_isLine cX9_isLine 1 (some .boolean)) ∈ wsL_law := inr_19 _ (List.mem_of_getElem? (l := wsL_law_r19) (i := 22) rfl)
set_option maxRecDepth 20000 in
theorem tL_19_22 : (Cond.code yX9_isLine cX9_isLine 1 (some .boolean)) ∈ lw_tbl := tb_3 _ (List.mem_of_getElem? (l := tables_1_3) (i := 5) rfl)
set_option maxRecDepth 20000 in
theorem mL_19_23 : (Cond.methodLink RX9 192 yX9_isSlot) ∈ wsL_law := inr_19 _ (List.mem_of_getElem? (l := wsL_law_r19) (i := 23) rfl)
set_option maxRecDepth 20000 in
theorem tL_19_23 : (Cond.methodLink RX9 192 yX9_isSlot) ∈ lw_tbl := tb_3 _ (List.mem_of_getElem? (l := tables_1_3) (i := 6) rfl)
set_option maxRecDepth 20000 in
theorem tin_19 : ∀ w ∈ wsL_law_r19, w ∈ lw_tbl := List.forall_mem_cons.mpr ⟨tL_19_0, List.forall_mem_cons.mpr ⟨tL_19_1, List.forall_mem_cons.mpr ⟨tL_19_2, List.forall_mem_cons.mpr ⟨tL_19_3, List.forall_mem_cons.mpr ⟨tL_19_4, List.forall_mem_cons.mpr ⟨tL_19_5, List.forall_mem_cons.mpr ⟨tL_19_6, List.forall_mem_cons.mpr ⟨tL_19_7, List.forall_mem_cons.mpr ⟨tL_19_8, List.forall_mem_cons.mpr ⟨tL_19_9, List.forall_mem_cons.mpr ⟨tL_19_10, List.forall_mem_cons.mpr ⟨tL_19_11, List.forall_mem_cons.mpr ⟨tL_19_12, List.forall_mem_cons.mpr ⟨tL_19_13, List.forall_mem_cons.mpr ⟨tL_19_14, List.forall_mem_cons.mpr ⟨tL_19_15, List.forall_mem_cons.mpr ⟨tL_19_16, List.forall_mem_cons.mpr ⟨tL_19_17, List.forall_mem_cons.mpr ⟨tL_19_18, List.forall_mem_cons.mpr ⟨tL_19_19, List.forall_mem_cons.mpr ⟨tL_19_20, List.forall_mem_cons.mpr ⟨tL_19_21, List.forall_mem_cons.mpr ⟨tL_19_22, List.forall_mem_cons.mpr ⟨tL_19_23, List.forall_mem_nil _⟩⟩⟩⟩⟩⟩⟩⟩⟩⟩⟩⟩⟩⟩⟩⟩⟩⟩⟩⟩⟩⟩⟩⟩
set_option maxRecDepth 20000 in
theorem mL_20_0 : (Cond.static yX9_isSlot) ∈ wsL_law := inr_20 _ (List.mem_of_getElem? (l := wsL_law_r20) (i := 0) rfl)
set_option maxRecDepth 20000 in
theorem tL_20_0 : (Cond.static yX9_isSlot) ∈ lw_tbl := tb_3 _ (List.mem_of_getElem? (l := tables_1_3) (i := 7) rfl)
set_option maxRecDepth 20000 in
theorem mL_20_1 : (Cond.code yX9_isSlot cX9_isSlot 1 (some .boolean)) ∈ wsL_law := inr_20 _ (List.mem_of_getElem? (l := wsL_law_r20) (i := 1) rfl)
set_option maxRecDepth 20000 in
theorem tL_20_1 : (Cond.code yX9_isSlot cX9_isSlot 1 (some .boolean)) ∈ lw_tbl := tb_3 _ (List.mem_of_getElem? (l := tables_1_3) (i := 8) rfl)
set_option maxRecDepth 20000 in
theorem mL_20_2 : (Cond.methodLink RX9 195 yX2_show) ∈ wsL_law := inr_20 _ (List.mem_of_getElem? (l := wsL_law_r20) (i := 2) rfl)
set_option maxRecDepth 20000 in
theorem tL_20_2 : (Cond.methodLink RX9 195 yX2_show) ∈ lw_tbl := tb_3 _ (List.mem_of_getElem? (l := tables_1_3) (i := 9) rfl)
set_option maxRecDepth 20000 in
theorem mL_20_3 : (Cond.instanceMethod yX2_show) ∈ wsL_law := inr_20 _ (List.mem_of_getElem? (l := wsL_law_r20) (i := 3) rfl)
set_option maxRecDepth 20000 in
theorem tL_20_3 : (Cond.instanceMethod yX2_show) ∈ lw_tbl := tb_3 _ (List.mem_of_getElem? (l := tables_1_3) (i := 10) rfl)
set_option maxRecDepth 20000 in
theorem mL_20_4 : (Cond.selects RX2 yX2_show yX2_show) ∈ wsL_law := inr_20 _ (List.mem_of_getElem? (l := wsL_law_r20) (i := 4) rfl)
set_option maxRecDepth 20000 in
theorem tL_20_4 : (Cond.selects RX2 yX2_show yX2_show) ∈ lw_tbl := tb_3 _ (List.mem_of_getElem? (l := tables_1_3) (i := 11) rfl)
set_option maxRecDepth 20000 in
theorem mL_20_5 : (Cond.code yX2_show cX2_show 6 (some .int)) ∈ wsL_law := inr_20 _ (List.mem_of_getElem? (l := wsL_law_r20) (i := 5) rfl)
set_option maxRecDepth 20000 in
theorem tL_20_5 : (Cond.code yX2_show cX2_show 6 (some .int)) ∈ lw_tbl := tb_3 _ (List.mem_of_getElem? (l := tables_1_3) (i := 12) rfl)
set_option maxRecDepth 20000 in
theorem mL_20_6 : (Cond.methodLink RX2 26 yX2_known) ∈ wsL_law := inr_20 _ (List.mem_of_getElem? (l := wsL_law_r20) (i := 6) rfl)
set_option maxRecDepth 20000 in
theorem tL_20_6 : (Cond.methodLink RX2 26 yX2_known) ∈ lw_tbl := tb_3 _ (List.mem_of_getElem? (l := tables_1_3) (i := 13) rfl)
set_option maxRecDepth 20000 in
theorem mL_20_7 : (Cond.instanceMethod yX2_known) ∈ wsL_law := inr_20 _ (List.mem_of_getElem? (l := wsL_law_r20) (i := 7) rfl)
set_option maxRecDepth 20000 in
theorem tL_20_7 : (Cond.instanceMethod yX2_known) ∈ lw_tbl := tb_3 _ (List.mem_of_getElem? (l := tables_1_3) (i := 14) rfl)
set_option maxRecDepth 20000 in
theorem mL_20_8 : (Cond.selects RX2 yX2_known yX2_known) ∈ wsL_law := inr_20 _ (List.mem_of_getElem? (l := wsL_law_r20) (i := 8) rfl)
set_option maxRecDepth 20000 in
theorem tL_20_8 : (Cond.selects RX2 yX2_known yX2_known) ∈ lw_tbl := tb_3 _ (List.mem_of_getElem? (l := tables_1_3) (i := 15) rfl)
set_option maxRecDepth 20000 in
theorem mL_20_9 : (Cond.code yX2_known cX2_known 2 (some .int)) ∈ wsL_law := inr_20 _ (List.mem_of_getElem? (l := wsL_law_r20) (i := 9) rfl)
set_option maxRecDepth 20000 in
theorem tL_20_9 : (Cond.code yX2_known cX2_known 2 (some .int)) ∈ lw_tbl := tb_3 _ (List.mem_of_getElem? (l := tables_1_3) (i := 16) rfl)
set_option maxRecDepth 20000 in
theorem mL_20_10 : (Cond.methodLink RX2 30 yJ6_bitCount_0f7a4) ∈ wsL_law := inr_20 _ (List.mem_of_getElem? (l := wsL_law_r20) (i := 10) rfl)
set_option maxRecDepth 20000 in
theorem tL_20_10 : (Cond.methodLink RX2 30 yJ6_bitCount_0f7a4) ∈ lw_tbl := tb_3 _ (List.mem_of_getElem? (l := tables_1_3) (i := 17) rfl)
set_option maxRecDepth 20000 in
theorem mL_20_11 : (Cond.methodLink RL 70 yX10_see) ∈ wsL_law := inr_20 _ (List.mem_of_getElem? (l := wsL_law_r20) (i := 11) rfl)
set_option maxRecDepth 20000 in
theorem tL_20_11 : (Cond.methodLink RL 70 yX10_see) ∈ lw_tbl := tb_5 _ (List.mem_of_getElem? (l := tables_1_5) (i := 97) rfl)
set_option maxRecDepth 20000 in
theorem mL_20_12 : (Cond.instanceMethod yX10_see) ∈ wsL_law := inr_20 _ (List.mem_of_getElem? (l := wsL_law_r20) (i := 12) rfl)
set_option maxRecDepth 20000 in
theorem tL_20_12 : (Cond.instanceMethod yX10_see) ∈ lw_tbl := tb_5 _ (List.mem_of_getElem? (l := tables_1_5) (i := 98) rfl)
set_option maxRecDepth 20000 in
theorem mL_20_13 : (Cond.selects RX10 yX10_see yX10_see) ∈ wsL_law := inr_20 _ (List.mem_of_getElem? (l := wsL_law_r20) (i := 13) rfl)
set_option maxRecDepth 20000 in
theorem tL_20_13 : (Cond.selects RX10 yX10_see yX10_see) ∈ lw_tbl := tb_5 _ (List.mem_of_getElem? (l := tables_1_5) (i := 99) rfl)
set_option maxRecDepth 20000 in
theorem mL_20_14 : (Cond.code yX10_see cX10_see 8 (some .int)) ∈ wsL_law := inr_20 _ (List.mem_of_getElem? (l := wsL_law_r20) (i := 14) rfl)
set_option maxRecDepth 20000 in
theorem tL_20_14 : (Cond.code yX10_see cX10_see 8 (some .int)) ∈ lw_tbl := tb_5 _ (List.mem_of_getElem? (l := tables_1_5) (i := 100) rfl)
set_option maxRecDepth 20000 in
theorem mL_20_15 : (Cond.methodLink RX10 173 yX10_isLine) ∈ wsL_law := inr_20 _ (List.mem_of_getElem? (l := wsL_law_r20) (i := 15) rfl)
set_option maxRecDepth 20000 in
theorem tL_20_15 : (Cond.methodLink RX10 173 yX10_isLine) ∈ lw_tbl := tb_5 _ (List.mem_of_getElem? (l := tables_1_5) (i := 101) rfl)
set_option maxRecDepth 20000 in
theorem mL_20_16 : (Cond.static yX10_isLine) ∈ wsL_law := inr_20 _ (List.mem_of_getElem? (l := wsL_law_r20) (i := 16) rfl)
set_option maxRecDepth 20000 in
theorem tL_20_16 : (Cond.static yX10_isLine) ∈ lw_tbl := tb_5 _ (List.mem_of_getElem? (l := tables_1_5) (i := 102) rfl)
set_option maxRecDepth 20000 in
theorem mL_20_17 : (Cond.code yX10_isLine cX10_isLine 1 (some .boolean)) ∈ wsL_law := inr_20 _ (List.mem_of_getElem? (l := wsL_law_r20) (i := 17) rfl)
set_option maxRecDepth 20000 in
theorem tL_20_17 : (Cond.code yX10_isLine cX10_isLine 1 (some .boolean)) ∈ lw_tbl := tb_5 _ (List.mem_of_getElem? (l := tables_1_5) (i := 103) rfl)
set_option maxRecDepth 20000 in
theorem mL_20_18 : (Cond.methodLink RX10 176 yX10_isSlot) ∈ wsL_law := inr_20 _ (List.mem_of_getElem? (l := wsL_law_r20) (i := 18) rfl)
set_option maxRecDepth 20000 in
theorem tL_20_18 : (Cond.methodLink RX10 176 yX10_isSlot) ∈ lw_tbl := tb_5 _ (List.mem_of_getElem? (l := tables_1_5) (i := 104) rfl)
set_option maxRecDepth 20000 in
theorem mL_20_19 : (Cond.static yX10_isSlot) ∈ wsL_law := inr_20 _ (List.mem_of_getElem? (l := wsL_law_r20) (i := 19) rfl)
set_option maxRecDepth 20000 in
theorem tL_20_19 : (Cond.static yX10_isSlot) ∈ lw_tbl := tb_5 _ (List.mem_of_getElem? (l := tables_1_5) (i := 105) rfl)
set_option maxRecDepth 20000 in
theorem mL_20_20 : (Cond.code yX10_isSlot cX10_isSlot 1 (some .boolean)) ∈ wsL_law := inr_20 _ (List.mem_of_getElem? (l := wsL_law_r20) (i := 20) rfl)
set_option maxRecDepth 20000 in
theorem tL_20_20 : (Cond.code yX10_isSlot cX10_isSlot 1 (some .boolean)) ∈ lw_tbl := tb_5 _ (List.mem_of_getElem? (l := tables_1_5) (i := 106) rfl)
set_option maxRecDepth 20000 in
theorem mL_20_21 : (Cond.methodLink RL 71 yX9_seen) ∈ wsL_law := inr_20 _ (List.mem_of_getElem? (l := wsL_law_r20) (i := 21) rfl)
set_option maxRecDepth 20000 in
theorem tL_20_21 : (Cond.methodLink RL 71 yX9_seen) ∈ lw_tbl := tb_3 _ (List.mem_of_getElem? (l := tables_1_3) (i := 18) rfl)
set_option maxRecDepth 20000 in
theorem mL_20_22 : (Cond.instanceMethod yX9_seen) ∈ wsL_law := inr_20 _ (List.mem_of_getElem? (l := wsL_law_r20) (i := 22) rfl)
set_option maxRecDepth 20000 in
theorem tL_20_22 : (Cond.instanceMethod yX9_seen) ∈ lw_tbl := tb_3 _ (List.mem_of_getElem? (l := tables_1_3) (i := 19) rfl)
set_option maxRecDepth 20000 in
theorem mL_20_23 : (Cond.selects RX9 yX9_seen yX9_seen) ∈ wsL_law := inr_20 _ (List.mem_of_getElem? (l := wsL_law_r20) (i := 23) rfl)
set_option maxRecDepth 20000 in
theorem tL_20_23 : (Cond.selects RX9 yX9_seen yX9_seen) ∈ lw_tbl := tb_3 _ (List.mem_of_getElem? (l := tables_1_3) (i := 20) rfl)
set_option maxRecDepth 20000 in
theorem tin_20 : ∀ w ∈ wsL_law_r20, w ∈ lw_tbl := List.forall_mem_cons.mpr ⟨tL_20_0, List.forall_mem_cons.mpr ⟨tL_20_1, List.forall_mem_cons.mpr ⟨tL_20_2, List.forall_mem_cons.mpr ⟨tL_20_3, List.forall_mem_cons.mpr ⟨tL_20_4, List.forall_mem_cons.mpr ⟨tL_20_5, List.forall_mem_cons.mpr ⟨tL_20_6, List.forall_mem_cons.mpr ⟨tL_20_7, List.forall_mem_cons.mpr ⟨tL_20_8, List.forall_mem_cons.mpr ⟨tL_20_9, List.forall_mem_cons.mpr ⟨tL_20_10, List.forall_mem_cons.mpr ⟨tL_20_11, List.forall_mem_cons.mpr ⟨tL_20_12, List.forall_mem_cons.mpr ⟨tL_20_13, List.forall_mem_cons.mpr ⟨tL_20_14, List.forall_mem_cons.mpr ⟨tL_20_15, List.forall_mem_cons.mpr ⟨tL_20_16, List.forall_mem_cons.mpr ⟨tL_20_17, List.forall_mem_cons.mpr ⟨tL_20_18, List.forall_mem_cons.mpr ⟨tL_20_19, List.forall_mem_cons.mpr ⟨tL_20_20, List.forall_mem_cons.mpr ⟨tL_20_21, List.forall_mem_cons.mpr ⟨tL_20_22, List.forall_mem_cons.mpr ⟨tL_20_23, List.forall_mem_nil _⟩⟩⟩⟩⟩⟩⟩⟩⟩⟩⟩⟩⟩⟩⟩⟩⟩⟩⟩⟩⟩⟩⟩⟩
set_option maxRecDepth 20000 in
theorem mL_21_0 : (Cond.code yX9_seen cX9_seen 4 (some .int)) ∈ wsL_law := inr_21 _ (List.mem_of_getElem? (l := wsL_law_r21) (i := 0) rfl)
set_option maxRecDepth 20000 in
theorem tL_21_0 : (Cond.code yX9_seen cX9_seen 4 (some .int)) ∈ lw_tbl := tb_3 _ (List.mem_of_getElem? (l := tables_1_3) (i := 21) rfl)
set_option maxRecDepth 20000 in
theorem mL_21_1 : (Cond.methodLink RX9 198 yX2_valueAt) ∈ wsL_law := inr_21 _ (List.mem_of_getElem? (l := wsL_law_r21) (i := 1) rfl)
set_option maxRecDepth 20000 in
theorem tL_21_1 : (Cond.methodLink RX9 198 yX2_valueAt) ∈ lw_tbl := tb_3 _ (List.mem_of_getElem? (l := tables_1_3) (i := 22) rfl)
set_option maxRecDepth 20000 in
theorem mL_21_2 : (Cond.instanceMethod yX2_valueAt) ∈ wsL_law := inr_21 _ (List.mem_of_getElem? (l := wsL_law_r21) (i := 2) rfl)
set_option maxRecDepth 20000 in
theorem tL_21_2 : (Cond.instanceMethod yX2_valueAt) ∈ lw_tbl := tb_3 _ (List.mem_of_getElem? (l := tables_1_3) (i := 23) rfl)
set_option maxRecDepth 20000 in
theorem mL_21_3 : (Cond.selects RX2 yX2_valueAt yX2_valueAt) ∈ wsL_law := inr_21 _ (List.mem_of_getElem? (l := wsL_law_r21) (i := 3) rfl)
set_option maxRecDepth 20000 in
theorem tL_21_3 : (Cond.selects RX2 yX2_valueAt yX2_valueAt) ∈ lw_tbl := tb_3 _ (List.mem_of_getElem? (l := tables_1_3) (i := 24) rfl)
set_option maxRecDepth 20000 in
theorem mL_21_4 : (Cond.code yX2_valueAt cX2_valueAt 4 (some .int)) ∈ wsL_law := inr_21 _ (List.mem_of_getElem? (l := wsL_law_r21) (i := 4) rfl)
set_option maxRecDepth 20000 in
theorem tL_21_4 : (Cond.code yX2_valueAt cX2_valueAt 4 (some .int)) ∈ lw_tbl := tb_3 _ (List.mem_of_getElem? (l := tables_1_3) (i := 25) rfl)
set_option maxRecDepth 20000 in
theorem mL_21_5 : (Cond.methodLink RL 74 yX10_seen) ∈ wsL_law := inr_21 _ (List.mem_of_getElem? (l := wsL_law_r21) (i := 5) rfl)
set_option maxRecDepth 20000 in
theorem tL_21_5 : (Cond.methodLink RL 74 yX10_seen) ∈ lw_tbl := tb_5 _ (List.mem_of_getElem? (l := tables_1_5) (i := 107) rfl)
set_option maxRecDepth 20000 in
theorem mL_21_6 : (Cond.instanceMethod yX10_seen) ∈ wsL_law := inr_21 _ (List.mem_of_getElem? (l := wsL_law_r21) (i := 6) rfl)
set_option maxRecDepth 20000 in
theorem tL_21_6 : (Cond.instanceMethod yX10_seen) ∈ lw_tbl := tb_5 _ (List.mem_of_getElem? (l := tables_1_5) (i := 108) rfl)
set_option maxRecDepth 20000 in
theorem mL_21_7 : (Cond.selects RX10 yX10_seen yX10_seen) ∈ wsL_law := inr_21 _ (List.mem_of_getElem? (l := wsL_law_r21) (i := 7) rfl)
set_option maxRecDepth 20000 in
theorem tL_21_7 : (Cond.selects RX10 yX10_seen yX10_seen) ∈ lw_tbl := tb_5 _ (List.mem_of_getElem? (l := tables_1_5) (i := 109) rfl)
set_option maxRecDepth 20000 in
theorem mL_21_8 : (Cond.code yX10_seen cX10_seen 4 (some .int)) ∈ wsL_law := inr_21 _ (List.mem_of_getElem? (l := wsL_law_r21) (i := 8) rfl)
set_option maxRecDepth 20000 in
theorem tL_21_8 : (Cond.code yX10_seen cX10_seen 4 (some .int)) ∈ lw_tbl := tb_5 _ (List.mem_of_getElem? (l := tables_1_5) (i := 110) rfl)
set_option maxRecDepth 20000 in
theorem mL_21_9 : (Cond.methodLink RL 75 yX9_lack) ∈ wsL_law := inr_21 _ (List.mem_of_getElem? (l := wsL_law_r21) (i := 9) rfl)
set_option maxRecDepth 20000 in
theorem tL_21_9 : (Cond.methodLink RL 75 yX9_lack) ∈ lw_tbl := tb_3 _ (List.mem_of_getElem? (l := tables_1_3) (i := 26) rfl)
set_option maxRecDepth 20000 in
theorem mL_21_10 : (Cond.instanceMethod yX9_lack) ∈ wsL_law := inr_21 _ (List.mem_of_getElem? (l := wsL_law_r21) (i := 10) rfl)
set_option maxRecDepth 20000 in
theorem tL_21_10 : (Cond.instanceMethod yX9_lack) ∈ lw_tbl := tb_3 _ (List.mem_of_getElem? (l := tables_1_3) (i := 27) rfl)
set_option maxRecDepth 20000 in
theorem mL_21_11 : (Cond.selects RX9 yX9_lack yX9_lack) ∈ wsL_law := inr_21 _ (List.mem_of_getElem? (l := wsL_law_r21) (i := 11) rfl)
set_option maxRecDepth 20000 in
theorem tL_21_11 : (Cond.selects RX9 yX9_lack yX9_lack) ∈ lw_tbl := tb_3 _ (List.mem_of_getElem? (l := tables_1_3) (i := 28) rfl)
set_option maxRecDepth 20000 in
theorem mL_21_12 : (Cond.code yX9_lack cX9_lack 5 (some .int)) ∈ wsL_law := inr_21 _ (List.mem_of_getElem? (l := wsL_law_r21) (i := 12) rfl)
set_option maxRecDepth 20000 in
theorem tL_21_12 : (Cond.code yX9_lack cX9_lack 5 (some .int)) ∈ lw_tbl := tb_3 _ (List.mem_of_getElem? (l := tables_1_3) (i := 29) rfl)
set_option maxRecDepth 20000 in
theorem mL_21_13 : (Cond.methodLink RX9 201 yX9_isColour) ∈ wsL_law := inr_21 _ (List.mem_of_getElem? (l := wsL_law_r21) (i := 13) rfl)
set_option maxRecDepth 20000 in
theorem tL_21_13 : (Cond.methodLink RX9 201 yX9_isColour) ∈ lw_tbl := tb_3 _ (List.mem_of_getElem? (l := tables_1_3) (i := 30) rfl)
set_option maxRecDepth 20000 in
theorem mL_21_14 : (Cond.static yX9_isColour) ∈ wsL_law := inr_21 _ (List.mem_of_getElem? (l := wsL_law_r21) (i := 14) rfl)
set_option maxRecDepth 20000 in
theorem tL_21_14 : (Cond.static yX9_isColour) ∈ lw_tbl := tb_3 _ (List.mem_of_getElem? (l := tables_1_3) (i := 31) rfl)
set_option maxRecDepth 20000 in
theorem mL_21_15 : (Cond.code yX9_isColour cX9_isColour 1 (some .boolean)) ∈ wsL_law := inr_21 _ (List.mem_of_getElem? (l := wsL_law_r21) (i := 15) rfl)
set_option maxRecDepth 20000 in
theorem tL_21_15 : (Cond.code yX9_isColour cX9_isColour 1 (some .boolean)) ∈ lw_tbl := tb_3 _ (List.mem_of_getElem? (l := tables_1_3) (i := 32) rfl)
set_option maxRecDepth 20000 in
theorem mL_21_16 : (Cond.methodLink RX9 204 yX8_isOnLine) ∈ wsL_law := inr_21 _ (List.mem_of_getElem? (l := wsL_law_r21) (i := 16) rfl)
set_option maxRecDepth 20000 in
theorem tL_21_16 : (Cond.methodLink RX9 204 yX8_isOnLine) ∈ lw_tbl := tb_3 _ (List.mem_of_getElem? (l := tables_1_3) (i := 33) rfl)
set_option maxRecDepth 20000 in
theorem mL_21_17 : (Cond.instanceMethod yX8_isOnLine) ∈ wsL_law := inr_21 _ (List.mem_of_getElem? (l := wsL_law_r21) (i := 17) rfl)
set_option maxRecDepth 20000 in
theorem tL_21_17 : (Cond.instanceMethod yX8_isOnLine) ∈ lw_tbl := tb_3 _ (List.mem_of_getElem? (l := tables_1_3) (i := 34) rfl)
set_option maxRecDepth 20000 in
theorem mL_21_18 : (Cond.selects RX8 yX8_isOnLine yX8_isOnLine) ∈ wsL_law := inr_21 _ (List.mem_of_getElem? (l := wsL_law_r21) (i := 18) rfl)
set_option maxRecDepth 20000 in
theorem tL_21_18 : (Cond.selects RX8 yX8_isOnLine yX8_isOnLine) ∈ lw_tbl := tb_3 _ (List.mem_of_getElem? (l := tables_1_3) (i := 35) rfl)
set_option maxRecDepth 20000 in
theorem mL_21_19 : (Cond.code yX8_isOnLine cX8_isOnLine 3 (some .boolean)) ∈ wsL_law := inr_21 _ (List.mem_of_getElem? (l := wsL_law_r21) (i := 19) rfl)
set_option maxRecDepth 20000 in
theorem tL_21_19 : (Cond.code yX8_isOnLine cX8_isOnLine 3 (some .boolean)) ∈ lw_tbl := tb_3 _ (List.mem_of_getElem? (l := tables_1_3) (i := 36) rfl)
set_option maxRecDepth 20000 in
theorem mL_21_20 : (Cond.methodLink RX9 207 yX9_lackAt) ∈ wsL_law := inr_21 _ (List.mem_of_getElem? (l := wsL_law_r21) (i := 20) rfl)
set_option maxRecDepth 20000 in
theorem tL_21_20 : (Cond.methodLink RX9 207 yX9_lackAt) ∈ lw_tbl := tb_3 _ (List.mem_of_getElem? (l := tables_1_3) (i := 37) rfl)
set_option maxRecDepth 20000 in
theorem mL_21_21 : (Cond.instanceMethod yX9_lackAt) ∈ wsL_law := inr_21 _ (List.mem_of_getElem? (l := wsL_law_r21) (i := 21) rfl)
set_option maxRecDepth 20000 in
theorem tL_21_21 : (Cond.instanceMethod yX9_lackAt) ∈ lw_tbl := tb_3 _ (List.mem_of_getElem? (l := tables_1_3) (i := 39) rfl)
set_option maxRecDepth 20000 in
theorem mL_21_22 : (Cond.selects RX9 yX9_lackAt yX9_lackAt) ∈ wsL_law := inr_21 _ (List.mem_of_getElem? (l := wsL_law_r21) (i := 22) rfl)
set_option maxRecDepth 20000 in
theorem tL_21_22 : (Cond.selects RX9 yX9_lackAt yX9_lackAt) ∈ lw_tbl := List.mem_append_left _ (List.mem_of_getElem? (l := k2_sels lw_privs) (i := 4) rfl)
set_option maxRecDepth 20000 in
theorem mL_21_23 : (Cond.code yX9_lackAt cX9_lackAt 9 (some .int)) ∈ wsL_law := inr_21 _ (List.mem_of_getElem? (l := wsL_law_r21) (i := 23) rfl)
set_option maxRecDepth 20000 in
theorem tL_21_23 : (Cond.code yX9_lackAt cX9_lackAt 9 (some .int)) ∈ lw_tbl := tb_3 _ (List.mem_of_getElem? (l := tables_1_3) (i := 40) rfl)
set_option maxRecDepth 20000 in
theorem tin_21 : ∀ w ∈ wsL_law_r21, w ∈ lw_tbl := List.forall_mem_cons.mpr ⟨tL_21_0, List.forall_mem_cons.mpr ⟨tL_21_1, List.forall_mem_cons.mpr ⟨tL_21_2, List.forall_mem_cons.mpr ⟨tL_21_3, List.forall_mem_cons.mpr ⟨tL_21_4, List.forall_mem_cons.mpr ⟨tL_21_5, List.forall_mem_cons.mpr ⟨tL_21_6, List.forall_mem_cons.mpr ⟨tL_21_7, List.forall_mem_cons.mpr ⟨tL_21_8, List.forall_mem_cons.mpr ⟨tL_21_9, List.forall_mem_cons.mpr ⟨tL_21_10, List.forall_mem_cons.mpr ⟨tL_21_11, List.forall_mem_cons.mpr ⟨tL_21_12, List.forall_mem_cons.mpr ⟨tL_21_13, List.forall_mem_cons.mpr ⟨tL_21_14, List.forall_mem_cons.mpr ⟨tL_21_15, List.forall_mem_cons.mpr ⟨tL_21_16, List.forall_mem_cons.mpr ⟨tL_21_17, List.forall_mem_cons.mpr ⟨tL_21_18, List.forall_mem_cons.mpr ⟨tL_21_19, List.forall_mem_cons.mpr ⟨tL_21_20, List.forall_mem_cons.mpr ⟨tL_21_21, List.forall_mem_cons.mpr ⟨tL_21_22, List.forall_mem_cons.mpr ⟨tL_21_23, List.forall_mem_nil _⟩⟩⟩⟩⟩⟩⟩⟩⟩⟩⟩⟩⟩⟩⟩⟩⟩⟩⟩⟩⟩⟩⟩⟩
set_option maxRecDepth 20000 in
theorem mL_22_0 : (Cond.fieldLink RX9 386 "GhostSigns$Line" "cells" "[[I") ∈ wsL_law := inr_22 _ (List.mem_of_getElem? (l := wsL_law_r22) (i := 0) rfl)
set_option maxRecDepth 20000 in
theorem tL_22_0 : (Cond.fieldLink RX9 386 "GhostSigns$Line" "cells" "[[I") ∈ lw_tbl := tb_1 _ (List.mem_of_getElem? (l := tables_1_1) (i := 102) rfl)
set_option maxRecDepth 20000 in
theorem mL_22_1 : (Cond.methodLink RX9 383 yX8_cellsIn) ∈ wsL_law := inr_22 _ (List.mem_of_getElem? (l := wsL_law_r22) (i := 1) rfl)
set_option maxRecDepth 20000 in
theorem tL_22_1 : (Cond.methodLink RX9 383 yX8_cellsIn) ∈ lw_tbl := tb_3 _ (List.mem_of_getElem? (l := tables_1_3) (i := 41) rfl)
set_option maxRecDepth 20000 in
theorem mL_22_2 : (Cond.methodLink RX9 390 yX2_known) ∈ wsL_law := inr_22 _ (List.mem_of_getElem? (l := wsL_law_r22) (i := 2) rfl)
set_option maxRecDepth 20000 in
theorem tL_22_2 : (Cond.methodLink RX9 390 yX2_known) ∈ lw_tbl := tb_3 _ (List.mem_of_getElem? (l := tables_1_3) (i := 42) rfl)
set_option maxRecDepth 20000 in
theorem mL_22_3 : (Cond.methodLink RX9 393 yJ6_bitCount_0f7a4) ∈ wsL_law := inr_22 _ (List.mem_of_getElem? (l := wsL_law_r22) (i := 3) rfl)
set_option maxRecDepth 20000 in
theorem tL_22_3 : (Cond.methodLink RX9 393 yJ6_bitCount_0f7a4) ∈ lw_tbl := tb_3 _ (List.mem_of_getElem? (l := tables_1_3) (i := 43) rfl)
set_option maxRecDepth 20000 in
theorem mL_22_4 : (Cond.methodLink RL 78 yX10_lack) ∈ wsL_law := inr_22 _ (List.mem_of_getElem? (l := wsL_law_r22) (i := 4) rfl)
set_option maxRecDepth 20000 in
theorem tL_22_4 : (Cond.methodLink RL 78 yX10_lack) ∈ lw_tbl := tb_5 _ (List.mem_of_getElem? (l := tables_1_5) (i := 111) rfl)
set_option maxRecDepth 20000 in
theorem mL_22_5 : (Cond.instanceMethod yX10_lack) ∈ wsL_law := inr_22 _ (List.mem_of_getElem? (l := wsL_law_r22) (i := 5) rfl)
set_option maxRecDepth 20000 in
theorem tL_22_5 : (Cond.instanceMethod yX10_lack) ∈ lw_tbl := tb_5 _ (List.mem_of_getElem? (l := tables_1_5) (i := 112) rfl)
set_option maxRecDepth 20000 in
theorem mL_22_6 : (Cond.selects RX10 yX10_lack yX10_lack) ∈ wsL_law := inr_22 _ (List.mem_of_getElem? (l := wsL_law_r22) (i := 6) rfl)
set_option maxRecDepth 20000 in
theorem tL_22_6 : (Cond.selects RX10 yX10_lack yX10_lack) ∈ lw_tbl := tb_5 _ (List.mem_of_getElem? (l := tables_1_5) (i := 113) rfl)
set_option maxRecDepth 20000 in
theorem mL_22_7 : (Cond.code yX10_lack cX10_lack 6 (some .int)) ∈ wsL_law := inr_22 _ (List.mem_of_getElem? (l := wsL_law_r22) (i := 7) rfl)
set_option maxRecDepth 20000 in
theorem tL_22_7 : (Cond.code yX10_lack cX10_lack 6 (some .int)) ∈ lw_tbl := tb_5 _ (List.mem_of_getElem? (l := tables_1_5) (i := 114) rfl)
set_option maxRecDepth 20000 in
theorem mL_22_8 : (Cond.methodLink RX10 182 yX10_isColour) ∈ wsL_law := inr_22 _ (List.mem_of_getElem? (l := wsL_law_r22) (i := 8) rfl)
set_option maxRecDepth 20000 in
theorem tL_22_8 : (Cond.methodLink RX10 182 yX10_isColour) ∈ lw_tbl := tb_5 _ (List.mem_of_getElem? (l := tables_1_5) (i := 115) rfl)
set_option maxRecDepth 20000 in
theorem mL_22_9 : (Cond.static yX10_isColour) ∈ wsL_law := inr_22 _ (List.mem_of_getElem? (l := wsL_law_r22) (i := 9) rfl)
set_option maxRecDepth 20000 in
theorem tL_22_9 : (Cond.static yX10_isColour) ∈ lw_tbl := tb_5 _ (List.mem_of_getElem? (l := tables_1_5) (i := 116) rfl)
set_option maxRecDepth 20000 in
theorem mL_22_10 : (Cond.code yX10_isColour cX10_isColour 1 (some .boolean)) ∈ wsL_law := inr_22 _ (List.mem_of_getElem? (l := wsL_law_r22) (i := 10) rfl)
set_option maxRecDepth 20000 in
theorem tL_22_10 : (Cond.code yX10_isColour cX10_isColour 1 (some .boolean)) ∈ lw_tbl := tb_5 _ (List.mem_of_getElem? (l := tables_1_5) (i := 117) rfl)
set_option maxRecDepth 20000 in
theorem mL_22_11 : (Cond.methodLink RX10 185 yX10_isOn) ∈ wsL_law := inr_22 _ (List.mem_of_getElem? (l := wsL_law_r22) (i := 11) rfl)
set_option maxRecDepth 20000 in
theorem tL_22_11 : (Cond.methodLink RX10 185 yX10_isOn) ∈ lw_tbl := tb_5 _ (List.mem_of_getElem? (l := tables_1_5) (i := 118) rfl)
set_option maxRecDepth 20000 in
theorem mL_22_12 : (Cond.instanceMethod yX10_isOn) ∈ wsL_law := inr_22 _ (List.mem_of_getElem? (l := wsL_law_r22) (i := 12) rfl)
set_option maxRecDepth 20000 in
theorem tL_22_12 : (Cond.instanceMethod yX10_isOn) ∈ lw_tbl := tb_5 _ (List.mem_of_getElem? (l := tables_1_5) (i := 120) rfl)
set_option maxRecDepth 20000 in
theorem mL_22_13 : (Cond.selects RX10 yX10_isOn yX10_isOn) ∈ wsL_law := inr_22 _ (List.mem_of_getElem? (l := wsL_law_r22) (i := 13) rfl)
set_option maxRecDepth 20000 in
theorem tL_22_13 : (Cond.selects RX10 yX10_isOn yX10_isOn) ∈ lw_tbl := List.mem_append_left _ (List.mem_of_getElem? (l := k2_sels lw_privs) (i := 26) rfl)
set_option maxRecDepth 20000 in
theorem mL_22_14 : (Cond.code yX10_isOn cX10_isOn 3 (some .boolean)) ∈ wsL_law := inr_22 _ (List.mem_of_getElem? (l := wsL_law_r22) (i := 14) rfl)
set_option maxRecDepth 20000 in
theorem tL_22_14 : (Cond.code yX10_isOn cX10_isOn 3 (some .boolean)) ∈ lw_tbl := tb_5 _ (List.mem_of_getElem? (l := tables_1_5) (i := 121) rfl)
set_option maxRecDepth 20000 in
theorem mL_22_15 : (Cond.methodLink RX10 189 yX10_lackOf) ∈ wsL_law := inr_22 _ (List.mem_of_getElem? (l := wsL_law_r22) (i := 15) rfl)
set_option maxRecDepth 20000 in
theorem tL_22_15 : (Cond.methodLink RX10 189 yX10_lackOf) ∈ lw_tbl := tb_5 _ (List.mem_of_getElem? (l := tables_1_5) (i := 122) rfl)
set_option maxRecDepth 20000 in
theorem mL_22_16 : (Cond.instanceMethod yX10_lackOf) ∈ wsL_law := inr_22 _ (List.mem_of_getElem? (l := wsL_law_r22) (i := 16) rfl)
set_option maxRecDepth 20000 in
theorem tL_22_16 : (Cond.instanceMethod yX10_lackOf) ∈ lw_tbl := tb_5 _ (List.mem_of_getElem? (l := tables_1_5) (i := 124) rfl)
set_option maxRecDepth 20000 in
theorem mL_22_17 : (Cond.selects RX10 yX10_lackOf yX10_lackOf) ∈ wsL_law := inr_22 _ (List.mem_of_getElem? (l := wsL_law_r22) (i := 17) rfl)
set_option maxRecDepth 20000 in
theorem tL_22_17 : (Cond.selects RX10 yX10_lackOf yX10_lackOf) ∈ lw_tbl := List.mem_append_left _ (List.mem_of_getElem? (l := k2_sels lw_privs) (i := 27) rfl)
set_option maxRecDepth 20000 in
theorem mL_22_18 : (Cond.code yX10_lackOf cX10_lackOf 9 (some .int)) ∈ wsL_law := inr_22 _ (List.mem_of_getElem? (l := wsL_law_r22) (i := 18) rfl)
set_option maxRecDepth 20000 in
theorem tL_22_18 : (Cond.code yX10_lackOf cX10_lackOf 9 (some .int)) ∈ lw_tbl := tb_5 _ (List.mem_of_getElem? (l := tables_1_5) (i := 125) rfl)
set_option maxRecDepth 20000 in
theorem mL_22_19 : (Cond.methodLink RX10 179 yX10_has) ∈ wsL_law := inr_22 _ (List.mem_of_getElem? (l := wsL_law_r22) (i := 19) rfl)
set_option maxRecDepth 20000 in
theorem tL_22_19 : (Cond.methodLink RX10 179 yX10_has) ∈ lw_tbl := tb_5 _ (List.mem_of_getElem? (l := tables_1_5) (i := 126) rfl)
set_option maxRecDepth 20000 in
theorem mL_22_20 : (Cond.instanceMethod yX10_has) ∈ wsL_law := inr_22 _ (List.mem_of_getElem? (l := wsL_law_r22) (i := 20) rfl)
set_option maxRecDepth 20000 in
theorem tL_22_20 : (Cond.instanceMethod yX10_has) ∈ lw_tbl := tb_5 _ (List.mem_of_getElem? (l := tables_1_5) (i := 128) rfl)
set_option maxRecDepth 20000 in
theorem mL_22_21 : (Cond.selects RX10 yX10_has yX10_has) ∈ wsL_law := inr_22 _ (List.mem_of_getElem? (l := wsL_law_r22) (i := 21) rfl)
set_option maxRecDepth 20000 in
theorem tL_22_21 : (Cond.selects RX10 yX10_has yX10_has) ∈ lw_tbl := List.mem_append_left _ (List.mem_of_getElem? (l := k2_sels lw_privs) (i := 28) rfl)
set_option maxRecDepth 20000 in
theorem mL_22_22 : (Cond.code yX10_has cX10_has 5 (some .boolean)) ∈ wsL_law := inr_22 _ (List.mem_of_getElem? (l := wsL_law_r22) (i := 22) rfl)
set_option maxRecDepth 20000 in
theorem tL_22_22 : (Cond.code yX10_has cX10_has 5 (some .boolean)) ∈ lw_tbl := tb_5 _ (List.mem_of_getElem? (l := tables_1_5) (i := 129) rfl)
set_option maxRecDepth 20000 in
theorem mL_22_23 : (Cond.methodLink RL 79 yX9_reading) ∈ wsL_law := inr_22 _ (List.mem_of_getElem? (l := wsL_law_r22) (i := 23) rfl)
set_option maxRecDepth 20000 in
theorem tL_22_23 : (Cond.methodLink RL 79 yX9_reading) ∈ lw_tbl := tb_3 _ (List.mem_of_getElem? (l := tables_1_3) (i := 44) rfl)
set_option maxRecDepth 20000 in
theorem tin_22 : ∀ w ∈ wsL_law_r22, w ∈ lw_tbl := List.forall_mem_cons.mpr ⟨tL_22_0, List.forall_mem_cons.mpr ⟨tL_22_1, List.forall_mem_cons.mpr ⟨tL_22_2, List.forall_mem_cons.mpr ⟨tL_22_3, List.forall_mem_cons.mpr ⟨tL_22_4, List.forall_mem_cons.mpr ⟨tL_22_5, List.forall_mem_cons.mpr ⟨tL_22_6, List.forall_mem_cons.mpr ⟨tL_22_7, List.forall_mem_cons.mpr ⟨tL_22_8, List.forall_mem_cons.mpr ⟨tL_22_9, List.forall_mem_cons.mpr ⟨tL_22_10, List.forall_mem_cons.mpr ⟨tL_22_11, List.forall_mem_cons.mpr ⟨tL_22_12, List.forall_mem_cons.mpr ⟨tL_22_13, List.forall_mem_cons.mpr ⟨tL_22_14, List.forall_mem_cons.mpr ⟨tL_22_15, List.forall_mem_cons.mpr ⟨tL_22_16, List.forall_mem_cons.mpr ⟨tL_22_17, List.forall_mem_cons.mpr ⟨tL_22_18, List.forall_mem_cons.mpr ⟨tL_22_19, List.forall_mem_cons.mpr ⟨tL_22_20, List.forall_mem_cons.mpr ⟨tL_22_21, List.forall_mem_cons.mpr ⟨tL_22_22, List.forall_mem_cons.mpr ⟨tL_22_23, List.forall_mem_nil _⟩⟩⟩⟩⟩⟩⟩⟩⟩⟩⟩⟩⟩⟩⟩⟩⟩⟩⟩⟩⟩⟩⟩⟩
set_option maxRecDepth 20000 in
theorem mL_23_0 : (Cond.instanceMethod yX9_reading) ∈ wsL_law := inr_23 _ (List.mem_of_getElem? (l := wsL_law_r23) (i := 0) rfl)
set_option maxRecDepth 20000 in
theorem tL_23_0 : (Cond.instanceMethod yX9_reading) ∈ lw_tbl := tb_3 _ (List.mem_of_getElem? (l := tables_1_3) (i := 45) rfl)
set_option maxRecDepth 20000 in
theorem mL_23_1 : (Cond.selects RX9 yX9_reading yX9_reading) ∈ wsL_law := inr_23 _ (List.mem_of_getElem? (l := wsL_law_r23) (i := 1) rfl)
set_option maxRecDepth 20000 in
theorem tL_23_1 : (Cond.selects RX9 yX9_reading yX9_reading) ∈ lw_tbl := tb_3 _ (List.mem_of_getElem? (l := tables_1_3) (i := 46) rfl)
set_option maxRecDepth 20000 in
theorem mL_23_2 : (Cond.code yX9_reading cX9_reading 4 (some .int)) ∈ wsL_law := inr_23 _ (List.mem_of_getElem? (l := wsL_law_r23) (i := 2) rfl)
set_option maxRecDepth 20000 in
theorem tL_23_2 : (Cond.code yX9_reading cX9_reading 4 (some .int)) ∈ lw_tbl := tb_3 _ (List.mem_of_getElem? (l := tables_1_3) (i := 47) rfl)
set_option maxRecDepth 20000 in
theorem mL_23_3 : (Cond.fieldLink RX9 218 "GhostSigns$Places" "slots" "[I") ∈ wsL_law := inr_23 _ (List.mem_of_getElem? (l := wsL_law_r23) (i := 3) rfl)
set_option maxRecDepth 20000 in
theorem tL_23_3 : (Cond.fieldLink RX9 218 "GhostSigns$Places" "slots" "[I") ∈ lw_tbl := tb_1 _ (List.mem_of_getElem? (l := tables_1_1) (i := 221) rfl)
set_option maxRecDepth 20000 in
theorem mL_23_4 : (Cond.fieldLink RX9 221 "GhostSigns" "latestAsked" "I") ∈ wsL_law := inr_23 _ (List.mem_of_getElem? (l := wsL_law_r23) (i := 4) rfl)
set_option maxRecDepth 20000 in
theorem tL_23_4 : (Cond.fieldLink RX9 221 "GhostSigns" "latestAsked" "I") ∈ lw_tbl := tb_2 _ (List.mem_of_getElem? (l := tables_1_2) (i := 37) rfl)
set_option maxRecDepth 20000 in
theorem mL_23_5 : (Cond.fieldLink RX9 225 "GhostSigns$Places" "words" "[I") ∈ wsL_law := inr_23 _ (List.mem_of_getElem? (l := wsL_law_r23) (i := 5) rfl)
set_option maxRecDepth 20000 in
theorem tL_23_5 : (Cond.fieldLink RX9 225 "GhostSigns$Places" "words" "[I") ∈ lw_tbl := tb_1 _ (List.mem_of_getElem? (l := tables_1_1) (i := 219) rfl)
set_option maxRecDepth 20000 in
theorem mL_23_6 : (Cond.methodLink RX9 211 yX9_gatherPlaces) ∈ wsL_law := inr_23 _ (List.mem_of_getElem? (l := wsL_law_r23) (i := 6) rfl)
set_option maxRecDepth 20000 in
theorem tL_23_6 : (Cond.methodLink RX9 211 yX9_gatherPlaces) ∈ lw_tbl := tb_3 _ (List.mem_of_getElem? (l := tables_1_3) (i := 48) rfl)
set_option maxRecDepth 20000 in
theorem mL_23_7 : (Cond.instanceMethod yX9_gatherPlaces) ∈ wsL_law := inr_23 _ (List.mem_of_getElem? (l := wsL_law_r23) (i := 7) rfl)
set_option maxRecDepth 20000 in
theorem tL_23_7 : (Cond.instanceMethod yX9_gatherPlaces) ∈ lw_tbl := tb_3 _ (List.mem_of_getElem? (l := tables_1_3) (i := 50) rfl)
set_option maxRecDepth 20000 in
theorem mL_23_8 : (Cond.selects RX9 yX9_gatherPlaces yX9_gatherPlaces) ∈ wsL_law := inr_23 _ (List.mem_of_getElem? (l := wsL_law_r23) (i := 8) rfl)
set_option maxRecDepth 20000 in
theorem tL_23_8 : (Cond.selects RX9 yX9_gatherPlaces yX9_gatherPlaces) ∈ lw_tbl := List.mem_append_left _ (List.mem_of_getElem? (l := k2_sels lw_privs) (i := 5) rfl)
set_option maxRecDepth 20000 in
theorem mL_23_9 : (Cond.code yX9_gatherPlaces cX9_gatherPlaces 7 none) ∈ wsL_law := inr_23 _ (List.mem_of_getElem? (l := wsL_law_r23) (i := 9) rfl)
set_option maxRecDepth 20000 in
theorem tL_23_9 : (Cond.code yX9_gatherPlaces cX9_gatherPlaces 7 none) ∈ lw_tbl := tb_3 _ (List.mem_of_getElem? (l := tables_1_3) (i := 51) rfl)
set_option maxRecDepth 20000 in
theorem mL_23_10 : (Cond.fieldLink RX9 398 "GhostSigns$Places" "entries" "I") ∈ wsL_law := inr_23 _ (List.mem_of_getElem? (l := wsL_law_r23) (i := 10) rfl)
set_option maxRecDepth 20000 in
theorem tL_23_10 : (Cond.fieldLink RX9 398 "GhostSigns$Places" "entries" "I") ∈ lw_tbl := tb_1 _ (List.mem_of_getElem? (l := tables_1_1) (i := 229) rfl)
set_option maxRecDepth 20000 in
theorem mL_23_11 : (Cond.fieldLink RX9 331 "GhostSigns$Words" "ever" "I") ∈ wsL_law := inr_23 _ (List.mem_of_getElem? (l := wsL_law_r23) (i := 11) rfl)
set_option maxRecDepth 20000 in
theorem tL_23_11 : (Cond.fieldLink RX9 331 "GhostSigns$Words" "ever" "I") ∈ lw_tbl := tb_1 _ (List.mem_of_getElem? (l := tables_1_1) (i := 69) rfl)
set_option maxRecDepth 20000 in
theorem mL_23_12 : (Cond.methodLink RX9 399 yX8_isThere) ∈ wsL_law := inr_23 _ (List.mem_of_getElem? (l := wsL_law_r23) (i := 12) rfl)
set_option maxRecDepth 20000 in
theorem tL_23_12 : (Cond.methodLink RX9 399 yX8_isThere) ∈ lw_tbl := tb_3 _ (List.mem_of_getElem? (l := tables_1_3) (i := 52) rfl)
set_option maxRecDepth 20000 in
theorem mL_23_13 : (Cond.instanceMethod yX8_isThere) ∈ wsL_law := inr_23 _ (List.mem_of_getElem? (l := wsL_law_r23) (i := 13) rfl)
set_option maxRecDepth 20000 in
theorem tL_23_13 : (Cond.instanceMethod yX8_isThere) ∈ lw_tbl := tb_3 _ (List.mem_of_getElem? (l := tables_1_3) (i := 53) rfl)
set_option maxRecDepth 20000 in
theorem mL_23_14 : (Cond.selects RX8 yX8_isThere yX8_isThere) ∈ wsL_law := inr_23 _ (List.mem_of_getElem? (l := wsL_law_r23) (i := 14) rfl)
set_option maxRecDepth 20000 in
theorem tL_23_14 : (Cond.selects RX8 yX8_isThere yX8_isThere) ∈ lw_tbl := tb_3 _ (List.mem_of_getElem? (l := tables_1_3) (i := 54) rfl)
set_option maxRecDepth 20000 in
theorem mL_23_15 : (Cond.code yX8_isThere cX8_isThere 2 (some .boolean)) ∈ wsL_law := inr_23 _ (List.mem_of_getElem? (l := wsL_law_r23) (i := 15) rfl)
set_option maxRecDepth 20000 in
theorem tL_23_15 : (Cond.code yX8_isThere cX8_isThere 2 (some .boolean)) ∈ lw_tbl := tb_3 _ (List.mem_of_getElem? (l := tables_1_3) (i := 55) rfl)
set_option maxRecDepth 20000 in
theorem mL_23_16 : (Cond.methodLink RX8 50 yX8_isNumber) ∈ wsL_law := inr_23 _ (List.mem_of_getElem? (l := wsL_law_r23) (i := 16) rfl)
set_option maxRecDepth 20000 in
theorem tL_23_16 : (Cond.methodLink RX8 50 yX8_isNumber) ∈ lw_tbl := tb_3 _ (List.mem_of_getElem? (l := tables_1_3) (i := 56) rfl)
set_option maxRecDepth 20000 in
theorem mL_23_17 : (Cond.methodLink RX9 400 yX9_bareAt) ∈ wsL_law := inr_23 _ (List.mem_of_getElem? (l := wsL_law_r23) (i := 17) rfl)
set_option maxRecDepth 20000 in
theorem tL_23_17 : (Cond.methodLink RX9 400 yX9_bareAt) ∈ lw_tbl := tb_3 _ (List.mem_of_getElem? (l := tables_1_3) (i := 57) rfl)
set_option maxRecDepth 20000 in
theorem mL_23_18 : (Cond.instanceMethod yX9_bareAt) ∈ wsL_law := inr_23 _ (List.mem_of_getElem? (l := wsL_law_r23) (i := 18) rfl)
set_option maxRecDepth 20000 in
theorem tL_23_18 : (Cond.instanceMethod yX9_bareAt) ∈ lw_tbl := tb_3 _ (List.mem_of_getElem? (l := tables_1_3) (i := 59) rfl)
set_option maxRecDepth 20000 in
theorem mL_23_19 : (Cond.selects RX9 yX9_bareAt yX9_bareAt) ∈ wsL_law := inr_23 _ (List.mem_of_getElem? (l := wsL_law_r23) (i := 19) rfl)
set_option maxRecDepth 20000 in
theorem tL_23_19 : (Cond.selects RX9 yX9_bareAt yX9_bareAt) ∈ lw_tbl := List.mem_append_left _ (List.mem_of_getElem? (l := k2_sels lw_privs) (i := 6) rfl)
set_option maxRecDepth 20000 in
theorem mL_23_20 : (Cond.code yX9_bareAt cX9_bareAt 6 (some .int)) ∈ wsL_law := inr_23 _ (List.mem_of_getElem? (l := wsL_law_r23) (i := 20) rfl)
set_option maxRecDepth 20000 in
theorem tL_23_20 : (Cond.code yX9_bareAt cX9_bareAt 6 (some .int)) ∈ lw_tbl := tb_3 _ (List.mem_of_getElem? (l := tables_1_3) (i := 60) rfl)
set_option maxRecDepth 20000 in
theorem mL_23_21 : (Cond.methodLink RX9 404 yX4_add) ∈ wsL_law := inr_23 _ (List.mem_of_getElem? (l := wsL_law_r23) (i := 21) rfl)
set_option maxRecDepth 20000 in
theorem tL_23_21 : (Cond.methodLink RX9 404 yX4_add) ∈ lw_tbl := tb_3 _ (List.mem_of_getElem? (l := tables_1_3) (i := 61) rfl)
set_option maxRecDepth 20000 in
theorem mL_23_22 : (Cond.instanceMethod yX4_add) ∈ wsL_law := inr_23 _ (List.mem_of_getElem? (l := wsL_law_r23) (i := 22) rfl)
set_option maxRecDepth 20000 in
theorem tL_23_22 : (Cond.instanceMethod yX4_add) ∈ lw_tbl := tb_3 _ (List.mem_of_getElem? (l := tables_1_3) (i := 62) rfl)
set_option maxRecDepth 20000 in
theorem mL_23_23 : (Cond.selects RX4 yX4_add yX4_add) ∈ wsL_law := inr_23 _ (List.mem_of_getElem? (l := wsL_law_r23) (i := 23) rfl)
set_option maxRecDepth 20000 in
theorem tL_23_23 : (Cond.selects RX4 yX4_add yX4_add) ∈ lw_tbl := tb_3 _ (List.mem_of_getElem? (l := tables_1_3) (i := 63) rfl)
set_option maxRecDepth 20000 in
theorem tin_23 : ∀ w ∈ wsL_law_r23, w ∈ lw_tbl := List.forall_mem_cons.mpr ⟨tL_23_0, List.forall_mem_cons.mpr ⟨tL_23_1, List.forall_mem_cons.mpr ⟨tL_23_2, List.forall_mem_cons.mpr ⟨tL_23_3, List.forall_mem_cons.mpr ⟨tL_23_4, List.forall_mem_cons.mpr ⟨tL_23_5, List.forall_mem_cons.mpr ⟨tL_23_6, List.forall_mem_cons.mpr ⟨tL_23_7, List.forall_mem_cons.mpr ⟨tL_23_8, List.forall_mem_cons.mpr ⟨tL_23_9, List.forall_mem_cons.mpr ⟨tL_23_10, List.forall_mem_cons.mpr ⟨tL_23_11, List.forall_mem_cons.mpr ⟨tL_23_12, List.forall_mem_cons.mpr ⟨tL_23_13, List.forall_mem_cons.mpr ⟨tL_23_14, List.forall_mem_cons.mpr ⟨tL_23_15, List.forall_mem_cons.mpr ⟨tL_23_16, List.forall_mem_cons.mpr ⟨tL_23_17, List.forall_mem_cons.mpr ⟨tL_23_18, List.forall_mem_cons.mpr ⟨tL_23_19, List.forall_mem_cons.mpr ⟨tL_23_20, List.forall_mem_cons.mpr ⟨tL_23_21, List.forall_mem_cons.mpr ⟨tL_23_22, List.forall_mem_cons.mpr ⟨tL_23_23, List.forall_mem_nil _⟩⟩⟩⟩⟩⟩⟩⟩⟩⟩⟩⟩⟩⟩⟩⟩⟩⟩⟩⟩⟩⟩⟩⟩
set_option maxRecDepth 20000 in
theorem mL_24_0 : (Cond.code yX4_add cX4_add 5 none) ∈ wsL_law := inr_24 _ (List.mem_of_getElem? (l := wsL_law_r24) (i := 0) rfl)
set_option maxRecDepth 20000 in
theorem tL_24_0 : (Cond.code yX4_add cX4_add 5 none) ∈ lw_tbl := tb_3 _ (List.mem_of_getElem? (l := tables_1_3) (i := 64) rfl)
set_option maxRecDepth 20000 in
theorem mL_24_1 : (Cond.fieldLink RX4 26 "GhostSigns$Places" "entries" "I") ∈ wsL_law := inr_24 _ (List.mem_of_getElem? (l := wsL_law_r24) (i := 1) rfl)
set_option maxRecDepth 20000 in
theorem tL_24_1 : (Cond.fieldLink RX4 26 "GhostSigns$Places" "entries" "I") ∈ lw_tbl := tb_1 _ (List.mem_of_getElem? (l := tables_1_1) (i := 227) rfl)
set_option maxRecDepth 20000 in
theorem mL_24_2 : (Cond.methodLink RX9 215 yX4_firstRival) ∈ wsL_law := inr_24 _ (List.mem_of_getElem? (l := wsL_law_r24) (i := 2) rfl)
set_option maxRecDepth 20000 in
theorem tL_24_2 : (Cond.methodLink RX9 215 yX4_firstRival) ∈ lw_tbl := tb_3 _ (List.mem_of_getElem? (l := tables_1_3) (i := 65) rfl)
set_option maxRecDepth 20000 in
theorem mL_24_3 : (Cond.instanceMethod yX4_firstRival) ∈ wsL_law := inr_24 _ (List.mem_of_getElem? (l := wsL_law_r24) (i := 3) rfl)
set_option maxRecDepth 20000 in
theorem tL_24_3 : (Cond.instanceMethod yX4_firstRival) ∈ lw_tbl := tb_3 _ (List.mem_of_getElem? (l := tables_1_3) (i := 66) rfl)
set_option maxRecDepth 20000 in
theorem mL_24_4 : (Cond.selects RX4 yX4_firstRival yX4_firstRival) ∈ wsL_law := inr_24 _ (List.mem_of_getElem? (l := wsL_law_r24) (i := 4) rfl)
set_option maxRecDepth 20000 in
theorem tL_24_4 : (Cond.selects RX4 yX4_firstRival yX4_firstRival) ∈ lw_tbl := tb_3 _ (List.mem_of_getElem? (l := tables_1_3) (i := 67) rfl)
set_option maxRecDepth 20000 in
theorem mL_24_5 : (Cond.code yX4_firstRival cX4_firstRival 3 (some .int)) ∈ wsL_law := inr_24 _ (List.mem_of_getElem? (l := wsL_law_r24) (i := 5) rfl)
set_option maxRecDepth 20000 in
theorem tL_24_5 : (Cond.code yX4_firstRival cX4_firstRival 3 (some .int)) ∈ lw_tbl := tb_3 _ (List.mem_of_getElem? (l := tables_1_3) (i := 68) rfl)
set_option maxRecDepth 20000 in
theorem mL_24_6 : (Cond.methodLink RX4 36 yX4_leastLack) ∈ wsL_law := inr_24 _ (List.mem_of_getElem? (l := wsL_law_r24) (i := 6) rfl)
set_option maxRecDepth 20000 in
theorem tL_24_6 : (Cond.methodLink RX4 36 yX4_leastLack) ∈ lw_tbl := tb_3 _ (List.mem_of_getElem? (l := tables_1_3) (i := 69) rfl)
set_option maxRecDepth 20000 in
theorem mL_24_7 : (Cond.instanceMethod yX4_leastLack) ∈ wsL_law := inr_24 _ (List.mem_of_getElem? (l := wsL_law_r24) (i := 7) rfl)
set_option maxRecDepth 20000 in
theorem tL_24_7 : (Cond.instanceMethod yX4_leastLack) ∈ lw_tbl := tb_3 _ (List.mem_of_getElem? (l := tables_1_3) (i := 70) rfl)
set_option maxRecDepth 20000 in
theorem mL_24_8 : (Cond.selects RX4 yX4_leastLack yX4_leastLack) ∈ wsL_law := inr_24 _ (List.mem_of_getElem? (l := wsL_law_r24) (i := 8) rfl)
set_option maxRecDepth 20000 in
theorem tL_24_8 : (Cond.selects RX4 yX4_leastLack yX4_leastLack) ∈ lw_tbl := tb_3 _ (List.mem_of_getElem? (l := tables_1_3) (i := 71) rfl)
set_option maxRecDepth 20000 in
theorem mL_24_9 : (Cond.code yX4_leastLack cX4_leastLack 3 (some .int)) ∈ wsL_law := inr_24 _ (List.mem_of_getElem? (l := wsL_law_r24) (i := 9) rfl)
set_option maxRecDepth 20000 in
theorem tL_24_9 : (Cond.code yX4_leastLack cX4_leastLack 3 (some .int)) ∈ lw_tbl := tb_3 _ (List.mem_of_getElem? (l := tables_1_3) (i := 72) rfl)
set_option maxRecDepth 20000 in
theorem mL_24_10 : (Cond.methodLink RX4 30 Lib.Math.min.name) ∈ wsL_law := inr_24 _ (List.mem_of_getElem? (l := wsL_law_r24) (i := 10) rfl)
set_option maxRecDepth 20000 in
theorem tL_24_10 : (Cond.methodLink RX4 30 Lib.Math.min.name) ∈ lw_tbl := tb_3 _ (List.mem_of_getElem? (l := tables_1_3) (i := 73) rfl)
set_option maxRecDepth 20000 in
theorem mL_24_11 : (Cond.static Lib.Math.min.name) ∈ wsL_law := inr_24 _ (List.mem_of_getElem? (l := wsL_law_r24) (i := 11) rfl)
set_option maxRecDepth 20000 in
theorem tL_24_11 : (Cond.static Lib.Math.min.name) ∈ lw_tbl := tb_3 _ (List.mem_of_getElem? (l := tables_1_3) (i := 74) rfl)
set_option maxRecDepth 20000 in
theorem mL_24_12 : (Cond.initialized "java/lang/Math") ∈ wsL_law := inr_24 _ (List.mem_of_getElem? (l := wsL_law_r24) (i := 12) rfl)
set_option maxRecDepth 20000 in
theorem tL_24_12 : (Cond.initialized "java/lang/Math") ∈ lw_tbl := tb_1 _ (List.mem_of_getElem? (l := tables_1_1) (i := 15) rfl)
set_option maxRecDepth 20000 in
theorem mL_24_13 : (Cond.code Lib.Math.min.name Lib.Math.min.code 2 (some .int)) ∈ wsL_law := inr_24 _ (List.mem_of_getElem? (l := wsL_law_r24) (i := 13) rfl)
set_option maxRecDepth 20000 in
theorem tL_24_13 : (Cond.code Lib.Math.min.name Lib.Math.min.code 2 (some .int)) ∈ lw_tbl := tb_3 _ (List.mem_of_getElem? (l := tables_1_3) (i := 75) rfl)
set_option maxRecDepth 20000 in
theorem mL_24_14 : (Cond.methodLink RL 82 yX10_reading) ∈ wsL_law := inr_24 _ (List.mem_of_getElem? (l := wsL_law_r24) (i := 14) rfl)
set_option maxRecDepth 20000 in
theorem tL_24_14 : (Cond.methodLink RL 82 yX10_reading) ∈ lw_tbl := tb_5 _ (List.mem_of_getElem? (l := tables_1_5) (i := 130) rfl)
set_option maxRecDepth 20000 in
theorem mL_24_15 : (Cond.instanceMethod yX10_reading) ∈ wsL_law := inr_24 _ (List.mem_of_getElem? (l := wsL_law_r24) (i := 15) rfl)
set_option maxRecDepth 20000 in
theorem tL_24_15 : (Cond.instanceMethod yX10_reading) ∈ lw_tbl := tb_5 _ (List.mem_of_getElem? (l := tables_1_5) (i := 131) rfl)
set_option maxRecDepth 20000 in
theorem mL_24_16 : (Cond.selects RX10 yX10_reading yX10_reading) ∈ wsL_law := inr_24 _ (List.mem_of_getElem? (l := wsL_law_r24) (i := 16) rfl)
set_option maxRecDepth 20000 in
theorem tL_24_16 : (Cond.selects RX10 yX10_reading yX10_reading) ∈ lw_tbl := tb_5 _ (List.mem_of_getElem? (l := tables_1_5) (i := 132) rfl)
set_option maxRecDepth 20000 in
theorem mL_24_17 : (Cond.code yX10_reading cX10_reading 3 (some .int)) ∈ wsL_law := inr_24 _ (List.mem_of_getElem? (l := wsL_law_r24) (i := 17) rfl)
set_option maxRecDepth 20000 in
theorem tL_24_17 : (Cond.code yX10_reading cX10_reading 3 (some .int)) ∈ lw_tbl := tb_5 _ (List.mem_of_getElem? (l := tables_1_5) (i := 133) rfl)
set_option maxRecDepth 20000 in
theorem mL_24_18 : (Cond.fieldLink RX10 193 "GhostSignsModel" "rivals" "I") ∈ wsL_law := inr_24 _ (List.mem_of_getElem? (l := wsL_law_r24) (i := 18) rfl)
set_option maxRecDepth 20000 in
theorem tL_24_18 : (Cond.fieldLink RX10 193 "GhostSignsModel" "rivals" "I") ∈ lw_tbl := tb_4 _ (List.mem_of_getElem? (l := tables_1_4) (i := 119) rfl)
set_option maxRecDepth 20000 in
theorem mL_24_19 : (Cond.fieldLink RX10 200 "GhostSignsModel" "asked" "I") ∈ wsL_law := inr_24 _ (List.mem_of_getElem? (l := wsL_law_r24) (i := 19) rfl)
set_option maxRecDepth 20000 in
theorem tL_24_19 : (Cond.fieldLink RX10 200 "GhostSignsModel" "asked" "I") ∈ lw_tbl := tb_4 _ (List.mem_of_getElem? (l := tables_1_4) (i := 104) rfl)
set_option maxRecDepth 20000 in
theorem mL_24_20 : (Cond.methodLink RX10 196 yX10_setRivals) ∈ wsL_law := inr_24 _ (List.mem_of_getElem? (l := wsL_law_r24) (i := 20) rfl)
set_option maxRecDepth 20000 in
theorem tL_24_20 : (Cond.methodLink RX10 196 yX10_setRivals) ∈ lw_tbl := tb_5 _ (List.mem_of_getElem? (l := tables_1_5) (i := 134) rfl)
set_option maxRecDepth 20000 in
theorem mL_24_21 : (Cond.instanceMethod yX10_setRivals) ∈ wsL_law := inr_24 _ (List.mem_of_getElem? (l := wsL_law_r24) (i := 21) rfl)
set_option maxRecDepth 20000 in
theorem tL_24_21 : (Cond.instanceMethod yX10_setRivals) ∈ lw_tbl := tb_5 _ (List.mem_of_getElem? (l := tables_1_5) (i := 136) rfl)
set_option maxRecDepth 20000 in
theorem mL_24_22 : (Cond.selects RX10 yX10_setRivals yX10_setRivals) ∈ wsL_law := inr_24 _ (List.mem_of_getElem? (l := wsL_law_r24) (i := 22) rfl)
set_option maxRecDepth 20000 in
theorem tL_24_22 : (Cond.selects RX10 yX10_setRivals yX10_setRivals) ∈ lw_tbl := List.mem_append_left _ (List.mem_of_getElem? (l := k2_sels lw_privs) (i := 29) rfl)
set_option maxRecDepth 20000 in
theorem mL_24_23 : (Cond.code yX10_setRivals cX10_setRivals 7 none) ∈ wsL_law := inr_24 _ (List.mem_of_getElem? (l := wsL_law_r24) (i := 23) rfl)
set_option maxRecDepth 20000 in
theorem tL_24_23 : (Cond.code yX10_setRivals cX10_setRivals 7 none) ∈ lw_tbl := tb_5 _ (List.mem_of_getElem? (l := tables_1_5) (i := 137) rfl)
set_option maxRecDepth 20000 in
theorem tin_24 : ∀ w ∈ wsL_law_r24, w ∈ lw_tbl := List.forall_mem_cons.mpr ⟨tL_24_0, List.forall_mem_cons.mpr ⟨tL_24_1, List.forall_mem_cons.mpr ⟨tL_24_2, List.forall_mem_cons.mpr ⟨tL_24_3, List.forall_mem_cons.mpr ⟨tL_24_4, List.forall_mem_cons.mpr ⟨tL_24_5, List.forall_mem_cons.mpr ⟨tL_24_6, List.forall_mem_cons.mpr ⟨tL_24_7, List.forall_mem_cons.mpr ⟨tL_24_8, List.forall_mem_cons.mpr ⟨tL_24_9, List.forall_mem_cons.mpr ⟨tL_24_10, List.forall_mem_cons.mpr ⟨tL_24_11, List.forall_mem_cons.mpr ⟨tL_24_12, List.forall_mem_cons.mpr ⟨tL_24_13, List.forall_mem_cons.mpr ⟨tL_24_14, List.forall_mem_cons.mpr ⟨tL_24_15, List.forall_mem_cons.mpr ⟨tL_24_16, List.forall_mem_cons.mpr ⟨tL_24_17, List.forall_mem_cons.mpr ⟨tL_24_18, List.forall_mem_cons.mpr ⟨tL_24_19, List.forall_mem_cons.mpr ⟨tL_24_20, List.forall_mem_cons.mpr ⟨tL_24_21, List.forall_mem_cons.mpr ⟨tL_24_22, List.forall_mem_cons.mpr ⟨tL_24_23, List.forall_mem_nil _⟩⟩⟩⟩⟩⟩⟩⟩⟩⟩⟩⟩⟩⟩⟩⟩⟩⟩⟩⟩⟩⟩⟩⟩
set_option maxRecDepth 20000 in
theorem mL_25_0 : (Cond.methodLink RL 83 yX9_rivals) ∈ wsL_law := inr_25 _ (List.mem_of_getElem? (l := wsL_law_r25) (i := 0) rfl)
set_option maxRecDepth 20000 in
theorem tL_25_0 : (Cond.methodLink RL 83 yX9_rivals) ∈ lw_tbl := tb_3 _ (List.mem_of_getElem? (l := tables_1_3) (i := 76) rfl)
set_option maxRecDepth 20000 in
theorem mL_25_1 : (Cond.instanceMethod yX9_rivals) ∈ wsL_law := inr_25 _ (List.mem_of_getElem? (l := wsL_law_r25) (i := 1) rfl)
set_option maxRecDepth 20000 in
theorem tL_25_1 : (Cond.instanceMethod yX9_rivals) ∈ lw_tbl := tb_3 _ (List.mem_of_getElem? (l := tables_1_3) (i := 77) rfl)
set_option maxRecDepth 20000 in
theorem mL_25_2 : (Cond.selects RX9 yX9_rivals yX9_rivals) ∈ wsL_law := inr_25 _ (List.mem_of_getElem? (l := wsL_law_r25) (i := 2) rfl)
set_option maxRecDepth 20000 in
theorem tL_25_2 : (Cond.selects RX9 yX9_rivals yX9_rivals) ∈ lw_tbl := tb_3 _ (List.mem_of_getElem? (l := tables_1_3) (i := 78) rfl)
set_option maxRecDepth 20000 in
theorem mL_25_3 : (Cond.code yX9_rivals cX9_rivals 3 (some .int)) ∈ wsL_law := inr_25 _ (List.mem_of_getElem? (l := wsL_law_r25) (i := 3) rfl)
set_option maxRecDepth 20000 in
theorem tL_25_3 : (Cond.code yX9_rivals cX9_rivals 3 (some .int)) ∈ lw_tbl := tb_3 _ (List.mem_of_getElem? (l := tables_1_3) (i := 79) rfl)
set_option maxRecDepth 20000 in
theorem mL_25_4 : (Cond.methodLink RX9 227 yX4_sizeOfRivals) ∈ wsL_law := inr_25 _ (List.mem_of_getElem? (l := wsL_law_r25) (i := 4) rfl)
set_option maxRecDepth 20000 in
theorem tL_25_4 : (Cond.methodLink RX9 227 yX4_sizeOfRivals) ∈ lw_tbl := tb_3 _ (List.mem_of_getElem? (l := tables_1_3) (i := 80) rfl)
set_option maxRecDepth 20000 in
theorem mL_25_5 : (Cond.instanceMethod yX4_sizeOfRivals) ∈ wsL_law := inr_25 _ (List.mem_of_getElem? (l := wsL_law_r25) (i := 5) rfl)
set_option maxRecDepth 20000 in
theorem tL_25_5 : (Cond.instanceMethod yX4_sizeOfRivals) ∈ lw_tbl := tb_3 _ (List.mem_of_getElem? (l := tables_1_3) (i := 81) rfl)
set_option maxRecDepth 20000 in
theorem mL_25_6 : (Cond.selects RX4 yX4_sizeOfRivals yX4_sizeOfRivals) ∈ wsL_law := inr_25 _ (List.mem_of_getElem? (l := wsL_law_r25) (i := 6) rfl)
set_option maxRecDepth 20000 in
theorem tL_25_6 : (Cond.selects RX4 yX4_sizeOfRivals yX4_sizeOfRivals) ∈ lw_tbl := tb_3 _ (List.mem_of_getElem? (l := tables_1_3) (i := 82) rfl)
set_option maxRecDepth 20000 in
theorem mL_25_7 : (Cond.code yX4_sizeOfRivals cX4_sizeOfRivals 4 (some .int)) ∈ wsL_law := inr_25 _ (List.mem_of_getElem? (l := wsL_law_r25) (i := 7) rfl)
set_option maxRecDepth 20000 in
theorem tL_25_7 : (Cond.code yX4_sizeOfRivals cX4_sizeOfRivals 4 (some .int)) ∈ lw_tbl := tb_3 _ (List.mem_of_getElem? (l := tables_1_3) (i := 83) rfl)
set_option maxRecDepth 20000 in
theorem mL_25_8 : (Cond.methodLink RL 86 yX10_rivals) ∈ wsL_law := inr_25 _ (List.mem_of_getElem? (l := wsL_law_r25) (i := 8) rfl)
set_option maxRecDepth 20000 in
theorem tL_25_8 : (Cond.methodLink RL 86 yX10_rivals) ∈ lw_tbl := tb_5 _ (List.mem_of_getElem? (l := tables_1_5) (i := 138) rfl)
set_option maxRecDepth 20000 in
theorem mL_25_9 : (Cond.instanceMethod yX10_rivals) ∈ wsL_law := inr_25 _ (List.mem_of_getElem? (l := wsL_law_r25) (i := 9) rfl)
set_option maxRecDepth 20000 in
theorem tL_25_9 : (Cond.instanceMethod yX10_rivals) ∈ lw_tbl := tb_5 _ (List.mem_of_getElem? (l := tables_1_5) (i := 139) rfl)
set_option maxRecDepth 20000 in
theorem mL_25_10 : (Cond.selects RX10 yX10_rivals yX10_rivals) ∈ wsL_law := inr_25 _ (List.mem_of_getElem? (l := wsL_law_r25) (i := 10) rfl)
set_option maxRecDepth 20000 in
theorem tL_25_10 : (Cond.selects RX10 yX10_rivals yX10_rivals) ∈ lw_tbl := tb_5 _ (List.mem_of_getElem? (l := tables_1_5) (i := 140) rfl)
set_option maxRecDepth 20000 in
theorem mL_25_11 : (Cond.code yX10_rivals cX10_rivals 3 (some .int)) ∈ wsL_law := inr_25 _ (List.mem_of_getElem? (l := wsL_law_r25) (i := 11) rfl)
set_option maxRecDepth 20000 in
theorem tL_25_11 : (Cond.code yX10_rivals cX10_rivals 3 (some .int)) ∈ lw_tbl := tb_5 _ (List.mem_of_getElem? (l := tables_1_5) (i := 141) rfl)
set_option maxRecDepth 20000 in
theorem mL_25_12 : (Cond.methodLink RL 87 yX9_layer) ∈ wsL_law := inr_25 _ (List.mem_of_getElem? (l := wsL_law_r25) (i := 12) rfl)
set_option maxRecDepth 20000 in
theorem tL_25_12 : (Cond.methodLink RL 87 yX9_layer) ∈ lw_tbl := tb_3 _ (List.mem_of_getElem? (l := tables_1_3) (i := 84) rfl)
set_option maxRecDepth 20000 in
theorem mL_25_13 : (Cond.instanceMethod yX9_layer) ∈ wsL_law := inr_25 _ (List.mem_of_getElem? (l := wsL_law_r25) (i := 13) rfl)
set_option maxRecDepth 20000 in
theorem tL_25_13 : (Cond.instanceMethod yX9_layer) ∈ lw_tbl := tb_3 _ (List.mem_of_getElem? (l := tables_1_3) (i := 85) rfl)
set_option maxRecDepth 20000 in
theorem mL_25_14 : (Cond.selects RX9 yX9_layer yX9_layer) ∈ wsL_law := inr_25 _ (List.mem_of_getElem? (l := wsL_law_r25) (i := 14) rfl)
set_option maxRecDepth 20000 in
theorem tL_25_14 : (Cond.selects RX9 yX9_layer yX9_layer) ∈ lw_tbl := tb_3 _ (List.mem_of_getElem? (l := tables_1_3) (i := 86) rfl)
set_option maxRecDepth 20000 in
theorem mL_25_15 : (Cond.code yX9_layer cX9_layer 6 (some .int)) ∈ wsL_law := inr_25 _ (List.mem_of_getElem? (l := wsL_law_r25) (i := 15) rfl)
set_option maxRecDepth 20000 in
theorem tL_25_15 : (Cond.code yX9_layer cX9_layer 6 (some .int)) ∈ lw_tbl := tb_3 _ (List.mem_of_getElem? (l := tables_1_3) (i := 87) rfl)
set_option maxRecDepth 20000 in
theorem mL_25_16 : (Cond.fieldLink RX9 238 "GhostSigns$Line" "layers" "I") ∈ wsL_law := inr_25 _ (List.mem_of_getElem? (l := wsL_law_r25) (i := 16) rfl)
set_option maxRecDepth 20000 in
theorem tL_25_16 : (Cond.fieldLink RX9 238 "GhostSigns$Line" "layers" "I") ∈ lw_tbl := tb_1 _ (List.mem_of_getElem? (l := tables_1_1) (i := 110) rfl)
set_option maxRecDepth 20000 in
theorem mL_25_17 : (Cond.methodLink RX9 230 yX2_isFull) ∈ wsL_law := inr_25 _ (List.mem_of_getElem? (l := wsL_law_r25) (i := 17) rfl)
set_option maxRecDepth 20000 in
theorem tL_25_17 : (Cond.methodLink RX9 230 yX2_isFull) ∈ lw_tbl := tb_3 _ (List.mem_of_getElem? (l := tables_1_3) (i := 88) rfl)
set_option maxRecDepth 20000 in
theorem mL_25_18 : (Cond.instanceMethod yX2_isFull) ∈ wsL_law := inr_25 _ (List.mem_of_getElem? (l := wsL_law_r25) (i := 18) rfl)
set_option maxRecDepth 20000 in
theorem tL_25_18 : (Cond.instanceMethod yX2_isFull) ∈ lw_tbl := tb_3 _ (List.mem_of_getElem? (l := tables_1_3) (i := 89) rfl)
set_option maxRecDepth 20000 in
theorem mL_25_19 : (Cond.selects RX2 yX2_isFull yX2_isFull) ∈ wsL_law := inr_25 _ (List.mem_of_getElem? (l := wsL_law_r25) (i := 19) rfl)
set_option maxRecDepth 20000 in
theorem tL_25_19 : (Cond.selects RX2 yX2_isFull yX2_isFull) ∈ lw_tbl := tb_3 _ (List.mem_of_getElem? (l := tables_1_3) (i := 90) rfl)
set_option maxRecDepth 20000 in
theorem mL_25_20 : (Cond.code yX2_isFull cX2_isFull 1 (some .boolean)) ∈ wsL_law := inr_25 _ (List.mem_of_getElem? (l := wsL_law_r25) (i := 20) rfl)
set_option maxRecDepth 20000 in
theorem tL_25_20 : (Cond.code yX2_isFull cX2_isFull 1 (some .boolean)) ∈ lw_tbl := tb_3 _ (List.mem_of_getElem? (l := tables_1_3) (i := 91) rfl)
set_option maxRecDepth 20000 in
theorem mL_25_21 : (Cond.methodLink RX9 231 yX2_hasLayerIn) ∈ wsL_law := inr_25 _ (List.mem_of_getElem? (l := wsL_law_r25) (i := 21) rfl)
set_option maxRecDepth 20000 in
theorem tL_25_21 : (Cond.methodLink RX9 231 yX2_hasLayerIn) ∈ lw_tbl := tb_3 _ (List.mem_of_getElem? (l := tables_1_3) (i := 92) rfl)
set_option maxRecDepth 20000 in
theorem mL_25_22 : (Cond.instanceMethod yX2_hasLayerIn) ∈ wsL_law := inr_25 _ (List.mem_of_getElem? (l := wsL_law_r25) (i := 22) rfl)
set_option maxRecDepth 20000 in
theorem tL_25_22 : (Cond.instanceMethod yX2_hasLayerIn) ∈ lw_tbl := tb_3 _ (List.mem_of_getElem? (l := tables_1_3) (i := 93) rfl)
set_option maxRecDepth 20000 in
theorem mL_25_23 : (Cond.selects RX2 yX2_hasLayerIn yX2_hasLayerIn) ∈ wsL_law := inr_25 _ (List.mem_of_getElem? (l := wsL_law_r25) (i := 23) rfl)
set_option maxRecDepth 20000 in
theorem tL_25_23 : (Cond.selects RX2 yX2_hasLayerIn yX2_hasLayerIn) ∈ lw_tbl := tb_3 _ (List.mem_of_getElem? (l := tables_1_3) (i := 94) rfl)
set_option maxRecDepth 20000 in
theorem tin_25 : ∀ w ∈ wsL_law_r25, w ∈ lw_tbl := List.forall_mem_cons.mpr ⟨tL_25_0, List.forall_mem_cons.mpr ⟨tL_25_1, List.forall_mem_cons.mpr ⟨tL_25_2, List.forall_mem_cons.mpr ⟨tL_25_3, List.forall_mem_cons.mpr ⟨tL_25_4, List.forall_mem_cons.mpr ⟨tL_25_5, List.forall_mem_cons.mpr ⟨tL_25_6, List.forall_mem_cons.mpr ⟨tL_25_7, List.forall_mem_cons.mpr ⟨tL_25_8, List.forall_mem_cons.mpr ⟨tL_25_9, List.forall_mem_cons.mpr ⟨tL_25_10, List.forall_mem_cons.mpr ⟨tL_25_11, List.forall_mem_cons.mpr ⟨tL_25_12, List.forall_mem_cons.mpr ⟨tL_25_13, List.forall_mem_cons.mpr ⟨tL_25_14, List.forall_mem_cons.mpr ⟨tL_25_15, List.forall_mem_cons.mpr ⟨tL_25_16, List.forall_mem_cons.mpr ⟨tL_25_17, List.forall_mem_cons.mpr ⟨tL_25_18, List.forall_mem_cons.mpr ⟨tL_25_19, List.forall_mem_cons.mpr ⟨tL_25_20, List.forall_mem_cons.mpr ⟨tL_25_21, List.forall_mem_cons.mpr ⟨tL_25_22, List.forall_mem_cons.mpr ⟨tL_25_23, List.forall_mem_nil _⟩⟩⟩⟩⟩⟩⟩⟩⟩⟩⟩⟩⟩⟩⟩⟩⟩⟩⟩⟩⟩⟩⟩⟩
set_option maxRecDepth 20000 in
theorem mL_26_0 : (Cond.code yX2_hasLayerIn cX2_hasLayerIn 3 (some .boolean)) ∈ wsL_law := inr_26 _ (List.mem_of_getElem? (l := wsL_law_r26) (i := 0) rfl)
set_option maxRecDepth 20000 in
theorem tL_26_0 : (Cond.code yX2_hasLayerIn cX2_hasLayerIn 3 (some .boolean)) ∈ lw_tbl := tb_3 _ (List.mem_of_getElem? (l := tables_1_3) (i := 95) rfl)
set_option maxRecDepth 20000 in
theorem mL_26_1 : (Cond.methodLink RX9 234 yX2_addLayer) ∈ wsL_law := inr_26 _ (List.mem_of_getElem? (l := wsL_law_r26) (i := 1) rfl)
set_option maxRecDepth 20000 in
theorem tL_26_1 : (Cond.methodLink RX9 234 yX2_addLayer) ∈ lw_tbl := tb_3 _ (List.mem_of_getElem? (l := tables_1_3) (i := 96) rfl)
set_option maxRecDepth 20000 in
theorem mL_26_2 : (Cond.instanceMethod yX2_addLayer) ∈ wsL_law := inr_26 _ (List.mem_of_getElem? (l := wsL_law_r26) (i := 2) rfl)
set_option maxRecDepth 20000 in
theorem tL_26_2 : (Cond.instanceMethod yX2_addLayer) ∈ lw_tbl := tb_3 _ (List.mem_of_getElem? (l := tables_1_3) (i := 97) rfl)
set_option maxRecDepth 20000 in
theorem mL_26_3 : (Cond.selects RX2 yX2_addLayer yX2_addLayer) ∈ wsL_law := inr_26 _ (List.mem_of_getElem? (l := wsL_law_r26) (i := 3) rfl)
set_option maxRecDepth 20000 in
theorem tL_26_3 : (Cond.selects RX2 yX2_addLayer yX2_addLayer) ∈ lw_tbl := tb_3 _ (List.mem_of_getElem? (l := tables_1_3) (i := 98) rfl)
set_option maxRecDepth 20000 in
theorem mL_26_4 : (Cond.code yX2_addLayer cX2_addLayer 4 none) ∈ wsL_law := inr_26 _ (List.mem_of_getElem? (l := wsL_law_r26) (i := 4) rfl)
set_option maxRecDepth 20000 in
theorem tL_26_4 : (Cond.code yX2_addLayer cX2_addLayer 4 none) ∈ lw_tbl := tb_3 _ (List.mem_of_getElem? (l := tables_1_3) (i := 99) rfl)
set_option maxRecDepth 20000 in
theorem mL_26_5 : (Cond.methodLink RL 90 yX10_layer) ∈ wsL_law := inr_26 _ (List.mem_of_getElem? (l := wsL_law_r26) (i := 5) rfl)
set_option maxRecDepth 20000 in
theorem tL_26_5 : (Cond.methodLink RL 90 yX10_layer) ∈ lw_tbl := tb_5 _ (List.mem_of_getElem? (l := tables_1_5) (i := 142) rfl)
set_option maxRecDepth 20000 in
theorem mL_26_6 : (Cond.instanceMethod yX10_layer) ∈ wsL_law := inr_26 _ (List.mem_of_getElem? (l := wsL_law_r26) (i := 6) rfl)
set_option maxRecDepth 20000 in
theorem tL_26_6 : (Cond.instanceMethod yX10_layer) ∈ lw_tbl := tb_5 _ (List.mem_of_getElem? (l := tables_1_5) (i := 143) rfl)
set_option maxRecDepth 20000 in
theorem mL_26_7 : (Cond.selects RX10 yX10_layer yX10_layer) ∈ wsL_law := inr_26 _ (List.mem_of_getElem? (l := wsL_law_r26) (i := 7) rfl)
set_option maxRecDepth 20000 in
theorem tL_26_7 : (Cond.selects RX10 yX10_layer yX10_layer) ∈ lw_tbl := tb_5 _ (List.mem_of_getElem? (l := tables_1_5) (i := 144) rfl)
set_option maxRecDepth 20000 in
theorem mL_26_8 : (Cond.code yX10_layer cX10_layer 6 (some .int)) ∈ wsL_law := inr_26 _ (List.mem_of_getElem? (l := wsL_law_r26) (i := 8) rfl)
set_option maxRecDepth 20000 in
theorem tL_26_8 : (Cond.code yX10_layer cX10_layer 6 (some .int)) ∈ lw_tbl := tb_5 _ (List.mem_of_getElem? (l := tables_1_5) (i := 145) rfl)
set_option maxRecDepth 20000 in
theorem mL_26_9 : (Cond.methodLink RX10 203 yX10_lays) ∈ wsL_law := inr_26 _ (List.mem_of_getElem? (l := wsL_law_r26) (i := 9) rfl)
set_option maxRecDepth 20000 in
theorem tL_26_9 : (Cond.methodLink RX10 203 yX10_lays) ∈ lw_tbl := tb_5 _ (List.mem_of_getElem? (l := tables_1_5) (i := 146) rfl)
set_option maxRecDepth 20000 in
theorem mL_26_10 : (Cond.instanceMethod yX10_lays) ∈ wsL_law := inr_26 _ (List.mem_of_getElem? (l := wsL_law_r26) (i := 10) rfl)
set_option maxRecDepth 20000 in
theorem tL_26_10 : (Cond.instanceMethod yX10_lays) ∈ lw_tbl := tb_5 _ (List.mem_of_getElem? (l := tables_1_5) (i := 148) rfl)
set_option maxRecDepth 20000 in
theorem mL_26_11 : (Cond.selects RX10 yX10_lays yX10_lays) ∈ wsL_law := inr_26 _ (List.mem_of_getElem? (l := wsL_law_r26) (i := 11) rfl)
set_option maxRecDepth 20000 in
theorem tL_26_11 : (Cond.selects RX10 yX10_lays yX10_lays) ∈ lw_tbl := List.mem_append_left _ (List.mem_of_getElem? (l := k2_sels lw_privs) (i := 30) rfl)
set_option maxRecDepth 20000 in
theorem mL_26_12 : (Cond.code yX10_lays cX10_lays 6 none) ∈ wsL_law := inr_26 _ (List.mem_of_getElem? (l := wsL_law_r26) (i := 12) rfl)
set_option maxRecDepth 20000 in
theorem tL_26_12 : (Cond.code yX10_lays cX10_lays 6 none) ∈ lw_tbl := tb_5 _ (List.mem_of_getElem? (l := tables_1_5) (i := 149) rfl)
set_option maxRecDepth 20000 in
theorem mL_26_13 : (Cond.methodLink RL 91 yX9_bare) ∈ wsL_law := inr_26 _ (List.mem_of_getElem? (l := wsL_law_r26) (i := 13) rfl)
set_option maxRecDepth 20000 in
theorem tL_26_13 : (Cond.methodLink RL 91 yX9_bare) ∈ lw_tbl := tb_3 _ (List.mem_of_getElem? (l := tables_1_3) (i := 100) rfl)
set_option maxRecDepth 20000 in
theorem mL_26_14 : (Cond.instanceMethod yX9_bare) ∈ wsL_law := inr_26 _ (List.mem_of_getElem? (l := wsL_law_r26) (i := 14) rfl)
set_option maxRecDepth 20000 in
theorem tL_26_14 : (Cond.instanceMethod yX9_bare) ∈ lw_tbl := tb_3 _ (List.mem_of_getElem? (l := tables_1_3) (i := 101) rfl)
set_option maxRecDepth 20000 in
theorem mL_26_15 : (Cond.selects RX9 yX9_bare yX9_bare) ∈ wsL_law := inr_26 _ (List.mem_of_getElem? (l := wsL_law_r26) (i := 15) rfl)
set_option maxRecDepth 20000 in
theorem tL_26_15 : (Cond.selects RX9 yX9_bare yX9_bare) ∈ lw_tbl := tb_3 _ (List.mem_of_getElem? (l := tables_1_3) (i := 102) rfl)
set_option maxRecDepth 20000 in
theorem mL_26_16 : (Cond.code yX9_bare cX9_bare 3 (some .int)) ∈ wsL_law := inr_26 _ (List.mem_of_getElem? (l := wsL_law_r26) (i := 16) rfl)
set_option maxRecDepth 20000 in
theorem tL_26_16 : (Cond.code yX9_bare cX9_bare 3 (some .int)) ∈ lw_tbl := tb_3 _ (List.mem_of_getElem? (l := tables_1_3) (i := 103) rfl)
set_option maxRecDepth 20000 in
theorem mL_26_17 : (Cond.methodLink RL 94 yX10_bare) ∈ wsL_law := inr_26 _ (List.mem_of_getElem? (l := wsL_law_r26) (i := 17) rfl)
set_option maxRecDepth 20000 in
theorem tL_26_17 : (Cond.methodLink RL 94 yX10_bare) ∈ lw_tbl := tb_5 _ (List.mem_of_getElem? (l := tables_1_5) (i := 150) rfl)
set_option maxRecDepth 20000 in
theorem mL_26_18 : (Cond.instanceMethod yX10_bare) ∈ wsL_law := inr_26 _ (List.mem_of_getElem? (l := wsL_law_r26) (i := 18) rfl)
set_option maxRecDepth 20000 in
theorem tL_26_18 : (Cond.instanceMethod yX10_bare) ∈ lw_tbl := tb_5 _ (List.mem_of_getElem? (l := tables_1_5) (i := 151) rfl)
set_option maxRecDepth 20000 in
theorem mL_26_19 : (Cond.selects RX10 yX10_bare yX10_bare) ∈ wsL_law := inr_26 _ (List.mem_of_getElem? (l := wsL_law_r26) (i := 19) rfl)
set_option maxRecDepth 20000 in
theorem tL_26_19 : (Cond.selects RX10 yX10_bare yX10_bare) ∈ lw_tbl := tb_5 _ (List.mem_of_getElem? (l := tables_1_5) (i := 152) rfl)
set_option maxRecDepth 20000 in
theorem mL_26_20 : (Cond.code yX10_bare cX10_bare 3 (some .int)) ∈ wsL_law := inr_26 _ (List.mem_of_getElem? (l := wsL_law_r26) (i := 20) rfl)
set_option maxRecDepth 20000 in
theorem tL_26_20 : (Cond.code yX10_bare cX10_bare 3 (some .int)) ∈ lw_tbl := tb_5 _ (List.mem_of_getElem? (l := tables_1_5) (i := 153) rfl)
set_option maxRecDepth 20000 in
theorem mL_26_21 : (Cond.methodLink RL 95 yX9_layerTold) ∈ wsL_law := inr_26 _ (List.mem_of_getElem? (l := wsL_law_r26) (i := 21) rfl)
set_option maxRecDepth 20000 in
theorem tL_26_21 : (Cond.methodLink RL 95 yX9_layerTold) ∈ lw_tbl := tb_3 _ (List.mem_of_getElem? (l := tables_1_3) (i := 104) rfl)
set_option maxRecDepth 20000 in
theorem mL_26_22 : (Cond.instanceMethod yX9_layerTold) ∈ wsL_law := inr_26 _ (List.mem_of_getElem? (l := wsL_law_r26) (i := 22) rfl)
set_option maxRecDepth 20000 in
theorem tL_26_22 : (Cond.instanceMethod yX9_layerTold) ∈ lw_tbl := tb_3 _ (List.mem_of_getElem? (l := tables_1_3) (i := 105) rfl)
set_option maxRecDepth 20000 in
theorem mL_26_23 : (Cond.selects RX9 yX9_layerTold yX9_layerTold) ∈ wsL_law := inr_26 _ (List.mem_of_getElem? (l := wsL_law_r26) (i := 23) rfl)
set_option maxRecDepth 20000 in
theorem tL_26_23 : (Cond.selects RX9 yX9_layerTold yX9_layerTold) ∈ lw_tbl := tb_3 _ (List.mem_of_getElem? (l := tables_1_3) (i := 106) rfl)
set_option maxRecDepth 20000 in
theorem tin_26 : ∀ w ∈ wsL_law_r26, w ∈ lw_tbl := List.forall_mem_cons.mpr ⟨tL_26_0, List.forall_mem_cons.mpr ⟨tL_26_1, List.forall_mem_cons.mpr ⟨tL_26_2, List.forall_mem_cons.mpr ⟨tL_26_3, List.forall_mem_cons.mpr ⟨tL_26_4, List.forall_mem_cons.mpr ⟨tL_26_5, List.forall_mem_cons.mpr ⟨tL_26_6, List.forall_mem_cons.mpr ⟨tL_26_7, List.forall_mem_cons.mpr ⟨tL_26_8, List.forall_mem_cons.mpr ⟨tL_26_9, List.forall_mem_cons.mpr ⟨tL_26_10, List.forall_mem_cons.mpr ⟨tL_26_11, List.forall_mem_cons.mpr ⟨tL_26_12, List.forall_mem_cons.mpr ⟨tL_26_13, List.forall_mem_cons.mpr ⟨tL_26_14, List.forall_mem_cons.mpr ⟨tL_26_15, List.forall_mem_cons.mpr ⟨tL_26_16, List.forall_mem_cons.mpr ⟨tL_26_17, List.forall_mem_cons.mpr ⟨tL_26_18, List.forall_mem_cons.mpr ⟨tL_26_19, List.forall_mem_cons.mpr ⟨tL_26_20, List.forall_mem_cons.mpr ⟨tL_26_21, List.forall_mem_cons.mpr ⟨tL_26_22, List.forall_mem_cons.mpr ⟨tL_26_23, List.forall_mem_nil _⟩⟩⟩⟩⟩⟩⟩⟩⟩⟩⟩⟩⟩⟩⟩⟩⟩⟩⟩⟩⟩⟩⟩⟩
set_option maxRecDepth 20000 in
theorem mL_27_0 : (Cond.code yX9_layerTold cX9_layerTold 4 (some .int)) ∈ wsL_law := inr_27 _ (List.mem_of_getElem? (l := wsL_law_r27) (i := 0) rfl)
set_option maxRecDepth 20000 in
theorem tL_27_0 : (Cond.code yX9_layerTold cX9_layerTold 4 (some .int)) ∈ lw_tbl := tb_3 _ (List.mem_of_getElem? (l := tables_1_3) (i := 107) rfl)
set_option maxRecDepth 20000 in
theorem mL_27_1 : (Cond.methodLink RX9 241 yX2_factOf) ∈ wsL_law := inr_27 _ (List.mem_of_getElem? (l := wsL_law_r27) (i := 1) rfl)
set_option maxRecDepth 20000 in
theorem tL_27_1 : (Cond.methodLink RX9 241 yX2_factOf) ∈ lw_tbl := tb_3 _ (List.mem_of_getElem? (l := tables_1_3) (i := 108) rfl)
set_option maxRecDepth 20000 in
theorem mL_27_2 : (Cond.instanceMethod yX2_factOf) ∈ wsL_law := inr_27 _ (List.mem_of_getElem? (l := wsL_law_r27) (i := 2) rfl)
set_option maxRecDepth 20000 in
theorem tL_27_2 : (Cond.instanceMethod yX2_factOf) ∈ lw_tbl := tb_3 _ (List.mem_of_getElem? (l := tables_1_3) (i := 109) rfl)
set_option maxRecDepth 20000 in
theorem mL_27_3 : (Cond.selects RX2 yX2_factOf yX2_factOf) ∈ wsL_law := inr_27 _ (List.mem_of_getElem? (l := wsL_law_r27) (i := 3) rfl)
set_option maxRecDepth 20000 in
theorem tL_27_3 : (Cond.selects RX2 yX2_factOf yX2_factOf) ∈ lw_tbl := tb_3 _ (List.mem_of_getElem? (l := tables_1_3) (i := 110) rfl)
set_option maxRecDepth 20000 in
theorem mL_27_4 : (Cond.code yX2_factOf cX2_factOf 3 (some .int)) ∈ wsL_law := inr_27 _ (List.mem_of_getElem? (l := wsL_law_r27) (i := 4) rfl)
set_option maxRecDepth 20000 in
theorem tL_27_4 : (Cond.code yX2_factOf cX2_factOf 3 (some .int)) ∈ lw_tbl := tb_3 _ (List.mem_of_getElem? (l := tables_1_3) (i := 111) rfl)
set_option maxRecDepth 20000 in
theorem mL_27_5 : (Cond.methodLink RL 98 yX10_layerTold) ∈ wsL_law := inr_27 _ (List.mem_of_getElem? (l := wsL_law_r27) (i := 5) rfl)
set_option maxRecDepth 20000 in
theorem tL_27_5 : (Cond.methodLink RL 98 yX10_layerTold) ∈ lw_tbl := tb_5 _ (List.mem_of_getElem? (l := tables_1_5) (i := 154) rfl)
set_option maxRecDepth 20000 in
theorem mL_27_6 : (Cond.instanceMethod yX10_layerTold) ∈ wsL_law := inr_27 _ (List.mem_of_getElem? (l := wsL_law_r27) (i := 6) rfl)
set_option maxRecDepth 20000 in
theorem tL_27_6 : (Cond.instanceMethod yX10_layerTold) ∈ lw_tbl := tb_5 _ (List.mem_of_getElem? (l := tables_1_5) (i := 155) rfl)
set_option maxRecDepth 20000 in
theorem mL_27_7 : (Cond.selects RX10 yX10_layerTold yX10_layerTold) ∈ wsL_law := inr_27 _ (List.mem_of_getElem? (l := wsL_law_r27) (i := 7) rfl)
set_option maxRecDepth 20000 in
theorem tL_27_7 : (Cond.selects RX10 yX10_layerTold yX10_layerTold) ∈ lw_tbl := tb_5 _ (List.mem_of_getElem? (l := tables_1_5) (i := 156) rfl)
set_option maxRecDepth 20000 in
theorem mL_27_8 : (Cond.code yX10_layerTold cX10_layerTold 5 (some .int)) ∈ wsL_law := inr_27 _ (List.mem_of_getElem? (l := wsL_law_r27) (i := 8) rfl)
set_option maxRecDepth 20000 in
theorem tL_27_8 : (Cond.code yX10_layerTold cX10_layerTold 5 (some .int)) ∈ lw_tbl := tb_5 _ (List.mem_of_getElem? (l := tables_1_5) (i := 157) rfl)
set_option maxRecDepth 20000 in
theorem mL_27_9 : (Cond.methodLink RL 99 yX9_faded) ∈ wsL_law := inr_27 _ (List.mem_of_getElem? (l := wsL_law_r27) (i := 9) rfl)
set_option maxRecDepth 20000 in
theorem tL_27_9 : (Cond.methodLink RL 99 yX9_faded) ∈ lw_tbl := tb_3 _ (List.mem_of_getElem? (l := tables_1_3) (i := 112) rfl)
set_option maxRecDepth 20000 in
theorem mL_27_10 : (Cond.instanceMethod yX9_faded) ∈ wsL_law := inr_27 _ (List.mem_of_getElem? (l := wsL_law_r27) (i := 10) rfl)
set_option maxRecDepth 20000 in
theorem tL_27_10 : (Cond.instanceMethod yX9_faded) ∈ lw_tbl := tb_3 _ (List.mem_of_getElem? (l := tables_1_3) (i := 113) rfl)
set_option maxRecDepth 20000 in
theorem mL_27_11 : (Cond.selects RX9 yX9_faded yX9_faded) ∈ wsL_law := inr_27 _ (List.mem_of_getElem? (l := wsL_law_r27) (i := 11) rfl)
set_option maxRecDepth 20000 in
theorem tL_27_11 : (Cond.selects RX9 yX9_faded yX9_faded) ∈ lw_tbl := tb_3 _ (List.mem_of_getElem? (l := tables_1_3) (i := 114) rfl)
set_option maxRecDepth 20000 in
theorem mL_27_12 : (Cond.code yX9_faded cX9_faded 4 (some .int)) ∈ wsL_law := inr_27 _ (List.mem_of_getElem? (l := wsL_law_r27) (i := 12) rfl)
set_option maxRecDepth 20000 in
theorem tL_27_12 : (Cond.code yX9_faded cX9_faded 4 (some .int)) ∈ lw_tbl := tb_3 _ (List.mem_of_getElem? (l := tables_1_3) (i := 115) rfl)
set_option maxRecDepth 20000 in
theorem mL_27_13 : (Cond.methodLink RX9 242 yX9_fitsIn) ∈ wsL_law := inr_27 _ (List.mem_of_getElem? (l := wsL_law_r27) (i := 13) rfl)
set_option maxRecDepth 20000 in
theorem tL_27_13 : (Cond.methodLink RX9 242 yX9_fitsIn) ∈ lw_tbl := tb_3 _ (List.mem_of_getElem? (l := tables_1_3) (i := 116) rfl)
set_option maxRecDepth 20000 in
theorem mL_27_14 : (Cond.instanceMethod yX9_fitsIn) ∈ wsL_law := inr_27 _ (List.mem_of_getElem? (l := wsL_law_r27) (i := 14) rfl)
set_option maxRecDepth 20000 in
theorem tL_27_14 : (Cond.instanceMethod yX9_fitsIn) ∈ lw_tbl := tb_3 _ (List.mem_of_getElem? (l := tables_1_3) (i := 118) rfl)
set_option maxRecDepth 20000 in
theorem mL_27_15 : (Cond.selects RX9 yX9_fitsIn yX9_fitsIn) ∈ wsL_law := inr_27 _ (List.mem_of_getElem? (l := wsL_law_r27) (i := 15) rfl)
set_option maxRecDepth 20000 in
theorem tL_27_15 : (Cond.selects RX9 yX9_fitsIn yX9_fitsIn) ∈ lw_tbl := List.mem_append_left _ (List.mem_of_getElem? (l := k2_sels lw_privs) (i := 7) rfl)
set_option maxRecDepth 20000 in
theorem mL_27_16 : (Cond.code yX9_fitsIn cX9_fitsIn 6 (some .boolean)) ∈ wsL_law := inr_27 _ (List.mem_of_getElem? (l := wsL_law_r27) (i := 16) rfl)
set_option maxRecDepth 20000 in
theorem tL_27_16 : (Cond.code yX9_fitsIn cX9_fitsIn 6 (some .boolean)) ∈ lw_tbl := tb_3 _ (List.mem_of_getElem? (l := tables_1_3) (i := 119) rfl)
set_option maxRecDepth 20000 in
theorem mL_27_17 : (Cond.fieldLink RX9 412 "GhostSigns$Line" "layerColours" "[I") ∈ wsL_law := inr_27 _ (List.mem_of_getElem? (l := wsL_law_r27) (i := 17) rfl)
set_option maxRecDepth 20000 in
theorem tL_27_17 : (Cond.fieldLink RX9 412 "GhostSigns$Line" "layerColours" "[I") ∈ lw_tbl := tb_1 _ (List.mem_of_getElem? (l := tables_1_1) (i := 108) rfl)
set_option maxRecDepth 20000 in
theorem mL_27_18 : (Cond.methodLink RX9 415 yX9_layerCells) ∈ wsL_law := inr_27 _ (List.mem_of_getElem? (l := wsL_law_r27) (i := 18) rfl)
set_option maxRecDepth 20000 in
theorem tL_27_18 : (Cond.methodLink RX9 415 yX9_layerCells) ∈ lw_tbl := tb_3 _ (List.mem_of_getElem? (l := tables_1_3) (i := 120) rfl)
set_option maxRecDepth 20000 in
theorem mL_27_19 : (Cond.instanceMethod yX9_layerCells) ∈ wsL_law := inr_27 _ (List.mem_of_getElem? (l := wsL_law_r27) (i := 19) rfl)
set_option maxRecDepth 20000 in
theorem tL_27_19 : (Cond.instanceMethod yX9_layerCells) ∈ lw_tbl := tb_3 _ (List.mem_of_getElem? (l := tables_1_3) (i := 122) rfl)
set_option maxRecDepth 20000 in
theorem mL_27_20 : (Cond.selects RX9 yX9_layerCells yX9_layerCells) ∈ wsL_law := inr_27 _ (List.mem_of_getElem? (l := wsL_law_r27) (i := 20) rfl)
set_option maxRecDepth 20000 in
theorem tL_27_20 : (Cond.selects RX9 yX9_layerCells yX9_layerCells) ∈ lw_tbl := List.mem_append_left _ (List.mem_of_getElem? (l := k2_sels lw_privs) (i := 8) rfl)
set_option maxRecDepth 20000 in
theorem mL_27_21 : (Cond.code yX9_layerCells cX9_layerCells 4 (some .int)) ∈ wsL_law := inr_27 _ (List.mem_of_getElem? (l := wsL_law_r27) (i := 21) rfl)
set_option maxRecDepth 20000 in
theorem tL_27_21 : (Cond.code yX9_layerCells cX9_layerCells 4 (some .int)) ∈ lw_tbl := tb_3 _ (List.mem_of_getElem? (l := tables_1_3) (i := 123) rfl)
set_option maxRecDepth 20000 in
theorem mL_27_22 : (Cond.fieldLink RX9 305 "GhostSigns$Line" "layerWords" "[I") ∈ wsL_law := inr_27 _ (List.mem_of_getElem? (l := wsL_law_r27) (i := 22) rfl)
set_option maxRecDepth 20000 in
theorem tL_27_22 : (Cond.fieldLink RX9 305 "GhostSigns$Line" "layerWords" "[I") ∈ lw_tbl := tb_1 _ (List.mem_of_getElem? (l := tables_1_1) (i := 104) rfl)
set_option maxRecDepth 20000 in
theorem mL_27_23 : (Cond.fieldLink RX9 418 "GhostSigns$Line" "layerSlots" "[I") ∈ wsL_law := inr_27 _ (List.mem_of_getElem? (l := wsL_law_r27) (i := 23) rfl)
set_option maxRecDepth 20000 in
theorem tL_27_23 : (Cond.fieldLink RX9 418 "GhostSigns$Line" "layerSlots" "[I") ∈ lw_tbl := tb_1 _ (List.mem_of_getElem? (l := tables_1_1) (i := 106) rfl)
set_option maxRecDepth 20000 in
theorem tin_27 : ∀ w ∈ wsL_law_r27, w ∈ lw_tbl := List.forall_mem_cons.mpr ⟨tL_27_0, List.forall_mem_cons.mpr ⟨tL_27_1, List.forall_mem_cons.mpr ⟨tL_27_2, List.forall_mem_cons.mpr ⟨tL_27_3, List.forall_mem_cons.mpr ⟨tL_27_4, List.forall_mem_cons.mpr ⟨tL_27_5, List.forall_mem_cons.mpr ⟨tL_27_6, List.forall_mem_cons.mpr ⟨tL_27_7, List.forall_mem_cons.mpr ⟨tL_27_8, List.forall_mem_cons.mpr ⟨tL_27_9, List.forall_mem_cons.mpr ⟨tL_27_10, List.forall_mem_cons.mpr ⟨tL_27_11, List.forall_mem_cons.mpr ⟨tL_27_12, List.forall_mem_cons.mpr ⟨tL_27_13, List.forall_mem_cons.mpr ⟨tL_27_14, List.forall_mem_cons.mpr ⟨tL_27_15, List.forall_mem_cons.mpr ⟨tL_27_16, List.forall_mem_cons.mpr ⟨tL_27_17, List.forall_mem_cons.mpr ⟨tL_27_18, List.forall_mem_cons.mpr ⟨tL_27_19, List.forall_mem_cons.mpr ⟨tL_27_20, List.forall_mem_cons.mpr ⟨tL_27_21, List.forall_mem_cons.mpr ⟨tL_27_22, List.forall_mem_cons.mpr ⟨tL_27_23, List.forall_mem_nil _⟩⟩⟩⟩⟩⟩⟩⟩⟩⟩⟩⟩⟩⟩⟩⟩⟩⟩⟩⟩⟩⟩⟩⟩
set_option maxRecDepth 20000 in
theorem mL_28_0 : (Cond.methodLink RX9 246 yX9_fadedIn) ∈ wsL_law := inr_28 _ (List.mem_of_getElem? (l := wsL_law_r28) (i := 0) rfl)
set_option maxRecDepth 20000 in
theorem tL_28_0 : (Cond.methodLink RX9 246 yX9_fadedIn) ∈ lw_tbl := tb_3 _ (List.mem_of_getElem? (l := tables_1_3) (i := 124) rfl)
set_option maxRecDepth 20000 in
theorem mL_28_1 : (Cond.instanceMethod yX9_fadedIn) ∈ wsL_law := inr_28 _ (List.mem_of_getElem? (l := wsL_law_r28) (i := 1) rfl)
set_option maxRecDepth 20000 in
theorem tL_28_1 : (Cond.instanceMethod yX9_fadedIn) ∈ lw_tbl := tb_3 _ (List.mem_of_getElem? (l := tables_1_3) (i := 126) rfl)
set_option maxRecDepth 20000 in
theorem mL_28_2 : (Cond.selects RX9 yX9_fadedIn yX9_fadedIn) ∈ wsL_law := inr_28 _ (List.mem_of_getElem? (l := wsL_law_r28) (i := 2) rfl)
set_option maxRecDepth 20000 in
theorem tL_28_2 : (Cond.selects RX9 yX9_fadedIn yX9_fadedIn) ∈ lw_tbl := List.mem_append_left _ (List.mem_of_getElem? (l := k2_sels lw_privs) (i := 9) rfl)
set_option maxRecDepth 20000 in
theorem mL_28_3 : (Cond.code yX9_fadedIn cX9_fadedIn 6 (some .int)) ∈ wsL_law := inr_28 _ (List.mem_of_getElem? (l := wsL_law_r28) (i := 3) rfl)
set_option maxRecDepth 20000 in
theorem tL_28_3 : (Cond.code yX9_fadedIn cX9_fadedIn 6 (some .int)) ∈ lw_tbl := tb_3 _ (List.mem_of_getElem? (l := tables_1_3) (i := 127) rfl)
set_option maxRecDepth 20000 in
theorem mL_28_4 : (Cond.methodLink RL 102 yX10_faded) ∈ wsL_law := inr_28 _ (List.mem_of_getElem? (l := wsL_law_r28) (i := 4) rfl)
set_option maxRecDepth 20000 in
theorem tL_28_4 : (Cond.methodLink RL 102 yX10_faded) ∈ lw_tbl := tb_5 _ (List.mem_of_getElem? (l := tables_1_5) (i := 158) rfl)
set_option maxRecDepth 20000 in
theorem mL_28_5 : (Cond.instanceMethod yX10_faded) ∈ wsL_law := inr_28 _ (List.mem_of_getElem? (l := wsL_law_r28) (i := 5) rfl)
set_option maxRecDepth 20000 in
theorem tL_28_5 : (Cond.instanceMethod yX10_faded) ∈ lw_tbl := tb_5 _ (List.mem_of_getElem? (l := tables_1_5) (i := 159) rfl)
set_option maxRecDepth 20000 in
theorem mL_28_6 : (Cond.selects RX10 yX10_faded yX10_faded) ∈ wsL_law := inr_28 _ (List.mem_of_getElem? (l := wsL_law_r28) (i := 6) rfl)
set_option maxRecDepth 20000 in
theorem tL_28_6 : (Cond.selects RX10 yX10_faded yX10_faded) ∈ lw_tbl := tb_5 _ (List.mem_of_getElem? (l := tables_1_5) (i := 160) rfl)
set_option maxRecDepth 20000 in
theorem mL_28_7 : (Cond.code yX10_faded cX10_faded 2 (some .int)) ∈ wsL_law := inr_28 _ (List.mem_of_getElem? (l := wsL_law_r28) (i := 7) rfl)
set_option maxRecDepth 20000 in
theorem tL_28_7 : (Cond.code yX10_faded cX10_faded 2 (some .int)) ∈ lw_tbl := tb_5 _ (List.mem_of_getElem? (l := tables_1_5) (i := 161) rfl)
set_option maxRecDepth 20000 in
theorem mL_28_8 : (Cond.methodLink RX10 207 yX10_fadedOf) ∈ wsL_law := inr_28 _ (List.mem_of_getElem? (l := wsL_law_r28) (i := 8) rfl)
set_option maxRecDepth 20000 in
theorem tL_28_8 : (Cond.methodLink RX10 207 yX10_fadedOf) ∈ lw_tbl := tb_5 _ (List.mem_of_getElem? (l := tables_1_5) (i := 162) rfl)
set_option maxRecDepth 20000 in
theorem mL_28_9 : (Cond.instanceMethod yX10_fadedOf) ∈ wsL_law := inr_28 _ (List.mem_of_getElem? (l := wsL_law_r28) (i := 9) rfl)
set_option maxRecDepth 20000 in
theorem tL_28_9 : (Cond.instanceMethod yX10_fadedOf) ∈ lw_tbl := tb_5 _ (List.mem_of_getElem? (l := tables_1_5) (i := 164) rfl)
set_option maxRecDepth 20000 in
theorem mL_28_10 : (Cond.selects RX10 yX10_fadedOf yX10_fadedOf) ∈ wsL_law := inr_28 _ (List.mem_of_getElem? (l := wsL_law_r28) (i := 10) rfl)
set_option maxRecDepth 20000 in
theorem tL_28_10 : (Cond.selects RX10 yX10_fadedOf yX10_fadedOf) ∈ lw_tbl := List.mem_append_left _ (List.mem_of_getElem? (l := k2_sels lw_privs) (i := 31) rfl)
set_option maxRecDepth 20000 in
theorem mL_28_11 : (Cond.code yX10_fadedOf cX10_fadedOf 9 (some .int)) ∈ wsL_law := inr_28 _ (List.mem_of_getElem? (l := wsL_law_r28) (i := 11) rfl)
set_option maxRecDepth 20000 in
theorem tL_28_11 : (Cond.code yX10_fadedOf cX10_fadedOf 9 (some .int)) ∈ lw_tbl := tb_5 _ (List.mem_of_getElem? (l := tables_1_5) (i := 165) rfl)
set_option maxRecDepth 20000 in
theorem mL_28_12 : (Cond.methodLink RL 103 yX9_two) ∈ wsL_law := inr_28 _ (List.mem_of_getElem? (l := wsL_law_r28) (i := 12) rfl)
set_option maxRecDepth 20000 in
theorem tL_28_12 : (Cond.methodLink RL 103 yX9_two) ∈ lw_tbl := tb_3 _ (List.mem_of_getElem? (l := tables_1_3) (i := 128) rfl)
set_option maxRecDepth 20000 in
theorem mL_28_13 : (Cond.instanceMethod yX9_two) ∈ wsL_law := inr_28 _ (List.mem_of_getElem? (l := wsL_law_r28) (i := 13) rfl)
set_option maxRecDepth 20000 in
theorem tL_28_13 : (Cond.instanceMethod yX9_two) ∈ lw_tbl := tb_3 _ (List.mem_of_getElem? (l := tables_1_3) (i := 129) rfl)
set_option maxRecDepth 20000 in
theorem mL_28_14 : (Cond.selects RX9 yX9_two yX9_two) ∈ wsL_law := inr_28 _ (List.mem_of_getElem? (l := wsL_law_r28) (i := 14) rfl)
set_option maxRecDepth 20000 in
theorem tL_28_14 : (Cond.selects RX9 yX9_two yX9_two) ∈ lw_tbl := tb_3 _ (List.mem_of_getElem? (l := tables_1_3) (i := 130) rfl)
set_option maxRecDepth 20000 in
theorem mL_28_15 : (Cond.code yX9_two cX9_two 7 (some .int)) ∈ wsL_law := inr_28 _ (List.mem_of_getElem? (l := wsL_law_r28) (i := 15) rfl)
set_option maxRecDepth 20000 in
theorem tL_28_15 : (Cond.code yX9_two cX9_two 7 (some .int)) ∈ lw_tbl := tb_3 _ (List.mem_of_getElem? (l := tables_1_3) (i := 131) rfl)
set_option maxRecDepth 20000 in
theorem mL_28_16 : (Cond.fieldLink RX9 261 "GhostSigns$Pair" "aBeneath" "Z") ∈ wsL_law := inr_28 _ (List.mem_of_getElem? (l := wsL_law_r28) (i := 16) rfl)
set_option maxRecDepth 20000 in
theorem tL_28_16 : (Cond.fieldLink RX9 261 "GhostSigns$Pair" "aBeneath" "Z") ∈ lw_tbl := tb_2 _ (List.mem_of_getElem? (l := tables_1_2) (i := 14) rfl)
set_option maxRecDepth 20000 in
theorem mL_28_17 : (Cond.fieldLink RX9 265 "GhostSigns$Pair" "ofA" "I") ∈ wsL_law := inr_28 _ (List.mem_of_getElem? (l := wsL_law_r28) (i := 17) rfl)
set_option maxRecDepth 20000 in
theorem tL_28_17 : (Cond.fieldLink RX9 265 "GhostSigns$Pair" "ofA" "I") ∈ lw_tbl := tb_2 _ (List.mem_of_getElem? (l := tables_1_2) (i := 10) rfl)
set_option maxRecDepth 20000 in
theorem mL_28_18 : (Cond.fieldLink RX9 272 "GhostSigns$Pair" "ofB" "I") ∈ wsL_law := inr_28 _ (List.mem_of_getElem? (l := wsL_law_r28) (i := 18) rfl)
set_option maxRecDepth 20000 in
theorem tL_28_18 : (Cond.fieldLink RX9 272 "GhostSigns$Pair" "ofB" "I") ∈ lw_tbl := tb_2 _ (List.mem_of_getElem? (l := tables_1_2) (i := 12) rfl)
set_option maxRecDepth 20000 in
theorem mL_28_19 : (Cond.fieldLink RX9 275 "GhostSigns$Pair" "fewest" "I") ∈ wsL_law := inr_28 _ (List.mem_of_getElem? (l := wsL_law_r28) (i := 19) rfl)
set_option maxRecDepth 20000 in
theorem tL_28_19 : (Cond.fieldLink RX9 275 "GhostSigns$Pair" "fewest" "I") ∈ lw_tbl := tb_2 _ (List.mem_of_getElem? (l := tables_1_2) (i := 8) rfl)
set_option maxRecDepth 20000 in
theorem mL_28_20 : (Cond.methodLink RX9 250 yX3_tries) ∈ wsL_law := inr_28 _ (List.mem_of_getElem? (l := wsL_law_r28) (i := 20) rfl)
set_option maxRecDepth 20000 in
theorem tL_28_20 : (Cond.methodLink RX9 250 yX3_tries) ∈ lw_tbl := tb_3 _ (List.mem_of_getElem? (l := tables_1_3) (i := 132) rfl)
set_option maxRecDepth 20000 in
theorem mL_28_21 : (Cond.instanceMethod yX3_tries) ∈ wsL_law := inr_28 _ (List.mem_of_getElem? (l := wsL_law_r28) (i := 21) rfl)
set_option maxRecDepth 20000 in
theorem tL_28_21 : (Cond.instanceMethod yX3_tries) ∈ lw_tbl := tb_3 _ (List.mem_of_getElem? (l := tables_1_3) (i := 133) rfl)
set_option maxRecDepth 20000 in
theorem mL_28_22 : (Cond.selects RX3 yX3_tries yX3_tries) ∈ wsL_law := inr_28 _ (List.mem_of_getElem? (l := wsL_law_r28) (i := 22) rfl)
set_option maxRecDepth 20000 in
theorem tL_28_22 : (Cond.selects RX3 yX3_tries yX3_tries) ∈ lw_tbl := tb_3 _ (List.mem_of_getElem? (l := tables_1_3) (i := 134) rfl)
set_option maxRecDepth 20000 in
theorem mL_28_23 : (Cond.code yX3_tries cX3_tries 6 (some .int)) ∈ wsL_law := inr_28 _ (List.mem_of_getElem? (l := wsL_law_r28) (i := 23) rfl)
set_option maxRecDepth 20000 in
theorem tL_28_23 : (Cond.code yX3_tries cX3_tries 6 (some .int)) ∈ lw_tbl := tb_3 _ (List.mem_of_getElem? (l := tables_1_3) (i := 135) rfl)
set_option maxRecDepth 20000 in
theorem tin_28 : ∀ w ∈ wsL_law_r28, w ∈ lw_tbl := List.forall_mem_cons.mpr ⟨tL_28_0, List.forall_mem_cons.mpr ⟨tL_28_1, List.forall_mem_cons.mpr ⟨tL_28_2, List.forall_mem_cons.mpr ⟨tL_28_3, List.forall_mem_cons.mpr ⟨tL_28_4, List.forall_mem_cons.mpr ⟨tL_28_5, List.forall_mem_cons.mpr ⟨tL_28_6, List.forall_mem_cons.mpr ⟨tL_28_7, List.forall_mem_cons.mpr ⟨tL_28_8, List.forall_mem_cons.mpr ⟨tL_28_9, List.forall_mem_cons.mpr ⟨tL_28_10, List.forall_mem_cons.mpr ⟨tL_28_11, List.forall_mem_cons.mpr ⟨tL_28_12, List.forall_mem_cons.mpr ⟨tL_28_13, List.forall_mem_cons.mpr ⟨tL_28_14, List.forall_mem_cons.mpr ⟨tL_28_15, List.forall_mem_cons.mpr ⟨tL_28_16, List.forall_mem_cons.mpr ⟨tL_28_17, List.forall_mem_cons.mpr ⟨tL_28_18, List.forall_mem_cons.mpr ⟨tL_28_19, List.forall_mem_cons.mpr ⟨tL_28_20, List.forall_mem_cons.mpr ⟨tL_28_21, List.forall_mem_cons.mpr ⟨tL_28_22, List.forall_mem_cons.mpr ⟨tL_28_23, List.forall_mem_nil _⟩⟩⟩⟩⟩⟩⟩⟩⟩⟩⟩⟩⟩⟩⟩⟩⟩⟩⟩⟩⟩⟩⟩⟩
