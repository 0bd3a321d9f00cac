set_option maxRecDepth 20000 in
theorem mL_29_0 : (Cond.fieldLink RX3 9 "GhostSigns$Places" "entries" "I") ∈ wsL_law := inr_29 _ (List.mem_of_getElem? (l := wsL_law_r29) (i := 0) rfl)
set_option maxRecDepth 20000 in
theorem tL_29_0 : (Cond.fieldLink RX3 9 "GhostSigns$Places" "entries" "I") ∈ lw_tbl := tb_1 _ (List.mem_of_getElem? (l := tables_1_1) (i := 228) rfl)
set_option maxRecDepth 20000 in
theorem mL_29_1 : (Cond.fieldLink RX3 15 "GhostSigns$Places" "words" "[I") ∈ wsL_law := inr_29 _ (List.mem_of_getElem? (l := wsL_law_r29) (i := 1) rfl)
set_option maxRecDepth 20000 in
theorem tL_29_1 : (Cond.fieldLink RX3 15 "GhostSigns$Places" "words" "[I") ∈ lw_tbl := tb_1 _ (List.mem_of_getElem? (l := tables_1_1) (i := 218) rfl)
set_option maxRecDepth 20000 in
theorem mL_29_2 : (Cond.methodLink RX9 254 yX2_shows) ∈ wsL_law := inr_29 _ (List.mem_of_getElem? (l := wsL_law_r29) (i := 2) rfl)
set_option maxRecDepth 20000 in
theorem tL_29_2 : (Cond.methodLink RX9 254 yX2_shows) ∈ lw_tbl := tb_3 _ (List.mem_of_getElem? (l := tables_1_3) (i := 136) rfl)
set_option maxRecDepth 20000 in
theorem mL_29_3 : (Cond.instanceMethod yX2_shows) ∈ wsL_law := inr_29 _ (List.mem_of_getElem? (l := wsL_law_r29) (i := 3) rfl)
set_option maxRecDepth 20000 in
theorem tL_29_3 : (Cond.instanceMethod yX2_shows) ∈ lw_tbl := tb_3 _ (List.mem_of_getElem? (l := tables_1_3) (i := 137) rfl)
set_option maxRecDepth 20000 in
theorem mL_29_4 : (Cond.selects RX2 yX2_shows yX2_shows) ∈ wsL_law := inr_29 _ (List.mem_of_getElem? (l := wsL_law_r29) (i := 4) rfl)
set_option maxRecDepth 20000 in
theorem tL_29_4 : (Cond.selects RX2 yX2_shows yX2_shows) ∈ lw_tbl := tb_3 _ (List.mem_of_getElem? (l := tables_1_3) (i := 138) rfl)
set_option maxRecDepth 20000 in
theorem mL_29_5 : (Cond.code yX2_shows cX2_shows 4 (some .boolean)) ∈ wsL_law := inr_29 _ (List.mem_of_getElem? (l := wsL_law_r29) (i := 5) rfl)
set_option maxRecDepth 20000 in
theorem tL_29_5 : (Cond.code yX2_shows cX2_shows 4 (some .boolean)) ∈ lw_tbl := tb_3 _ (List.mem_of_getElem? (l := tables_1_3) (i := 139) rfl)
set_option maxRecDepth 20000 in
theorem mL_29_6 : (Cond.methodLink RX9 257 yX3_seek) ∈ wsL_law := inr_29 _ (List.mem_of_getElem? (l := wsL_law_r29) (i := 6) rfl)
set_option maxRecDepth 20000 in
theorem tL_29_6 : (Cond.methodLink RX9 257 yX3_seek) ∈ lw_tbl := tb_3 _ (List.mem_of_getElem? (l := tables_1_3) (i := 140) rfl)
set_option maxRecDepth 20000 in
theorem mL_29_7 : (Cond.instanceMethod yX3_seek) ∈ wsL_law := inr_29 _ (List.mem_of_getElem? (l := wsL_law_r29) (i := 7) rfl)
set_option maxRecDepth 20000 in
theorem tL_29_7 : (Cond.instanceMethod yX3_seek) ∈ lw_tbl := tb_3 _ (List.mem_of_getElem? (l := tables_1_3) (i := 141) rfl)
set_option maxRecDepth 20000 in
theorem mL_29_8 : (Cond.selects RX3 yX3_seek yX3_seek) ∈ wsL_law := inr_29 _ (List.mem_of_getElem? (l := wsL_law_r29) (i := 8) rfl)
set_option maxRecDepth 20000 in
theorem tL_29_8 : (Cond.selects RX3 yX3_seek yX3_seek) ∈ lw_tbl := tb_3 _ (List.mem_of_getElem? (l := tables_1_3) (i := 142) rfl)
set_option maxRecDepth 20000 in
theorem mL_29_9 : (Cond.code yX3_seek cX3_seek 5 (some .boolean)) ∈ wsL_law := inr_29 _ (List.mem_of_getElem? (l := wsL_law_r29) (i := 9) rfl)
set_option maxRecDepth 20000 in
theorem tL_29_9 : (Cond.code yX3_seek cX3_seek 5 (some .boolean)) ∈ lw_tbl := tb_3 _ (List.mem_of_getElem? (l := tables_1_3) (i := 143) rfl)
set_option maxRecDepth 20000 in
theorem mL_29_10 : (Cond.fieldLink RX3 19 "GhostSigns$Pair" "fewest" "I") ∈ wsL_law := inr_29 _ (List.mem_of_getElem? (l := wsL_law_r29) (i := 10) rfl)
set_option maxRecDepth 20000 in
theorem tL_29_10 : (Cond.fieldLink RX3 19 "GhostSigns$Pair" "fewest" "I") ∈ lw_tbl := tb_2 _ (List.mem_of_getElem? (l := tables_1_2) (i := 7) rfl)
set_option maxRecDepth 20000 in
theorem mL_29_11 : (Cond.fieldLink RX3 24 "GhostSigns$Places" "bares" "[I") ∈ wsL_law := inr_29 _ (List.mem_of_getElem? (l := wsL_law_r29) (i := 11) rfl)
set_option maxRecDepth 20000 in
theorem tL_29_11 : (Cond.fieldLink RX3 24 "GhostSigns$Places" "bares" "[I") ∈ lw_tbl := tb_1 _ (List.mem_of_getElem? (l := tables_1_1) (i := 226) rfl)
set_option maxRecDepth 20000 in
theorem mL_29_12 : (Cond.fieldLink RX3 27 "GhostSigns$Places" "lacks" "[I") ∈ wsL_law := inr_29 _ (List.mem_of_getElem? (l := wsL_law_r29) (i := 12) rfl)
set_option maxRecDepth 20000 in
theorem tL_29_12 : (Cond.fieldLink RX3 27 "GhostSigns$Places" "lacks" "[I") ∈ lw_tbl := tb_1 _ (List.mem_of_getElem? (l := tables_1_1) (i := 223) rfl)
set_option maxRecDepth 20000 in
theorem mL_29_13 : (Cond.methodLink RX3 30 yX3_take) ∈ wsL_law := inr_29 _ (List.mem_of_getElem? (l := wsL_law_r29) (i := 13) rfl)
set_option maxRecDepth 20000 in
theorem tL_29_13 : (Cond.methodLink RX3 30 yX3_take) ∈ lw_tbl := tb_3 _ (List.mem_of_getElem? (l := tables_1_3) (i := 144) rfl)
set_option maxRecDepth 20000 in
theorem mL_29_14 : (Cond.instanceMethod yX3_take) ∈ wsL_law := inr_29 _ (List.mem_of_getElem? (l := wsL_law_r29) (i := 14) rfl)
set_option maxRecDepth 20000 in
theorem tL_29_14 : (Cond.instanceMethod yX3_take) ∈ lw_tbl := tb_3 _ (List.mem_of_getElem? (l := tables_1_3) (i := 146) rfl)
set_option maxRecDepth 20000 in
theorem mL_29_15 : (Cond.selects RX3 yX3_take yX3_take) ∈ wsL_law := inr_29 _ (List.mem_of_getElem? (l := wsL_law_r29) (i := 15) rfl)
set_option maxRecDepth 20000 in
theorem tL_29_15 : (Cond.selects RX3 yX3_take yX3_take) ∈ lw_tbl := List.mem_append_left _ (List.mem_of_getElem? (l := k2_sels lw_privs) (i := 10) rfl)
set_option maxRecDepth 20000 in
theorem mL_29_16 : (Cond.code yX3_take cX3_take 5 none) ∈ wsL_law := inr_29 _ (List.mem_of_getElem? (l := wsL_law_r29) (i := 16) rfl)
set_option maxRecDepth 20000 in
theorem tL_29_16 : (Cond.code yX3_take cX3_take 5 none) ∈ lw_tbl := tb_3 _ (List.mem_of_getElem? (l := tables_1_3) (i := 147) rfl)
set_option maxRecDepth 20000 in
theorem mL_29_17 : (Cond.fieldLink RX3 34 "GhostSigns$Pair" "ofA" "I") ∈ wsL_law := inr_29 _ (List.mem_of_getElem? (l := wsL_law_r29) (i := 17) rfl)
set_option maxRecDepth 20000 in
theorem tL_29_17 : (Cond.fieldLink RX3 34 "GhostSigns$Pair" "ofA" "I") ∈ lw_tbl := tb_2 _ (List.mem_of_getElem? (l := tables_1_2) (i := 9) rfl)
set_option maxRecDepth 20000 in
theorem mL_29_18 : (Cond.fieldLink RX3 37 "GhostSigns$Pair" "ofB" "I") ∈ wsL_law := inr_29 _ (List.mem_of_getElem? (l := wsL_law_r29) (i := 18) rfl)
set_option maxRecDepth 20000 in
theorem tL_29_18 : (Cond.fieldLink RX3 37 "GhostSigns$Pair" "ofB" "I") ∈ lw_tbl := tb_2 _ (List.mem_of_getElem? (l := tables_1_2) (i := 11) rfl)
set_option maxRecDepth 20000 in
theorem mL_29_19 : (Cond.fieldLink RX3 40 "GhostSigns$Pair" "aBeneath" "Z") ∈ wsL_law := inr_29 _ (List.mem_of_getElem? (l := wsL_law_r29) (i := 19) rfl)
set_option maxRecDepth 20000 in
theorem tL_29_19 : (Cond.fieldLink RX3 40 "GhostSigns$Pair" "aBeneath" "Z") ∈ lw_tbl := tb_2 _ (List.mem_of_getElem? (l := tables_1_2) (i := 13) rfl)
set_option maxRecDepth 20000 in
theorem mL_29_20 : (Cond.methodLink RX9 268 yX9_addPlace) ∈ wsL_law := inr_29 _ (List.mem_of_getElem? (l := wsL_law_r29) (i := 20) rfl)
set_option maxRecDepth 20000 in
theorem tL_29_20 : (Cond.methodLink RX9 268 yX9_addPlace) ∈ lw_tbl := tb_3 _ (List.mem_of_getElem? (l := tables_1_3) (i := 148) rfl)
set_option maxRecDepth 20000 in
theorem mL_29_21 : (Cond.static yX9_addPlace) ∈ wsL_law := inr_29 _ (List.mem_of_getElem? (l := wsL_law_r29) (i := 21) rfl)
set_option maxRecDepth 20000 in
theorem tL_29_21 : (Cond.static yX9_addPlace) ∈ lw_tbl := tb_3 _ (List.mem_of_getElem? (l := tables_1_3) (i := 149) rfl)
set_option maxRecDepth 20000 in
theorem mL_29_22 : (Cond.code yX9_addPlace cX9_addPlace 4 none) ∈ wsL_law := inr_29 _ (List.mem_of_getElem? (l := wsL_law_r29) (i := 22) rfl)
set_option maxRecDepth 20000 in
theorem tL_29_22 : (Cond.code yX9_addPlace cX9_addPlace 4 none) ∈ lw_tbl := tb_3 _ (List.mem_of_getElem? (l := tables_1_3) (i := 150) rfl)
set_option maxRecDepth 20000 in
theorem mL_29_23 : (Cond.methodLink RL 106 yX10_two) ∈ wsL_law := inr_29 _ (List.mem_of_getElem? (l := wsL_law_r29) (i := 23) rfl)
set_option maxRecDepth 20000 in
theorem tL_29_23 : (Cond.methodLink RL 106 yX10_two) ∈ lw_tbl := tb_5 _ (List.mem_of_getElem? (l := tables_1_5) (i := 166) rfl)
set_option maxRecDepth 20000 in
theorem tin_29 : ∀ w ∈ wsL_law_r29, w ∈ lw_tbl := List.forall_mem_cons.mpr ⟨tL_29_0, List.forall_mem_cons.mpr ⟨tL_29_1, List.forall_mem_cons.mpr ⟨tL_29_2, List.forall_mem_cons.mpr ⟨tL_29_3, List.forall_mem_cons.mpr ⟨tL_29_4, List.forall_mem_cons.mpr ⟨tL_29_5, List.forall_mem_cons.mpr ⟨tL_29_6, List.forall_mem_cons.mpr ⟨tL_29_7, List.forall_mem_cons.mpr ⟨tL_29_8, List.forall_mem_cons.mpr ⟨tL_29_9, List.forall_mem_cons.mpr ⟨tL_29_10, List.forall_mem_cons.mpr ⟨tL_29_11, List.forall_mem_cons.mpr ⟨tL_29_12, List.forall_mem_cons.mpr ⟨tL_29_13, List.forall_mem_cons.mpr ⟨tL_29_14, List.forall_mem_cons.mpr ⟨tL_29_15, List.forall_mem_cons.mpr ⟨tL_29_16, List.forall_mem_cons.mpr ⟨tL_29_17, List.forall_mem_cons.mpr ⟨tL_29_18, List.forall_mem_cons.mpr ⟨tL_29_19, List.forall_mem_cons.mpr ⟨tL_29_20, List.forall_mem_cons.mpr ⟨tL_29_21, List.forall_mem_cons.mpr ⟨tL_29_22, List.forall_mem_cons.mpr ⟨tL_29_23, List.forall_mem_nil _⟩⟩⟩⟩⟩⟩⟩⟩⟩⟩⟩⟩⟩⟩⟩⟩⟩⟩⟩⟩⟩⟩⟩⟩
set_option maxRecDepth 20000 in
theorem mL_30_0 : (Cond.instanceMethod yX10_two) ∈ wsL_law := inr_30 _ (List.mem_of_getElem? (l := wsL_law_r30) (i := 0) rfl)
set_option maxRecDepth 20000 in
theorem tL_30_0 : (Cond.instanceMethod yX10_two) ∈ lw_tbl := tb_5 _ (List.mem_of_getElem? (l := tables_1_5) (i := 167) rfl)
set_option maxRecDepth 20000 in
theorem mL_30_1 : (Cond.selects RX10 yX10_two yX10_two) ∈ wsL_law := inr_30 _ (List.mem_of_getElem? (l := wsL_law_r30) (i := 1) rfl)
set_option maxRecDepth 20000 in
theorem tL_30_1 : (Cond.selects RX10 yX10_two yX10_two) ∈ lw_tbl := tb_5 _ (List.mem_of_getElem? (l := tables_1_5) (i := 168) rfl)
set_option maxRecDepth 20000 in
theorem mL_30_2 : (Cond.code yX10_two cX10_two 9 (some .int)) ∈ wsL_law := inr_30 _ (List.mem_of_getElem? (l := wsL_law_r30) (i := 2) rfl)
set_option maxRecDepth 20000 in
theorem tL_30_2 : (Cond.code yX10_two cX10_two 9 (some .int)) ∈ lw_tbl := tb_5 _ (List.mem_of_getElem? (l := tables_1_5) (i := 169) rfl)
set_option maxRecDepth 20000 in
theorem mL_30_3 : (Cond.fieldLink RX10 210 "GhostSignsModel" "fewest" "I") ∈ wsL_law := inr_30 _ (List.mem_of_getElem? (l := wsL_law_r30) (i := 3) rfl)
set_option maxRecDepth 20000 in
theorem tL_30_3 : (Cond.fieldLink RX10 210 "GhostSignsModel" "fewest" "I") ∈ lw_tbl := tb_4 _ (List.mem_of_getElem? (l := tables_1_4) (i := 126) rfl)
set_option maxRecDepth 20000 in
theorem mL_30_4 : (Cond.methodLink RX10 213 yX10_keepLayers) ∈ wsL_law := inr_30 _ (List.mem_of_getElem? (l := wsL_law_r30) (i := 4) rfl)
set_option maxRecDepth 20000 in
theorem tL_30_4 : (Cond.methodLink RX10 213 yX10_keepLayers) ∈ lw_tbl := tb_5 _ (List.mem_of_getElem? (l := tables_1_5) (i := 170) rfl)
set_option maxRecDepth 20000 in
theorem mL_30_5 : (Cond.instanceMethod yX10_keepLayers) ∈ wsL_law := inr_30 _ (List.mem_of_getElem? (l := wsL_law_r30) (i := 5) rfl)
set_option maxRecDepth 20000 in
theorem tL_30_5 : (Cond.instanceMethod yX10_keepLayers) ∈ lw_tbl := tb_5 _ (List.mem_of_getElem? (l := tables_1_5) (i := 172) rfl)
set_option maxRecDepth 20000 in
theorem mL_30_6 : (Cond.selects RX10 yX10_keepLayers yX10_keepLayers) ∈ wsL_law := inr_30 _ (List.mem_of_getElem? (l := wsL_law_r30) (i := 6) rfl)
set_option maxRecDepth 20000 in
theorem tL_30_6 : (Cond.selects RX10 yX10_keepLayers yX10_keepLayers) ∈ lw_tbl := List.mem_append_left _ (List.mem_of_getElem? (l := k2_sels lw_privs) (i := 32) rfl)
set_option maxRecDepth 20000 in
theorem mL_30_7 : (Cond.code yX10_keepLayers cX10_keepLayers 5 none) ∈ wsL_law := inr_30 _ (List.mem_of_getElem? (l := wsL_law_r30) (i := 7) rfl)
set_option maxRecDepth 20000 in
theorem tL_30_7 : (Cond.code yX10_keepLayers cX10_keepLayers 5 none) ∈ lw_tbl := tb_5 _ (List.mem_of_getElem? (l := tables_1_5) (i := 173) rfl)
set_option maxRecDepth 20000 in
theorem mL_30_8 : (Cond.methodLink RX10 217 yX10_can) ∈ wsL_law := inr_30 _ (List.mem_of_getElem? (l := wsL_law_r30) (i := 8) rfl)
set_option maxRecDepth 20000 in
theorem tL_30_8 : (Cond.methodLink RX10 217 yX10_can) ∈ lw_tbl := tb_5 _ (List.mem_of_getElem? (l := tables_1_5) (i := 174) rfl)
set_option maxRecDepth 20000 in
theorem mL_30_9 : (Cond.instanceMethod yX10_can) ∈ wsL_law := inr_30 _ (List.mem_of_getElem? (l := wsL_law_r30) (i := 9) rfl)
set_option maxRecDepth 20000 in
theorem tL_30_9 : (Cond.instanceMethod yX10_can) ∈ lw_tbl := tb_5 _ (List.mem_of_getElem? (l := tables_1_5) (i := 176) rfl)
set_option maxRecDepth 20000 in
theorem mL_30_10 : (Cond.selects RX10 yX10_can yX10_can) ∈ wsL_law := inr_30 _ (List.mem_of_getElem? (l := wsL_law_r30) (i := 10) rfl)
set_option maxRecDepth 20000 in
theorem tL_30_10 : (Cond.selects RX10 yX10_can yX10_can) ∈ lw_tbl := List.mem_append_left _ (List.mem_of_getElem? (l := k2_sels lw_privs) (i := 33) rfl)
set_option maxRecDepth 20000 in
theorem mL_30_11 : (Cond.code yX10_can cX10_can 5 (some .boolean)) ∈ wsL_law := inr_30 _ (List.mem_of_getElem? (l := wsL_law_r30) (i := 11) rfl)
set_option maxRecDepth 20000 in
theorem tL_30_11 : (Cond.code yX10_can cX10_can 5 (some .boolean)) ∈ lw_tbl := tb_5 _ (List.mem_of_getElem? (l := tables_1_5) (i := 177) rfl)
set_option maxRecDepth 20000 in
theorem mL_30_12 : (Cond.methodLink RX10 220 yX10_tryTwo) ∈ wsL_law := inr_30 _ (List.mem_of_getElem? (l := wsL_law_r30) (i := 12) rfl)
set_option maxRecDepth 20000 in
theorem tL_30_12 : (Cond.methodLink RX10 220 yX10_tryTwo) ∈ lw_tbl := tb_5 _ (List.mem_of_getElem? (l := tables_1_5) (i := 178) rfl)
set_option maxRecDepth 20000 in
theorem mL_30_13 : (Cond.instanceMethod yX10_tryTwo) ∈ wsL_law := inr_30 _ (List.mem_of_getElem? (l := wsL_law_r30) (i := 13) rfl)
set_option maxRecDepth 20000 in
theorem tL_30_13 : (Cond.instanceMethod yX10_tryTwo) ∈ lw_tbl := tb_5 _ (List.mem_of_getElem? (l := tables_1_5) (i := 180) rfl)
set_option maxRecDepth 20000 in
theorem mL_30_14 : (Cond.selects RX10 yX10_tryTwo yX10_tryTwo) ∈ wsL_law := inr_30 _ (List.mem_of_getElem? (l := wsL_law_r30) (i := 14) rfl)
set_option maxRecDepth 20000 in
theorem tL_30_14 : (Cond.selects RX10 yX10_tryTwo yX10_tryTwo) ∈ lw_tbl := List.mem_append_left _ (List.mem_of_getElem? (l := k2_sels lw_privs) (i := 34) rfl)
set_option maxRecDepth 20000 in
theorem mL_30_15 : (Cond.code yX10_tryTwo cX10_tryTwo 9 none) ∈ wsL_law := inr_30 _ (List.mem_of_getElem? (l := wsL_law_r30) (i := 15) rfl)
set_option maxRecDepth 20000 in
theorem tL_30_15 : (Cond.code yX10_tryTwo cX10_tryTwo 9 none) ∈ lw_tbl := tb_5 _ (List.mem_of_getElem? (l := tables_1_5) (i := 181) rfl)
set_option maxRecDepth 20000 in
theorem mL_30_16 : (Cond.methodLink RL 107 yX9_renumber) ∈ wsL_law := inr_30 _ (List.mem_of_getElem? (l := wsL_law_r30) (i := 16) rfl)
set_option maxRecDepth 20000 in
theorem tL_30_16 : (Cond.methodLink RL 107 yX9_renumber) ∈ lw_tbl := tb_3 _ (List.mem_of_getElem? (l := tables_1_3) (i := 151) rfl)
set_option maxRecDepth 20000 in
theorem mL_30_17 : (Cond.instanceMethod yX9_renumber) ∈ wsL_law := inr_30 _ (List.mem_of_getElem? (l := wsL_law_r30) (i := 17) rfl)
set_option maxRecDepth 20000 in
theorem tL_30_17 : (Cond.instanceMethod yX9_renumber) ∈ lw_tbl := tb_3 _ (List.mem_of_getElem? (l := tables_1_3) (i := 152) rfl)
set_option maxRecDepth 20000 in
theorem mL_30_18 : (Cond.selects RX9 yX9_renumber yX9_renumber) ∈ wsL_law := inr_30 _ (List.mem_of_getElem? (l := wsL_law_r30) (i := 18) rfl)
set_option maxRecDepth 20000 in
theorem tL_30_18 : (Cond.selects RX9 yX9_renumber yX9_renumber) ∈ lw_tbl := tb_3 _ (List.mem_of_getElem? (l := tables_1_3) (i := 153) rfl)
set_option maxRecDepth 20000 in
theorem mL_30_19 : (Cond.code yX9_renumber cX9_renumber 4 (some .int)) ∈ wsL_law := inr_30 _ (List.mem_of_getElem? (l := wsL_law_r30) (i := 19) rfl)
set_option maxRecDepth 20000 in
theorem tL_30_19 : (Cond.code yX9_renumber cX9_renumber 4 (some .int)) ∈ lw_tbl := tb_3 _ (List.mem_of_getElem? (l := tables_1_3) (i := 154) rfl)
set_option maxRecDepth 20000 in
theorem mL_30_20 : (Cond.fieldLink RX9 284 "GhostSigns$Street" "times" "I") ∈ wsL_law := inr_30 _ (List.mem_of_getElem? (l := wsL_law_r30) (i := 20) rfl)
set_option maxRecDepth 20000 in
theorem tL_30_20 : (Cond.fieldLink RX9 284 "GhostSigns$Street" "times" "I") ∈ lw_tbl := tb_1 _ (List.mem_of_getElem? (l := tables_1_1) (i := 132) rfl)
set_option maxRecDepth 20000 in
theorem mL_30_21 : (Cond.methodLink RX9 278 yX6_latestYear) ∈ wsL_law := inr_30 _ (List.mem_of_getElem? (l := wsL_law_r30) (i := 21) rfl)
set_option maxRecDepth 20000 in
theorem tL_30_21 : (Cond.methodLink RX9 278 yX6_latestYear) ∈ lw_tbl := tb_3 _ (List.mem_of_getElem? (l := tables_1_3) (i := 155) rfl)
set_option maxRecDepth 20000 in
theorem mL_30_22 : (Cond.instanceMethod yX6_latestYear) ∈ wsL_law := inr_30 _ (List.mem_of_getElem? (l := wsL_law_r30) (i := 22) rfl)
set_option maxRecDepth 20000 in
theorem tL_30_22 : (Cond.instanceMethod yX6_latestYear) ∈ lw_tbl := tb_3 _ (List.mem_of_getElem? (l := tables_1_3) (i := 156) rfl)
set_option maxRecDepth 20000 in
theorem mL_30_23 : (Cond.selects RX6 yX6_latestYear yX6_latestYear) ∈ wsL_law := inr_30 _ (List.mem_of_getElem? (l := wsL_law_r30) (i := 23) rfl)
set_option maxRecDepth 20000 in
theorem tL_30_23 : (Cond.selects RX6 yX6_latestYear yX6_latestYear) ∈ lw_tbl := tb_3 _ (List.mem_of_getElem? (l := tables_1_3) (i := 157) rfl)
set_option maxRecDepth 20000 in
theorem tin_30 : ∀ w ∈ wsL_law_r30, w ∈ lw_tbl := List.forall_mem_cons.mpr ⟨tL_30_0, List.forall_mem_cons.mpr ⟨tL_30_1, List.forall_mem_cons.mpr ⟨tL_30_2, List.forall_mem_cons.mpr ⟨tL_30_3, List.forall_mem_cons.mpr ⟨tL_30_4, List.forall_mem_cons.mpr ⟨tL_30_5, List.forall_mem_cons.mpr ⟨tL_30_6, List.forall_mem_cons.mpr ⟨tL_30_7, List.forall_mem_cons.mpr ⟨tL_30_8, List.forall_mem_cons.mpr ⟨tL_30_9, List.forall_mem_cons.mpr ⟨tL_30_10, List.forall_mem_cons.mpr ⟨tL_30_11, List.forall_mem_cons.mpr ⟨tL_30_12, List.forall_mem_cons.mpr ⟨tL_30_13, List.forall_mem_cons.mpr ⟨tL_30_14, List.forall_mem_cons.mpr ⟨tL_30_15, List.forall_mem_cons.mpr ⟨tL_30_16, List.forall_mem_cons.mpr ⟨tL_30_17, List.forall_mem_cons.mpr ⟨tL_30_18, List.forall_mem_cons.mpr ⟨tL_30_19, List.forall_mem_cons.mpr ⟨tL_30_20, List.forall_mem_cons.mpr ⟨tL_30_21, List.forall_mem_cons.mpr ⟨tL_30_22, List.forall_mem_cons.mpr ⟨tL_30_23, List.forall_mem_nil _⟩⟩⟩⟩⟩⟩⟩⟩⟩⟩⟩⟩⟩⟩⟩⟩⟩⟩⟩⟩⟩⟩⟩⟩
set_option maxRecDepth 20000 in
theorem mL_31_0 : (Cond.code yX6_latestYear cX6_latestYear 1 (some .int)) ∈ wsL_law := inr_31 _ (List.mem_of_getElem? (l := wsL_law_r31) (i := 0) rfl)
set_option maxRecDepth 20000 in
theorem tL_31_0 : (Cond.code yX6_latestYear cX6_latestYear 1 (some .int)) ∈ lw_tbl := tb_3 _ (List.mem_of_getElem? (l := tables_1_3) (i := 158) rfl)
set_option maxRecDepth 20000 in
theorem mL_31_1 : (Cond.fieldLink RX6 28 "GhostSigns$Street" "times" "I") ∈ wsL_law := inr_31 _ (List.mem_of_getElem? (l := wsL_law_r31) (i := 1) rfl)
set_option maxRecDepth 20000 in
theorem tL_31_1 : (Cond.fieldLink RX6 28 "GhostSigns$Street" "times" "I") ∈ lw_tbl := tb_1 _ (List.mem_of_getElem? (l := tables_1_1) (i := 131) rfl)
set_option maxRecDepth 20000 in
theorem mL_31_2 : (Cond.methodLink RX9 281 yX6_isFull) ∈ wsL_law := inr_31 _ (List.mem_of_getElem? (l := wsL_law_r31) (i := 2) rfl)
set_option maxRecDepth 20000 in
theorem tL_31_2 : (Cond.methodLink RX9 281 yX6_isFull) ∈ lw_tbl := tb_3 _ (List.mem_of_getElem? (l := tables_1_3) (i := 159) rfl)
set_option maxRecDepth 20000 in
theorem mL_31_3 : (Cond.instanceMethod yX6_isFull) ∈ wsL_law := inr_31 _ (List.mem_of_getElem? (l := wsL_law_r31) (i := 3) rfl)
set_option maxRecDepth 20000 in
theorem tL_31_3 : (Cond.instanceMethod yX6_isFull) ∈ lw_tbl := tb_3 _ (List.mem_of_getElem? (l := tables_1_3) (i := 160) rfl)
set_option maxRecDepth 20000 in
theorem mL_31_4 : (Cond.selects RX6 yX6_isFull yX6_isFull) ∈ wsL_law := inr_31 _ (List.mem_of_getElem? (l := wsL_law_r31) (i := 4) rfl)
set_option maxRecDepth 20000 in
theorem tL_31_4 : (Cond.selects RX6 yX6_isFull yX6_isFull) ∈ lw_tbl := tb_3 _ (List.mem_of_getElem? (l := tables_1_3) (i := 161) rfl)
set_option maxRecDepth 20000 in
theorem mL_31_5 : (Cond.code yX6_isFull cX6_isFull 1 (some .boolean)) ∈ wsL_law := inr_31 _ (List.mem_of_getElem? (l := wsL_law_r31) (i := 5) rfl)
set_option maxRecDepth 20000 in
theorem tL_31_5 : (Cond.code yX6_isFull cX6_isFull 1 (some .boolean)) ∈ lw_tbl := tb_3 _ (List.mem_of_getElem? (l := tables_1_3) (i := 162) rfl)
set_option maxRecDepth 20000 in
theorem mL_31_6 : (Cond.methodLink RX9 282 yX6_add) ∈ wsL_law := inr_31 _ (List.mem_of_getElem? (l := wsL_law_r31) (i := 6) rfl)
set_option maxRecDepth 20000 in
theorem tL_31_6 : (Cond.methodLink RX9 282 yX6_add) ∈ lw_tbl := tb_3 _ (List.mem_of_getElem? (l := tables_1_3) (i := 163) rfl)
set_option maxRecDepth 20000 in
theorem mL_31_7 : (Cond.instanceMethod yX6_add) ∈ wsL_law := inr_31 _ (List.mem_of_getElem? (l := wsL_law_r31) (i := 7) rfl)
set_option maxRecDepth 20000 in
theorem tL_31_7 : (Cond.instanceMethod yX6_add) ∈ lw_tbl := tb_3 _ (List.mem_of_getElem? (l := tables_1_3) (i := 164) rfl)
set_option maxRecDepth 20000 in
theorem mL_31_8 : (Cond.selects RX6 yX6_add yX6_add) ∈ wsL_law := inr_31 _ (List.mem_of_getElem? (l := wsL_law_r31) (i := 8) rfl)
set_option maxRecDepth 20000 in
theorem tL_31_8 : (Cond.selects RX6 yX6_add yX6_add) ∈ lw_tbl := tb_3 _ (List.mem_of_getElem? (l := tables_1_3) (i := 165) rfl)
set_option maxRecDepth 20000 in
theorem mL_31_9 : (Cond.code yX6_add cX6_add 4 none) ∈ wsL_law := inr_31 _ (List.mem_of_getElem? (l := wsL_law_r31) (i := 9) rfl)
set_option maxRecDepth 20000 in
theorem tL_31_9 : (Cond.code yX6_add cX6_add 4 none) ∈ lw_tbl := tb_3 _ (List.mem_of_getElem? (l := tables_1_3) (i := 166) rfl)
set_option maxRecDepth 20000 in
theorem mL_31_10 : (Cond.methodLink RL 110 yX10_renumber) ∈ wsL_law := inr_31 _ (List.mem_of_getElem? (l := wsL_law_r31) (i := 10) rfl)
set_option maxRecDepth 20000 in
theorem tL_31_10 : (Cond.methodLink RL 110 yX10_renumber) ∈ lw_tbl := tb_5 _ (List.mem_of_getElem? (l := tables_1_5) (i := 182) rfl)
set_option maxRecDepth 20000 in
theorem mL_31_11 : (Cond.instanceMethod yX10_renumber) ∈ wsL_law := inr_31 _ (List.mem_of_getElem? (l := wsL_law_r31) (i := 11) rfl)
set_option maxRecDepth 20000 in
theorem tL_31_11 : (Cond.instanceMethod yX10_renumber) ∈ lw_tbl := tb_5 _ (List.mem_of_getElem? (l := tables_1_5) (i := 183) rfl)
set_option maxRecDepth 20000 in
theorem mL_31_12 : (Cond.selects RX10 yX10_renumber yX10_renumber) ∈ wsL_law := inr_31 _ (List.mem_of_getElem? (l := wsL_law_r31) (i := 12) rfl)
set_option maxRecDepth 20000 in
theorem tL_31_12 : (Cond.selects RX10 yX10_renumber yX10_renumber) ∈ lw_tbl := tb_5 _ (List.mem_of_getElem? (l := tables_1_5) (i := 184) rfl)
set_option maxRecDepth 20000 in
theorem mL_31_13 : (Cond.code yX10_renumber cX10_renumber 4 (some .int)) ∈ wsL_law := inr_31 _ (List.mem_of_getElem? (l := wsL_law_r31) (i := 13) rfl)
set_option maxRecDepth 20000 in
theorem tL_31_13 : (Cond.code yX10_renumber cX10_renumber 4 (some .int)) ∈ lw_tbl := tb_5 _ (List.mem_of_getElem? (l := tables_1_5) (i := 185) rfl)
set_option maxRecDepth 20000 in
theorem mL_31_14 : (Cond.fieldLink RX10 224 "GhostSignsModel" "renumbered" "I") ∈ wsL_law := inr_31 _ (List.mem_of_getElem? (l := wsL_law_r31) (i := 14) rfl)
set_option maxRecDepth 20000 in
theorem tL_31_14 : (Cond.fieldLink RX10 224 "GhostSignsModel" "renumbered" "I") ∈ lw_tbl := tb_4 _ (List.mem_of_getElem? (l := tables_1_4) (i := 128) rfl)
set_option maxRecDepth 20000 in
theorem mL_31_15 : (Cond.methodLink RL 111 yX9_number) ∈ wsL_law := inr_31 _ (List.mem_of_getElem? (l := wsL_law_r31) (i := 15) rfl)
set_option maxRecDepth 20000 in
theorem tL_31_15 : (Cond.methodLink RL 111 yX9_number) ∈ lw_tbl := tb_3 _ (List.mem_of_getElem? (l := tables_1_3) (i := 167) rfl)
set_option maxRecDepth 20000 in
theorem mL_31_16 : (Cond.instanceMethod yX9_number) ∈ wsL_law := inr_31 _ (List.mem_of_getElem? (l := wsL_law_r31) (i := 16) rfl)
set_option maxRecDepth 20000 in
theorem tL_31_16 : (Cond.instanceMethod yX9_number) ∈ lw_tbl := tb_3 _ (List.mem_of_getElem? (l := tables_1_3) (i := 168) rfl)
set_option maxRecDepth 20000 in
theorem mL_31_17 : (Cond.selects RX9 yX9_number yX9_number) ∈ wsL_law := inr_31 _ (List.mem_of_getElem? (l := wsL_law_r31) (i := 17) rfl)
set_option maxRecDepth 20000 in
theorem tL_31_17 : (Cond.selects RX9 yX9_number yX9_number) ∈ lw_tbl := tb_3 _ (List.mem_of_getElem? (l := tables_1_3) (i := 169) rfl)
set_option maxRecDepth 20000 in
theorem mL_31_18 : (Cond.code yX9_number cX9_number 4 (some .int)) ∈ wsL_law := inr_31 _ (List.mem_of_getElem? (l := wsL_law_r31) (i := 18) rfl)
set_option maxRecDepth 20000 in
theorem tL_31_18 : (Cond.code yX9_number cX9_number 4 (some .int)) ∈ lw_tbl := tb_3 _ (List.mem_of_getElem? (l := tables_1_3) (i := 170) rfl)
set_option maxRecDepth 20000 in
theorem mL_31_19 : (Cond.methodLink RX9 287 yX6_became) ∈ wsL_law := inr_31 _ (List.mem_of_getElem? (l := wsL_law_r31) (i := 19) rfl)
set_option maxRecDepth 20000 in
theorem tL_31_19 : (Cond.methodLink RX9 287 yX6_became) ∈ lw_tbl := tb_3 _ (List.mem_of_getElem? (l := tables_1_3) (i := 171) rfl)
set_option maxRecDepth 20000 in
theorem mL_31_20 : (Cond.instanceMethod yX6_became) ∈ wsL_law := inr_31 _ (List.mem_of_getElem? (l := wsL_law_r31) (i := 20) rfl)
set_option maxRecDepth 20000 in
theorem tL_31_20 : (Cond.instanceMethod yX6_became) ∈ lw_tbl := tb_3 _ (List.mem_of_getElem? (l := tables_1_3) (i := 172) rfl)
set_option maxRecDepth 20000 in
theorem mL_31_21 : (Cond.selects RX6 yX6_became yX6_became) ∈ wsL_law := inr_31 _ (List.mem_of_getElem? (l := wsL_law_r31) (i := 21) rfl)
set_option maxRecDepth 20000 in
theorem tL_31_21 : (Cond.selects RX6 yX6_became yX6_became) ∈ lw_tbl := tb_3 _ (List.mem_of_getElem? (l := tables_1_3) (i := 173) rfl)
set_option maxRecDepth 20000 in
theorem mL_31_22 : (Cond.code yX6_became cX6_became 6 (some .int)) ∈ wsL_law := inr_31 _ (List.mem_of_getElem? (l := wsL_law_r31) (i := 22) rfl)
set_option maxRecDepth 20000 in
theorem tL_31_22 : (Cond.code yX6_became cX6_became 6 (some .int)) ∈ lw_tbl := tb_3 _ (List.mem_of_getElem? (l := tables_1_3) (i := 174) rfl)
set_option maxRecDepth 20000 in
theorem mL_31_23 : (Cond.methodLink RX6 31 Lib.Math.max.name) ∈ wsL_law := inr_31 _ (List.mem_of_getElem? (l := wsL_law_r31) (i := 23) rfl)
set_option maxRecDepth 20000 in
theorem tL_31_23 : (Cond.methodLink RX6 31 Lib.Math.max.name) ∈ lw_tbl := tb_3 _ (List.mem_of_getElem? (l := tables_1_3) (i := 175) rfl)
set_option maxRecDepth 20000 in
theorem tin_31 : ∀ w ∈ wsL_law_r31, w ∈ lw_tbl := List.forall_mem_cons.mpr ⟨tL_31_0, List.forall_mem_cons.mpr ⟨tL_31_1, List.forall_mem_cons.mpr ⟨tL_31_2, List.forall_mem_cons.mpr ⟨tL_31_3, List.forall_mem_cons.mpr ⟨tL_31_4, List.forall_mem_cons.mpr ⟨tL_31_5, List.forall_mem_cons.mpr ⟨tL_31_6, List.forall_mem_cons.mpr ⟨tL_31_7, List.forall_mem_cons.mpr ⟨tL_31_8, List.forall_mem_cons.mpr ⟨tL_31_9, List.forall_mem_cons.mpr ⟨tL_31_10, List.forall_mem_cons.mpr ⟨tL_31_11, List.forall_mem_cons.mpr ⟨tL_31_12, List.forall_mem_cons.mpr ⟨tL_31_13, List.forall_mem_cons.mpr ⟨tL_31_14, List.forall_mem_cons.mpr ⟨tL_31_15, List.forall_mem_cons.mpr ⟨tL_31_16, List.forall_mem_cons.mpr ⟨tL_31_17, List.forall_mem_cons.mpr ⟨tL_31_18, List.forall_mem_cons.mpr ⟨tL_31_19, List.forall_mem_cons.mpr ⟨tL_31_20, List.forall_mem_cons.mpr ⟨tL_31_21, List.forall_mem_cons.mpr ⟨tL_31_22, List.forall_mem_cons.mpr ⟨tL_31_23, List.forall_mem_nil _⟩⟩⟩⟩⟩⟩⟩⟩⟩⟩⟩⟩⟩⟩⟩⟩⟩⟩⟩⟩⟩⟩⟩⟩
set_option maxRecDepth 20000 in
theorem mL_32_0 : (Cond.static Lib.Math.max.name) ∈ wsL_law := inr_32 _ (List.mem_of_getElem? (l := wsL_law_r32) (i := 0) rfl)
set_option maxRecDepth 20000 in
theorem tL_32_0 : (Cond.static Lib.Math.max.name) ∈ lw_tbl := tb_3 _ (List.mem_of_getElem? (l := tables_1_3) (i := 176) rfl)
set_option maxRecDepth 20000 in
theorem mL_32_1 : (Cond.code Lib.Math.max.name Lib.Math.max.code 2 (some .int)) ∈ wsL_law := inr_32 _ (List.mem_of_getElem? (l := wsL_law_r32) (i := 1) rfl)
set_option maxRecDepth 20000 in
theorem tL_32_1 : (Cond.code Lib.Math.max.name Lib.Math.max.code 2 (some .int)) ∈ lw_tbl := tb_3 _ (List.mem_of_getElem? (l := tables_1_3) (i := 177) rfl)
set_option maxRecDepth 20000 in
theorem mL_32_2 : (Cond.methodLink RX6 37 Lib.Math.min.name) ∈ wsL_law := inr_32 _ (List.mem_of_getElem? (l := wsL_law_r32) (i := 2) rfl)
set_option maxRecDepth 20000 in
theorem tL_32_2 : (Cond.methodLink RX6 37 Lib.Math.min.name) ∈ lw_tbl := tb_3 _ (List.mem_of_getElem? (l := tables_1_3) (i := 178) rfl)
set_option maxRecDepth 20000 in
theorem mL_32_3 : (Cond.methodLink RL 114 yX10_number) ∈ wsL_law := inr_32 _ (List.mem_of_getElem? (l := wsL_law_r32) (i := 3) rfl)
set_option maxRecDepth 20000 in
theorem tL_32_3 : (Cond.methodLink RL 114 yX10_number) ∈ lw_tbl := tb_5 _ (List.mem_of_getElem? (l := tables_1_5) (i := 186) rfl)
set_option maxRecDepth 20000 in
theorem mL_32_4 : (Cond.instanceMethod yX10_number) ∈ wsL_law := inr_32 _ (List.mem_of_getElem? (l := wsL_law_r32) (i := 4) rfl)
set_option maxRecDepth 20000 in
theorem tL_32_4 : (Cond.instanceMethod yX10_number) ∈ lw_tbl := tb_5 _ (List.mem_of_getElem? (l := tables_1_5) (i := 187) rfl)
set_option maxRecDepth 20000 in
theorem mL_32_5 : (Cond.selects RX10 yX10_number yX10_number) ∈ wsL_law := inr_32 _ (List.mem_of_getElem? (l := wsL_law_r32) (i := 5) rfl)
set_option maxRecDepth 20000 in
theorem tL_32_5 : (Cond.selects RX10 yX10_number yX10_number) ∈ lw_tbl := tb_5 _ (List.mem_of_getElem? (l := tables_1_5) (i := 188) rfl)
set_option maxRecDepth 20000 in
theorem mL_32_6 : (Cond.code yX10_number cX10_number 4 (some .int)) ∈ wsL_law := inr_32 _ (List.mem_of_getElem? (l := wsL_law_r32) (i := 6) rfl)
set_option maxRecDepth 20000 in
theorem tL_32_6 : (Cond.code yX10_number cX10_number 4 (some .int)) ∈ lw_tbl := tb_5 _ (List.mem_of_getElem? (l := tables_1_5) (i := 189) rfl)
set_option maxRecDepth 20000 in
theorem mL_32_7 : (Cond.methodLink RX10 227 yX10_numberIn) ∈ wsL_law := inr_32 _ (List.mem_of_getElem? (l := wsL_law_r32) (i := 7) rfl)
set_option maxRecDepth 20000 in
theorem tL_32_7 : (Cond.methodLink RX10 227 yX10_numberIn) ∈ lw_tbl := tb_5 _ (List.mem_of_getElem? (l := tables_1_5) (i := 190) rfl)
set_option maxRecDepth 20000 in
theorem mL_32_8 : (Cond.instanceMethod yX10_numberIn) ∈ wsL_law := inr_32 _ (List.mem_of_getElem? (l := wsL_law_r32) (i := 8) rfl)
set_option maxRecDepth 20000 in
theorem tL_32_8 : (Cond.instanceMethod yX10_numberIn) ∈ lw_tbl := tb_5 _ (List.mem_of_getElem? (l := tables_1_5) (i := 192) rfl)
set_option maxRecDepth 20000 in
theorem mL_32_9 : (Cond.selects RX10 yX10_numberIn yX10_numberIn) ∈ wsL_law := inr_32 _ (List.mem_of_getElem? (l := wsL_law_r32) (i := 9) rfl)
set_option maxRecDepth 20000 in
theorem tL_32_9 : (Cond.selects RX10 yX10_numberIn yX10_numberIn) ∈ lw_tbl := List.mem_append_left _ (List.mem_of_getElem? (l := k2_sels lw_privs) (i := 35) rfl)
set_option maxRecDepth 20000 in
theorem mL_32_10 : (Cond.code yX10_numberIn cX10_numberIn 6 (some .int)) ∈ wsL_law := inr_32 _ (List.mem_of_getElem? (l := wsL_law_r32) (i := 10) rfl)
set_option maxRecDepth 20000 in
theorem tL_32_10 : (Cond.code yX10_numberIn cX10_numberIn 6 (some .int)) ∈ lw_tbl := tb_5 _ (List.mem_of_getElem? (l := tables_1_5) (i := 193) rfl)
set_option maxRecDepth 20000 in
theorem mL_32_11 : (Cond.methodLink RL 115 yX9_address) ∈ wsL_law := inr_32 _ (List.mem_of_getElem? (l := wsL_law_r32) (i := 11) rfl)
set_option maxRecDepth 20000 in
theorem tL_32_11 : (Cond.methodLink RL 115 yX9_address) ∈ lw_tbl := tb_3 _ (List.mem_of_getElem? (l := tables_1_3) (i := 179) rfl)
set_option maxRecDepth 20000 in
theorem mL_32_12 : (Cond.instanceMethod yX9_address) ∈ wsL_law := inr_32 _ (List.mem_of_getElem? (l := wsL_law_r32) (i := 12) rfl)
set_option maxRecDepth 20000 in
theorem tL_32_12 : (Cond.instanceMethod yX9_address) ∈ lw_tbl := tb_3 _ (List.mem_of_getElem? (l := tables_1_3) (i := 180) rfl)
set_option maxRecDepth 20000 in
theorem mL_32_13 : (Cond.selects RX9 yX9_address yX9_address) ∈ wsL_law := inr_32 _ (List.mem_of_getElem? (l := wsL_law_r32) (i := 13) rfl)
set_option maxRecDepth 20000 in
theorem tL_32_13 : (Cond.selects RX9 yX9_address yX9_address) ∈ lw_tbl := tb_3 _ (List.mem_of_getElem? (l := tables_1_3) (i := 181) rfl)
set_option maxRecDepth 20000 in
theorem mL_32_14 : (Cond.code yX9_address cX9_address 3 (some .int)) ∈ wsL_law := inr_32 _ (List.mem_of_getElem? (l := wsL_law_r32) (i := 14) rfl)
set_option maxRecDepth 20000 in
theorem tL_32_14 : (Cond.code yX9_address cX9_address 3 (some .int)) ∈ lw_tbl := tb_3 _ (List.mem_of_getElem? (l := tables_1_3) (i := 182) rfl)
set_option maxRecDepth 20000 in
theorem mL_32_15 : (Cond.fieldLink RX9 290 "GhostSigns$Street" "wallNumber" "I") ∈ wsL_law := inr_32 _ (List.mem_of_getElem? (l := wsL_law_r32) (i := 15) rfl)
set_option maxRecDepth 20000 in
theorem tL_32_15 : (Cond.fieldLink RX9 290 "GhostSigns$Street" "wallNumber" "I") ∈ lw_tbl := tb_1 _ (List.mem_of_getElem? (l := tables_1_1) (i := 134) rfl)
set_option maxRecDepth 20000 in
theorem mL_32_16 : (Cond.fieldLink RX9 293 "GhostSigns$Street" "wallYear" "I") ∈ wsL_law := inr_32 _ (List.mem_of_getElem? (l := wsL_law_r32) (i := 16) rfl)
set_option maxRecDepth 20000 in
theorem tL_32_16 : (Cond.fieldLink RX9 293 "GhostSigns$Street" "wallYear" "I") ∈ lw_tbl := tb_1 _ (List.mem_of_getElem? (l := tables_1_1) (i := 136) rfl)
set_option maxRecDepth 20000 in
theorem mL_32_17 : (Cond.methodLink RL 118 yX10_address) ∈ wsL_law := inr_32 _ (List.mem_of_getElem? (l := wsL_law_r32) (i := 17) rfl)
set_option maxRecDepth 20000 in
theorem tL_32_17 : (Cond.methodLink RL 118 yX10_address) ∈ lw_tbl := tb_5 _ (List.mem_of_getElem? (l := tables_1_5) (i := 194) rfl)
set_option maxRecDepth 20000 in
theorem mL_32_18 : (Cond.instanceMethod yX10_address) ∈ wsL_law := inr_32 _ (List.mem_of_getElem? (l := wsL_law_r32) (i := 18) rfl)
set_option maxRecDepth 20000 in
theorem tL_32_18 : (Cond.instanceMethod yX10_address) ∈ lw_tbl := tb_5 _ (List.mem_of_getElem? (l := tables_1_5) (i := 195) rfl)
set_option maxRecDepth 20000 in
theorem mL_32_19 : (Cond.selects RX10 yX10_address yX10_address) ∈ wsL_law := inr_32 _ (List.mem_of_getElem? (l := wsL_law_r32) (i := 19) rfl)
set_option maxRecDepth 20000 in
theorem tL_32_19 : (Cond.selects RX10 yX10_address yX10_address) ∈ lw_tbl := tb_5 _ (List.mem_of_getElem? (l := tables_1_5) (i := 196) rfl)
set_option maxRecDepth 20000 in
theorem mL_32_20 : (Cond.code yX10_address cX10_address 3 (some .int)) ∈ wsL_law := inr_32 _ (List.mem_of_getElem? (l := wsL_law_r32) (i := 20) rfl)
set_option maxRecDepth 20000 in
theorem tL_32_20 : (Cond.code yX10_address cX10_address 3 (some .int)) ∈ lw_tbl := tb_5 _ (List.mem_of_getElem? (l := tables_1_5) (i := 197) rfl)
set_option maxRecDepth 20000 in
theorem mL_32_21 : (Cond.methodLink RL 119 yX9_span) ∈ wsL_law := inr_32 _ (List.mem_of_getElem? (l := wsL_law_r32) (i := 21) rfl)
set_option maxRecDepth 20000 in
theorem tL_32_21 : (Cond.methodLink RL 119 yX9_span) ∈ lw_tbl := tb_3 _ (List.mem_of_getElem? (l := tables_1_3) (i := 183) rfl)
set_option maxRecDepth 20000 in
theorem mL_32_22 : (Cond.instanceMethod yX9_span) ∈ wsL_law := inr_32 _ (List.mem_of_getElem? (l := wsL_law_r32) (i := 22) rfl)
set_option maxRecDepth 20000 in
theorem tL_32_22 : (Cond.instanceMethod yX9_span) ∈ lw_tbl := tb_3 _ (List.mem_of_getElem? (l := tables_1_3) (i := 184) rfl)
set_option maxRecDepth 20000 in
theorem mL_32_23 : (Cond.selects RX9 yX9_span yX9_span) ∈ wsL_law := inr_32 _ (List.mem_of_getElem? (l := wsL_law_r32) (i := 23) rfl)
set_option maxRecDepth 20000 in
theorem tL_32_23 : (Cond.selects RX9 yX9_span yX9_span) ∈ lw_tbl := tb_3 _ (List.mem_of_getElem? (l := tables_1_3) (i := 185) rfl)
set_option maxRecDepth 20000 in
theorem tin_32 : ∀ w ∈ wsL_law_r32, w ∈ lw_tbl := List.forall_mem_cons.mpr ⟨tL_32_0, List.forall_mem_cons.mpr ⟨tL_32_1, List.forall_mem_cons.mpr ⟨tL_32_2, List.forall_mem_cons.mpr ⟨tL_32_3, List.forall_mem_cons.mpr ⟨tL_32_4, List.forall_mem_cons.mpr ⟨tL_32_5, List.forall_mem_cons.mpr ⟨tL_32_6, List.forall_mem_cons.mpr ⟨tL_32_7, List.forall_mem_cons.mpr ⟨tL_32_8, List.forall_mem_cons.mpr ⟨tL_32_9, List.forall_mem_cons.mpr ⟨tL_32_10, List.forall_mem_cons.mpr ⟨tL_32_11, List.forall_mem_cons.mpr ⟨tL_32_12, List.forall_mem_cons.mpr ⟨tL_32_13, List.forall_mem_cons.mpr ⟨tL_32_14, List.forall_mem_cons.mpr ⟨tL_32_15, List.forall_mem_cons.mpr ⟨tL_32_16, List.forall_mem_cons.mpr ⟨tL_32_17, List.forall_mem_cons.mpr ⟨tL_32_18, List.forall_mem_cons.mpr ⟨tL_32_19, List.forall_mem_cons.mpr ⟨tL_32_20, List.forall_mem_cons.mpr ⟨tL_32_21, List.forall_mem_cons.mpr ⟨tL_32_22, List.forall_mem_cons.mpr ⟨tL_32_23, List.forall_mem_nil _⟩⟩⟩⟩⟩⟩⟩⟩⟩⟩⟩⟩⟩⟩⟩⟩⟩⟩⟩⟩⟩⟩⟩⟩
set_option maxRecDepth 20000 in
theorem mL_33_0 : (Cond.code yX9_span cX9_span 3 (some .int)) ∈ wsL_law := inr_33 _ (List.mem_of_getElem? (l := wsL_law_r33) (i := 0) rfl)
set_option maxRecDepth 20000 in
theorem tL_33_0 : (Cond.code yX9_span cX9_span 3 (some .int)) ∈ lw_tbl := tb_3 _ (List.mem_of_getElem? (l := tables_1_3) (i := 186) rfl)
set_option maxRecDepth 20000 in
theorem mL_33_1 : (Cond.methodLink RX9 296 yX9_hasSpan) ∈ wsL_law := inr_33 _ (List.mem_of_getElem? (l := wsL_law_r33) (i := 1) rfl)
set_option maxRecDepth 20000 in
theorem tL_33_1 : (Cond.methodLink RX9 296 yX9_hasSpan) ∈ lw_tbl := tb_3 _ (List.mem_of_getElem? (l := tables_1_3) (i := 187) rfl)
set_option maxRecDepth 20000 in
theorem mL_33_2 : (Cond.instanceMethod yX9_hasSpan) ∈ wsL_law := inr_33 _ (List.mem_of_getElem? (l := wsL_law_r33) (i := 2) rfl)
set_option maxRecDepth 20000 in
theorem tL_33_2 : (Cond.instanceMethod yX9_hasSpan) ∈ lw_tbl := tb_3 _ (List.mem_of_getElem? (l := tables_1_3) (i := 189) rfl)
set_option maxRecDepth 20000 in
theorem mL_33_3 : (Cond.selects RX9 yX9_hasSpan yX9_hasSpan) ∈ wsL_law := inr_33 _ (List.mem_of_getElem? (l := wsL_law_r33) (i := 3) rfl)
set_option maxRecDepth 20000 in
theorem tL_33_3 : (Cond.selects RX9 yX9_hasSpan yX9_hasSpan) ∈ lw_tbl := List.mem_append_left _ (List.mem_of_getElem? (l := k2_sels lw_privs) (i := 11) rfl)
set_option maxRecDepth 20000 in
theorem mL_33_4 : (Cond.code yX9_hasSpan cX9_hasSpan 4 (some .boolean)) ∈ wsL_law := inr_33 _ (List.mem_of_getElem? (l := wsL_law_r33) (i := 4) rfl)
set_option maxRecDepth 20000 in
theorem tL_33_4 : (Cond.code yX9_hasSpan cX9_hasSpan 4 (some .boolean)) ∈ lw_tbl := tb_3 _ (List.mem_of_getElem? (l := tables_1_3) (i := 190) rfl)
set_option maxRecDepth 20000 in
theorem mL_33_5 : (Cond.fieldLink RX9 421 "GhostSigns$Words" "kinds" "[I") ∈ wsL_law := inr_33 _ (List.mem_of_getElem? (l := wsL_law_r33) (i := 5) rfl)
set_option maxRecDepth 20000 in
theorem tL_33_5 : (Cond.fieldLink RX9 421 "GhostSigns$Words" "kinds" "[I") ∈ lw_tbl := tb_1 _ (List.mem_of_getElem? (l := tables_1_1) (i := 57) rfl)
set_option maxRecDepth 20000 in
theorem mL_33_6 : (Cond.methodLink RX9 299 yX9_lastYear) ∈ wsL_law := inr_33 _ (List.mem_of_getElem? (l := wsL_law_r33) (i := 6) rfl)
set_option maxRecDepth 20000 in
theorem tL_33_6 : (Cond.methodLink RX9 299 yX9_lastYear) ∈ lw_tbl := tb_3 _ (List.mem_of_getElem? (l := tables_1_3) (i := 191) rfl)
set_option maxRecDepth 20000 in
theorem mL_33_7 : (Cond.instanceMethod yX9_lastYear) ∈ wsL_law := inr_33 _ (List.mem_of_getElem? (l := wsL_law_r33) (i := 7) rfl)
set_option maxRecDepth 20000 in
theorem tL_33_7 : (Cond.instanceMethod yX9_lastYear) ∈ lw_tbl := tb_3 _ (List.mem_of_getElem? (l := tables_1_3) (i := 193) rfl)
set_option maxRecDepth 20000 in
theorem mL_33_8 : (Cond.selects RX9 yX9_lastYear yX9_lastYear) ∈ wsL_law := inr_33 _ (List.mem_of_getElem? (l := wsL_law_r33) (i := 8) rfl)
set_option maxRecDepth 20000 in
theorem tL_33_8 : (Cond.selects RX9 yX9_lastYear yX9_lastYear) ∈ lw_tbl := List.mem_append_left _ (List.mem_of_getElem? (l := k2_sels lw_privs) (i := 12) rfl)
set_option maxRecDepth 20000 in
theorem mL_33_9 : (Cond.code yX9_lastYear cX9_lastYear 2 (some .int)) ∈ wsL_law := inr_33 _ (List.mem_of_getElem? (l := wsL_law_r33) (i := 9) rfl)
set_option maxRecDepth 20000 in
theorem tL_33_9 : (Cond.code yX9_lastYear cX9_lastYear 2 (some .int)) ∈ lw_tbl := tb_3 _ (List.mem_of_getElem? (l := tables_1_3) (i := 194) rfl)
set_option maxRecDepth 20000 in
theorem mL_33_10 : (Cond.methodLink RX9 302 yX9_firstYear) ∈ wsL_law := inr_33 _ (List.mem_of_getElem? (l := wsL_law_r33) (i := 10) rfl)
set_option maxRecDepth 20000 in
theorem tL_33_10 : (Cond.methodLink RX9 302 yX9_firstYear) ∈ lw_tbl := tb_3 _ (List.mem_of_getElem? (l := tables_1_3) (i := 195) rfl)
set_option maxRecDepth 20000 in
theorem mL_33_11 : (Cond.instanceMethod yX9_firstYear) ∈ wsL_law := inr_33 _ (List.mem_of_getElem? (l := wsL_law_r33) (i := 11) rfl)
set_option maxRecDepth 20000 in
theorem tL_33_11 : (Cond.instanceMethod yX9_firstYear) ∈ lw_tbl := tb_3 _ (List.mem_of_getElem? (l := tables_1_3) (i := 197) rfl)
set_option maxRecDepth 20000 in
theorem mL_33_12 : (Cond.selects RX9 yX9_firstYear yX9_firstYear) ∈ wsL_law := inr_33 _ (List.mem_of_getElem? (l := wsL_law_r33) (i := 12) rfl)
set_option maxRecDepth 20000 in
theorem tL_33_12 : (Cond.selects RX9 yX9_firstYear yX9_firstYear) ∈ lw_tbl := List.mem_append_left _ (List.mem_of_getElem? (l := k2_sels lw_privs) (i := 13) rfl)
set_option maxRecDepth 20000 in
theorem mL_33_13 : (Cond.code yX9_firstYear cX9_firstYear 2 (some .int)) ∈ wsL_law := inr_33 _ (List.mem_of_getElem? (l := wsL_law_r33) (i := 13) rfl)
set_option maxRecDepth 20000 in
theorem tL_33_13 : (Cond.code yX9_firstYear cX9_firstYear 2 (some .int)) ∈ lw_tbl := tb_3 _ (List.mem_of_getElem? (l := tables_1_3) (i := 198) rfl)
set_option maxRecDepth 20000 in
theorem mL_33_14 : (Cond.methodLink RL 123 yX10_span) ∈ wsL_law := inr_33 _ (List.mem_of_getElem? (l := wsL_law_r33) (i := 14) rfl)
set_option maxRecDepth 20000 in
theorem tL_33_14 : (Cond.methodLink RL 123 yX10_span) ∈ lw_tbl := tb_5 _ (List.mem_of_getElem? (l := tables_1_5) (i := 198) rfl)
set_option maxRecDepth 20000 in
theorem mL_33_15 : (Cond.instanceMethod yX10_span) ∈ wsL_law := inr_33 _ (List.mem_of_getElem? (l := wsL_law_r33) (i := 15) rfl)
set_option maxRecDepth 20000 in
theorem tL_33_15 : (Cond.instanceMethod yX10_span) ∈ lw_tbl := tb_5 _ (List.mem_of_getElem? (l := tables_1_5) (i := 199) rfl)
set_option maxRecDepth 20000 in
theorem mL_33_16 : (Cond.selects RX10 yX10_span yX10_span) ∈ wsL_law := inr_33 _ (List.mem_of_getElem? (l := wsL_law_r33) (i := 16) rfl)
set_option maxRecDepth 20000 in
theorem tL_33_16 : (Cond.selects RX10 yX10_span yX10_span) ∈ lw_tbl := tb_5 _ (List.mem_of_getElem? (l := tables_1_5) (i := 200) rfl)
set_option maxRecDepth 20000 in
theorem mL_33_17 : (Cond.code yX10_span cX10_span 4 (some .int)) ∈ wsL_law := inr_33 _ (List.mem_of_getElem? (l := wsL_law_r33) (i := 17) rfl)
set_option maxRecDepth 20000 in
theorem tL_33_17 : (Cond.code yX10_span cX10_span 4 (some .int)) ∈ lw_tbl := tb_5 _ (List.mem_of_getElem? (l := tables_1_5) (i := 201) rfl)
set_option maxRecDepth 20000 in
theorem mL_33_18 : (Cond.methodLink RX10 231 yX10_hasSpan) ∈ wsL_law := inr_33 _ (List.mem_of_getElem? (l := wsL_law_r33) (i := 18) rfl)
set_option maxRecDepth 20000 in
theorem tL_33_18 : (Cond.methodLink RX10 231 yX10_hasSpan) ∈ lw_tbl := tb_5 _ (List.mem_of_getElem? (l := tables_1_5) (i := 202) rfl)
set_option maxRecDepth 20000 in
theorem mL_33_19 : (Cond.instanceMethod yX10_hasSpan) ∈ wsL_law := inr_33 _ (List.mem_of_getElem? (l := wsL_law_r33) (i := 19) rfl)
set_option maxRecDepth 20000 in
theorem tL_33_19 : (Cond.instanceMethod yX10_hasSpan) ∈ lw_tbl := tb_5 _ (List.mem_of_getElem? (l := tables_1_5) (i := 204) rfl)
set_option maxRecDepth 20000 in
theorem mL_33_20 : (Cond.selects RX10 yX10_hasSpan yX10_hasSpan) ∈ wsL_law := inr_33 _ (List.mem_of_getElem? (l := wsL_law_r33) (i := 20) rfl)
set_option maxRecDepth 20000 in
theorem tL_33_20 : (Cond.selects RX10 yX10_hasSpan yX10_hasSpan) ∈ lw_tbl := List.mem_append_left _ (List.mem_of_getElem? (l := k2_sels lw_privs) (i := 36) rfl)
set_option maxRecDepth 20000 in
theorem mL_33_21 : (Cond.code yX10_hasSpan cX10_hasSpan 2 (some .boolean)) ∈ wsL_law := inr_33 _ (List.mem_of_getElem? (l := wsL_law_r33) (i := 21) rfl)
set_option maxRecDepth 20000 in
theorem tL_33_21 : (Cond.code yX10_hasSpan cX10_hasSpan 2 (some .boolean)) ∈ lw_tbl := tb_5 _ (List.mem_of_getElem? (l := tables_1_5) (i := 205) rfl)
set_option maxRecDepth 20000 in
theorem mL_33_22 : (Cond.methodLink RX10 234 yX10_yearOf) ∈ wsL_law := inr_33 _ (List.mem_of_getElem? (l := wsL_law_r33) (i := 22) rfl)
set_option maxRecDepth 20000 in
theorem tL_33_22 : (Cond.methodLink RX10 234 yX10_yearOf) ∈ lw_tbl := tb_5 _ (List.mem_of_getElem? (l := tables_1_5) (i := 206) rfl)
set_option maxRecDepth 20000 in
theorem mL_33_23 : (Cond.instanceMethod yX10_yearOf) ∈ wsL_law := inr_33 _ (List.mem_of_getElem? (l := wsL_law_r33) (i := 23) rfl)
set_option maxRecDepth 20000 in
theorem tL_33_23 : (Cond.instanceMethod yX10_yearOf) ∈ lw_tbl := tb_5 _ (List.mem_of_getElem? (l := tables_1_5) (i := 208) rfl)
set_option maxRecDepth 20000 in
theorem tin_33 : ∀ w ∈ wsL_law_r33, w ∈ lw_tbl := List.forall_mem_cons.mpr ⟨tL_33_0, List.forall_mem_cons.mpr ⟨tL_33_1, List.forall_mem_cons.mpr ⟨tL_33_2, List.forall_mem_cons.mpr ⟨tL_33_3, List.forall_mem_cons.mpr ⟨tL_33_4, List.forall_mem_cons.mpr ⟨tL_33_5, List.forall_mem_cons.mpr ⟨tL_33_6, List.forall_mem_cons.mpr ⟨tL_33_7, List.forall_mem_cons.mpr ⟨tL_33_8, List.forall_mem_cons.mpr ⟨tL_33_9, List.forall_mem_cons.mpr ⟨tL_33_10, List.forall_mem_cons.mpr ⟨tL_33_11, List.forall_mem_cons.mpr ⟨tL_33_12, List.forall_mem_cons.mpr ⟨tL_33_13, List.forall_mem_cons.mpr ⟨tL_33_14, List.forall_mem_cons.mpr ⟨tL_33_15, List.forall_mem_cons.mpr ⟨tL_33_16, List.forall_mem_cons.mpr ⟨tL_33_17, List.forall_mem_cons.mpr ⟨tL_33_18, List.forall_mem_cons.mpr ⟨tL_33_19, List.forall_mem_cons.mpr ⟨tL_33_20, List.forall_mem_cons.mpr ⟨tL_33_21, List.forall_mem_cons.mpr ⟨tL_33_22, List.forall_mem_cons.mpr ⟨tL_33_23, List.forall_mem_nil _⟩⟩⟩⟩⟩⟩⟩⟩⟩⟩⟩⟩⟩⟩⟩⟩⟩⟩⟩⟩⟩⟩⟩⟩
set_option maxRecDepth 20000 in
theorem mL_34_0 : (Cond.selects RX10 yX10_yearOf yX10_yearOf) ∈ wsL_law := inr_34 _ (List.mem_of_getElem? (l := wsL_law_r34) (i := 0) rfl)
set_option maxRecDepth 20000 in
theorem tL_34_0 : (Cond.selects RX10 yX10_yearOf yX10_yearOf) ∈ lw_tbl := List.mem_append_left _ (List.mem_of_getElem? (l := k2_sels lw_privs) (i := 37) rfl)
set_option maxRecDepth 20000 in
theorem mL_34_1 : (Cond.code yX10_yearOf cX10_yearOf 3 (some .int)) ∈ wsL_law := inr_34 _ (List.mem_of_getElem? (l := wsL_law_r34) (i := 1) rfl)
set_option maxRecDepth 20000 in
theorem tL_34_1 : (Cond.code yX10_yearOf cX10_yearOf 3 (some .int)) ∈ lw_tbl := tb_5 _ (List.mem_of_getElem? (l := tables_1_5) (i := 209) rfl)
set_option maxRecDepth 20000 in
theorem mL_34_2 : (Cond.methodLink RL 124 yX9_agrees) ∈ wsL_law := inr_34 _ (List.mem_of_getElem? (l := wsL_law_r34) (i := 2) rfl)
set_option maxRecDepth 20000 in
theorem tL_34_2 : (Cond.methodLink RL 124 yX9_agrees) ∈ lw_tbl := tb_3 _ (List.mem_of_getElem? (l := tables_1_3) (i := 199) rfl)
set_option maxRecDepth 20000 in
theorem mL_34_3 : (Cond.instanceMethod yX9_agrees) ∈ wsL_law := inr_34 _ (List.mem_of_getElem? (l := wsL_law_r34) (i := 3) rfl)
set_option maxRecDepth 20000 in
theorem tL_34_3 : (Cond.instanceMethod yX9_agrees) ∈ lw_tbl := tb_3 _ (List.mem_of_getElem? (l := tables_1_3) (i := 200) rfl)
set_option maxRecDepth 20000 in
theorem mL_34_4 : (Cond.selects RX9 yX9_agrees yX9_agrees) ∈ wsL_law := inr_34 _ (List.mem_of_getElem? (l := wsL_law_r34) (i := 4) rfl)
set_option maxRecDepth 20000 in
theorem tL_34_4 : (Cond.selects RX9 yX9_agrees yX9_agrees) ∈ lw_tbl := tb_3 _ (List.mem_of_getElem? (l := tables_1_3) (i := 201) rfl)
set_option maxRecDepth 20000 in
theorem mL_34_5 : (Cond.code yX9_agrees cX9_agrees 6 (some .int)) ∈ wsL_law := inr_34 _ (List.mem_of_getElem? (l := wsL_law_r34) (i := 5) rfl)
set_option maxRecDepth 20000 in
theorem tL_34_5 : (Cond.code yX9_agrees cX9_agrees 6 (some .int)) ∈ lw_tbl := tb_3 _ (List.mem_of_getElem? (l := tables_1_3) (i := 202) rfl)
set_option maxRecDepth 20000 in
theorem mL_34_6 : (Cond.methodLink RX9 308 Lib.Math.max.name) ∈ wsL_law := inr_34 _ (List.mem_of_getElem? (l := wsL_law_r34) (i := 6) rfl)
set_option maxRecDepth 20000 in
theorem tL_34_6 : (Cond.methodLink RX9 308 Lib.Math.max.name) ∈ lw_tbl := tb_3 _ (List.mem_of_getElem? (l := tables_1_3) (i := 203) rfl)
set_option maxRecDepth 20000 in
theorem mL_34_7 : (Cond.methodLink RL 127 yX10_agrees) ∈ wsL_law := inr_34 _ (List.mem_of_getElem? (l := wsL_law_r34) (i := 7) rfl)
set_option maxRecDepth 20000 in
theorem tL_34_7 : (Cond.methodLink RL 127 yX10_agrees) ∈ lw_tbl := tb_5 _ (List.mem_of_getElem? (l := tables_1_5) (i := 210) rfl)
set_option maxRecDepth 20000 in
theorem mL_34_8 : (Cond.instanceMethod yX10_agrees) ∈ wsL_law := inr_34 _ (List.mem_of_getElem? (l := wsL_law_r34) (i := 8) rfl)
set_option maxRecDepth 20000 in
theorem tL_34_8 : (Cond.instanceMethod yX10_agrees) ∈ lw_tbl := tb_5 _ (List.mem_of_getElem? (l := tables_1_5) (i := 211) rfl)
set_option maxRecDepth 20000 in
theorem mL_34_9 : (Cond.selects RX10 yX10_agrees yX10_agrees) ∈ wsL_law := inr_34 _ (List.mem_of_getElem? (l := wsL_law_r34) (i := 9) rfl)
set_option maxRecDepth 20000 in
theorem tL_34_9 : (Cond.selects RX10 yX10_agrees yX10_agrees) ∈ lw_tbl := tb_5 _ (List.mem_of_getElem? (l := tables_1_5) (i := 212) rfl)
set_option maxRecDepth 20000 in
theorem mL_34_10 : (Cond.code yX10_agrees cX10_agrees 5 (some .int)) ∈ wsL_law := inr_34 _ (List.mem_of_getElem? (l := wsL_law_r34) (i := 10) rfl)
set_option maxRecDepth 20000 in
theorem tL_34_10 : (Cond.code yX10_agrees cX10_agrees 5 (some .int)) ∈ lw_tbl := tb_5 _ (List.mem_of_getElem? (l := tables_1_5) (i := 213) rfl)
set_option maxRecDepth 20000 in
theorem mL_34_11 : (Cond.methodLink RL 128 yX9_light) ∈ wsL_law := inr_34 _ (List.mem_of_getElem? (l := wsL_law_r34) (i := 11) rfl)
set_option maxRecDepth 20000 in
theorem tL_34_11 : (Cond.methodLink RL 128 yX9_light) ∈ lw_tbl := tb_3 _ (List.mem_of_getElem? (l := tables_1_3) (i := 204) rfl)
set_option maxRecDepth 20000 in
theorem mL_34_12 : (Cond.instanceMethod yX9_light) ∈ wsL_law := inr_34 _ (List.mem_of_getElem? (l := wsL_law_r34) (i := 12) rfl)
set_option maxRecDepth 20000 in
theorem tL_34_12 : (Cond.instanceMethod yX9_light) ∈ lw_tbl := tb_3 _ (List.mem_of_getElem? (l := tables_1_3) (i := 205) rfl)
set_option maxRecDepth 20000 in
theorem mL_34_13 : (Cond.selects RX9 yX9_light yX9_light) ∈ wsL_law := inr_34 _ (List.mem_of_getElem? (l := wsL_law_r34) (i := 13) rfl)
set_option maxRecDepth 20000 in
theorem tL_34_13 : (Cond.selects RX9 yX9_light yX9_light) ∈ lw_tbl := tb_3 _ (List.mem_of_getElem? (l := tables_1_3) (i := 206) rfl)
set_option maxRecDepth 20000 in
theorem mL_34_14 : (Cond.code yX9_light cX9_light 5 (some .int)) ∈ wsL_law := inr_34 _ (List.mem_of_getElem? (l := wsL_law_r34) (i := 14) rfl)
set_option maxRecDepth 20000 in
theorem tL_34_14 : (Cond.code yX9_light cX9_light 5 (some .int)) ∈ lw_tbl := tb_3 _ (List.mem_of_getElem? (l := tables_1_3) (i := 207) rfl)
set_option maxRecDepth 20000 in
theorem mL_34_15 : (Cond.fieldLink RX9 317 "GhostSigns$Lights" "entries" "I") ∈ wsL_law := inr_34 _ (List.mem_of_getElem? (l := wsL_law_r34) (i := 15) rfl)
set_option maxRecDepth 20000 in
theorem tL_34_15 : (Cond.fieldLink RX9 317 "GhostSigns$Lights" "entries" "I") ∈ lw_tbl := tb_1 _ (List.mem_of_getElem? (l := tables_1_1) (i := 161) rfl)
set_option maxRecDepth 20000 in
theorem mL_34_16 : (Cond.methodLink RX9 313 yX1_isNumber) ∈ wsL_law := inr_34 _ (List.mem_of_getElem? (l := wsL_law_r34) (i := 16) rfl)
set_option maxRecDepth 20000 in
theorem tL_34_16 : (Cond.methodLink RX9 313 yX1_isNumber) ∈ lw_tbl := tb_3 _ (List.mem_of_getElem? (l := tables_1_3) (i := 208) rfl)
set_option maxRecDepth 20000 in
theorem mL_34_17 : (Cond.static yX1_isNumber) ∈ wsL_law := inr_34 _ (List.mem_of_getElem? (l := wsL_law_r34) (i := 17) rfl)
set_option maxRecDepth 20000 in
theorem tL_34_17 : (Cond.static yX1_isNumber) ∈ lw_tbl := tb_3 _ (List.mem_of_getElem? (l := tables_1_3) (i := 209) rfl)
set_option maxRecDepth 20000 in
theorem mL_34_18 : (Cond.code yX1_isNumber cX1_isNumber 1 (some .boolean)) ∈ wsL_law := inr_34 _ (List.mem_of_getElem? (l := wsL_law_r34) (i := 18) rfl)
set_option maxRecDepth 20000 in
theorem tL_34_18 : (Cond.code yX1_isNumber cX1_isNumber 1 (some .boolean)) ∈ lw_tbl := tb_3 _ (List.mem_of_getElem? (l := tables_1_3) (i := 210) rfl)
set_option maxRecDepth 20000 in
theorem mL_34_19 : (Cond.methodLink RX9 314 yX1_isFull) ∈ wsL_law := inr_34 _ (List.mem_of_getElem? (l := wsL_law_r34) (i := 19) rfl)
set_option maxRecDepth 20000 in
theorem tL_34_19 : (Cond.methodLink RX9 314 yX1_isFull) ∈ lw_tbl := tb_3 _ (List.mem_of_getElem? (l := tables_1_3) (i := 211) rfl)
set_option maxRecDepth 20000 in
theorem mL_34_20 : (Cond.instanceMethod yX1_isFull) ∈ wsL_law := inr_34 _ (List.mem_of_getElem? (l := wsL_law_r34) (i := 20) rfl)
set_option maxRecDepth 20000 in
theorem tL_34_20 : (Cond.instanceMethod yX1_isFull) ∈ lw_tbl := tb_3 _ (List.mem_of_getElem? (l := tables_1_3) (i := 212) rfl)
set_option maxRecDepth 20000 in
theorem mL_34_21 : (Cond.selects RX1 yX1_isFull yX1_isFull) ∈ wsL_law := inr_34 _ (List.mem_of_getElem? (l := wsL_law_r34) (i := 21) rfl)
set_option maxRecDepth 20000 in
theorem tL_34_21 : (Cond.selects RX1 yX1_isFull yX1_isFull) ∈ lw_tbl := tb_3 _ (List.mem_of_getElem? (l := tables_1_3) (i := 213) rfl)
set_option maxRecDepth 20000 in
theorem mL_34_22 : (Cond.code yX1_isFull cX1_isFull 1 (some .boolean)) ∈ wsL_law := inr_34 _ (List.mem_of_getElem? (l := wsL_law_r34) (i := 22) rfl)
set_option maxRecDepth 20000 in
theorem tL_34_22 : (Cond.code yX1_isFull cX1_isFull 1 (some .boolean)) ∈ lw_tbl := tb_3 _ (List.mem_of_getElem? (l := tables_1_3) (i := 214) rfl)
set_option maxRecDepth 20000 in
theorem mL_34_23 : (Cond.fieldLink RX1 22 "GhostSigns$Lights" "entries" "I") ∈ wsL_law := inr_34 _ (List.mem_of_getElem? (l := wsL_law_r34) (i := 23) rfl)
set_option maxRecDepth 20000 in
theorem tL_34_23 : (Cond.fieldLink RX1 22 "GhostSigns$Lights" "entries" "I") ∈ lw_tbl := tb_1 _ (List.mem_of_getElem? (l := tables_1_1) (i := 160) rfl)
set_option maxRecDepth 20000 in
theorem tin_34 : ∀ w ∈ wsL_law_r34, w ∈ lw_tbl := List.forall_mem_cons.mpr ⟨tL_34_0, List.forall_mem_cons.mpr ⟨tL_34_1, List.forall_mem_cons.mpr ⟨tL_34_2, List.forall_mem_cons.mpr ⟨tL_34_3, List.forall_mem_cons.mpr ⟨tL_34_4, List.forall_mem_cons.mpr ⟨tL_34_5, List.forall_mem_cons.mpr ⟨tL_34_6, List.forall_mem_cons.mpr ⟨tL_34_7, List.forall_mem_cons.mpr ⟨tL_34_8, List.forall_mem_cons.mpr ⟨tL_34_9, List.forall_mem_cons.mpr ⟨tL_34_10, List.forall_mem_cons.mpr ⟨tL_34_11, List.forall_mem_cons.mpr ⟨tL_34_12, List.forall_mem_cons.mpr ⟨tL_34_13, List.forall_mem_cons.mpr ⟨tL_34_14, List.forall_mem_cons.mpr ⟨tL_34_15, List.forall_mem_cons.mpr ⟨tL_34_16, List.forall_mem_cons.mpr ⟨tL_34_17, List.forall_mem_cons.mpr ⟨tL_34_18, List.forall_mem_cons.mpr ⟨tL_34_19, List.forall_mem_cons.mpr ⟨tL_34_20, List.forall_mem_cons.mpr ⟨tL_34_21, List.forall_mem_cons.mpr ⟨tL_34_22, List.forall_mem_cons.mpr ⟨tL_34_23, List.forall_mem_nil _⟩⟩⟩⟩⟩⟩⟩⟩⟩⟩⟩⟩⟩⟩⟩⟩⟩⟩⟩⟩⟩⟩⟩⟩
set_option maxRecDepth 20000 in
theorem mL_35_0 : (Cond.methodLink RX9 315 yX1_add) ∈ wsL_law := inr_35 _ (List.mem_of_getElem? (l := wsL_law_r35) (i := 0) rfl)
set_option maxRecDepth 20000 in
theorem tL_35_0 : (Cond.methodLink RX9 315 yX1_add) ∈ lw_tbl := tb_3 _ (List.mem_of_getElem? (l := tables_1_3) (i := 215) rfl)
set_option maxRecDepth 20000 in
theorem mL_35_1 : (Cond.instanceMethod yX1_add) ∈ wsL_law := inr_35 _ (List.mem_of_getElem? (l := wsL_law_r35) (i := 1) rfl)
set_option maxRecDepth 20000 in
theorem tL_35_1 : (Cond.instanceMethod yX1_add) ∈ lw_tbl := tb_3 _ (List.mem_of_getElem? (l := tables_1_3) (i := 216) rfl)
set_option maxRecDepth 20000 in
theorem mL_35_2 : (Cond.selects RX1 yX1_add yX1_add) ∈ wsL_law := inr_35 _ (List.mem_of_getElem? (l := wsL_law_r35) (i := 2) rfl)
set_option maxRecDepth 20000 in
theorem tL_35_2 : (Cond.selects RX1 yX1_add yX1_add) ∈ lw_tbl := tb_3 _ (List.mem_of_getElem? (l := tables_1_3) (i := 217) rfl)
set_option maxRecDepth 20000 in
theorem mL_35_3 : (Cond.code yX1_add cX1_add 5 none) ∈ wsL_law := inr_35 _ (List.mem_of_getElem? (l := wsL_law_r35) (i := 3) rfl)
set_option maxRecDepth 20000 in
theorem tL_35_3 : (Cond.code yX1_add cX1_add 5 none) ∈ lw_tbl := tb_3 _ (List.mem_of_getElem? (l := tables_1_3) (i := 218) rfl)
set_option maxRecDepth 20000 in
theorem mL_35_4 : (Cond.methodLink RL 131 yX10_light) ∈ wsL_law := inr_35 _ (List.mem_of_getElem? (l := wsL_law_r35) (i := 4) rfl)
set_option maxRecDepth 20000 in
theorem tL_35_4 : (Cond.methodLink RL 131 yX10_light) ∈ lw_tbl := tb_5 _ (List.mem_of_getElem? (l := tables_1_5) (i := 214) rfl)
set_option maxRecDepth 20000 in
theorem mL_35_5 : (Cond.instanceMethod yX10_light) ∈ wsL_law := inr_35 _ (List.mem_of_getElem? (l := wsL_law_r35) (i := 5) rfl)
set_option maxRecDepth 20000 in
theorem tL_35_5 : (Cond.instanceMethod yX10_light) ∈ lw_tbl := tb_5 _ (List.mem_of_getElem? (l := tables_1_5) (i := 215) rfl)
set_option maxRecDepth 20000 in
theorem mL_35_6 : (Cond.selects RX10 yX10_light yX10_light) ∈ wsL_law := inr_35 _ (List.mem_of_getElem? (l := wsL_law_r35) (i := 6) rfl)
set_option maxRecDepth 20000 in
theorem tL_35_6 : (Cond.selects RX10 yX10_light yX10_light) ∈ lw_tbl := tb_5 _ (List.mem_of_getElem? (l := tables_1_5) (i := 216) rfl)
set_option maxRecDepth 20000 in
theorem mL_35_7 : (Cond.code yX10_light cX10_light 5 (some .int)) ∈ wsL_law := inr_35 _ (List.mem_of_getElem? (l := wsL_law_r35) (i := 7) rfl)
set_option maxRecDepth 20000 in
theorem tL_35_7 : (Cond.code yX10_light cX10_light 5 (some .int)) ∈ lw_tbl := tb_5 _ (List.mem_of_getElem? (l := tables_1_5) (i := 217) rfl)
set_option maxRecDepth 20000 in
theorem mL_35_8 : (Cond.fieldLink RX10 238 "GhostSignsModel" "lights" "I") ∈ wsL_law := inr_35 _ (List.mem_of_getElem? (l := wsL_law_r35) (i := 8) rfl)
set_option maxRecDepth 20000 in
theorem tL_35_8 : (Cond.fieldLink RX10 238 "GhostSignsModel" "lights" "I") ∈ lw_tbl := tb_4 _ (List.mem_of_getElem? (l := tables_1_4) (i := 134) rfl)
set_option maxRecDepth 20000 in
theorem mL_35_9 : (Cond.methodLink RL 132 yX9_gain) ∈ wsL_law := inr_35 _ (List.mem_of_getElem? (l := wsL_law_r35) (i := 9) rfl)
set_option maxRecDepth 20000 in
theorem tL_35_9 : (Cond.methodLink RL 132 yX9_gain) ∈ lw_tbl := tb_3 _ (List.mem_of_getElem? (l := tables_1_3) (i := 219) rfl)
set_option maxRecDepth 20000 in
theorem mL_35_10 : (Cond.instanceMethod yX9_gain) ∈ wsL_law := inr_35 _ (List.mem_of_getElem? (l := wsL_law_r35) (i := 10) rfl)
set_option maxRecDepth 20000 in
theorem tL_35_10 : (Cond.instanceMethod yX9_gain) ∈ lw_tbl := tb_3 _ (List.mem_of_getElem? (l := tables_1_3) (i := 220) rfl)
set_option maxRecDepth 20000 in
theorem mL_35_11 : (Cond.selects RX9 yX9_gain yX9_gain) ∈ wsL_law := inr_35 _ (List.mem_of_getElem? (l := wsL_law_r35) (i := 11) rfl)
set_option maxRecDepth 20000 in
theorem tL_35_11 : (Cond.selects RX9 yX9_gain yX9_gain) ∈ lw_tbl := tb_3 _ (List.mem_of_getElem? (l := tables_1_3) (i := 221) rfl)
set_option maxRecDepth 20000 in
theorem mL_35_12 : (Cond.code yX9_gain cX9_gain 4 (some .int)) ∈ wsL_law := inr_35 _ (List.mem_of_getElem? (l := wsL_law_r35) (i := 12) rfl)
set_option maxRecDepth 20000 in
theorem tL_35_12 : (Cond.code yX9_gain cX9_gain 4 (some .int)) ∈ lw_tbl := tb_3 _ (List.mem_of_getElem? (l := tables_1_3) (i := 222) rfl)
set_option maxRecDepth 20000 in
theorem mL_35_13 : (Cond.methodLink RX9 320 yX9_splitRivals) ∈ wsL_law := inr_35 _ (List.mem_of_getElem? (l := wsL_law_r35) (i := 13) rfl)
set_option maxRecDepth 20000 in
theorem tL_35_13 : (Cond.methodLink RX9 320 yX9_splitRivals) ∈ lw_tbl := tb_3 _ (List.mem_of_getElem? (l := tables_1_3) (i := 223) rfl)
set_option maxRecDepth 20000 in
theorem mL_35_14 : (Cond.instanceMethod yX9_splitRivals) ∈ wsL_law := inr_35 _ (List.mem_of_getElem? (l := wsL_law_r35) (i := 14) rfl)
set_option maxRecDepth 20000 in
theorem tL_35_14 : (Cond.instanceMethod yX9_splitRivals) ∈ lw_tbl := tb_3 _ (List.mem_of_getElem? (l := tables_1_3) (i := 225) rfl)
set_option maxRecDepth 20000 in
theorem mL_35_15 : (Cond.selects RX9 yX9_splitRivals yX9_splitRivals) ∈ wsL_law := inr_35 _ (List.mem_of_getElem? (l := wsL_law_r35) (i := 15) rfl)
set_option maxRecDepth 20000 in
theorem tL_35_15 : (Cond.selects RX9 yX9_splitRivals yX9_splitRivals) ∈ lw_tbl := List.mem_append_left _ (List.mem_of_getElem? (l := k2_sels lw_privs) (i := 14) rfl)
set_option maxRecDepth 20000 in
theorem mL_35_16 : (Cond.code yX9_splitRivals cX9_splitRivals 9 none) ∈ wsL_law := inr_35 _ (List.mem_of_getElem? (l := wsL_law_r35) (i := 16) rfl)
set_option maxRecDepth 20000 in
theorem tL_35_16 : (Cond.code yX9_splitRivals cX9_splitRivals 9 none) ∈ lw_tbl := tb_3 _ (List.mem_of_getElem? (l := tables_1_3) (i := 226) rfl)
set_option maxRecDepth 20000 in
theorem mL_35_17 : (Cond.fieldLink RX9 408 "GhostSigns$Places" "lacks" "[I") ∈ wsL_law := inr_35 _ (List.mem_of_getElem? (l := wsL_law_r35) (i := 17) rfl)
set_option maxRecDepth 20000 in
theorem tL_35_17 : (Cond.fieldLink RX9 408 "GhostSigns$Places" "lacks" "[I") ∈ lw_tbl := tb_1 _ (List.mem_of_getElem? (l := tables_1_1) (i := 224) rfl)
set_option maxRecDepth 20000 in
theorem mL_35_18 : (Cond.methodLink RX9 405 yX4_leastLack) ∈ wsL_law := inr_35 _ (List.mem_of_getElem? (l := wsL_law_r35) (i := 18) rfl)
set_option maxRecDepth 20000 in
theorem tL_35_18 : (Cond.methodLink RX9 405 yX4_leastLack) ∈ lw_tbl := tb_3 _ (List.mem_of_getElem? (l := tables_1_3) (i := 227) rfl)
set_option maxRecDepth 20000 in
theorem mL_35_19 : (Cond.methodLink RX9 324 yX9_gainOf) ∈ wsL_law := inr_35 _ (List.mem_of_getElem? (l := wsL_law_r35) (i := 19) rfl)
set_option maxRecDepth 20000 in
theorem tL_35_19 : (Cond.methodLink RX9 324 yX9_gainOf) ∈ lw_tbl := tb_3 _ (List.mem_of_getElem? (l := tables_1_3) (i := 228) rfl)
set_option maxRecDepth 20000 in
theorem mL_35_20 : (Cond.instanceMethod yX9_gainOf) ∈ wsL_law := inr_35 _ (List.mem_of_getElem? (l := wsL_law_r35) (i := 20) rfl)
set_option maxRecDepth 20000 in
theorem tL_35_20 : (Cond.instanceMethod yX9_gainOf) ∈ lw_tbl := tb_3 _ (List.mem_of_getElem? (l := tables_1_3) (i := 230) rfl)
set_option maxRecDepth 20000 in
theorem mL_35_21 : (Cond.selects RX9 yX9_gainOf yX9_gainOf) ∈ wsL_law := inr_35 _ (List.mem_of_getElem? (l := wsL_law_r35) (i := 21) rfl)
set_option maxRecDepth 20000 in
theorem tL_35_21 : (Cond.selects RX9 yX9_gainOf yX9_gainOf) ∈ lw_tbl := List.mem_append_left _ (List.mem_of_getElem? (l := k2_sels lw_privs) (i := 15) rfl)
set_option maxRecDepth 20000 in
theorem mL_35_22 : (Cond.code yX9_gainOf cX9_gainOf 6 (some .int)) ∈ wsL_law := inr_35 _ (List.mem_of_getElem? (l := wsL_law_r35) (i := 22) rfl)
set_option maxRecDepth 20000 in
theorem tL_35_22 : (Cond.code yX9_gainOf cX9_gainOf 6 (some .int)) ∈ lw_tbl := tb_3 _ (List.mem_of_getElem? (l := tables_1_3) (i := 231) rfl)
set_option maxRecDepth 20000 in
theorem mL_35_23 : (Cond.methodLink RX9 411 yX1_cellsIn) ∈ wsL_law := inr_35 _ (List.mem_of_getElem? (l := wsL_law_r35) (i := 23) rfl)
set_option maxRecDepth 20000 in
theorem tL_35_23 : (Cond.methodLink RX9 411 yX1_cellsIn) ∈ lw_tbl := tb_3 _ (List.mem_of_getElem? (l := tables_1_3) (i := 232) rfl)
set_option maxRecDepth 20000 in
theorem tin_35 : ∀ w ∈ wsL_law_r35, w ∈ lw_tbl := List.forall_mem_cons.mpr ⟨tL_35_0, List.forall_mem_cons.mpr ⟨tL_35_1, List.forall_mem_cons.mpr ⟨tL_35_2, List.forall_mem_cons.mpr ⟨tL_35_3, List.forall_mem_cons.mpr ⟨tL_35_4, List.forall_mem_cons.mpr ⟨tL_35_5, List.forall_mem_cons.mpr ⟨tL_35_6, List.forall_mem_cons.mpr ⟨tL_35_7, List.forall_mem_cons.mpr ⟨tL_35_8, List.forall_mem_cons.mpr ⟨tL_35_9, List.forall_mem_cons.mpr ⟨tL_35_10, List.forall_mem_cons.mpr ⟨tL_35_11, List.forall_mem_cons.mpr ⟨tL_35_12, List.forall_mem_cons.mpr ⟨tL_35_13, List.forall_mem_cons.mpr ⟨tL_35_14, List.forall_mem_cons.mpr ⟨tL_35_15, List.forall_mem_cons.mpr ⟨tL_35_16, List.forall_mem_cons.mpr ⟨tL_35_17, List.forall_mem_cons.mpr ⟨tL_35_18, List.forall_mem_cons.mpr ⟨tL_35_19, List.forall_mem_cons.mpr ⟨tL_35_20, List.forall_mem_cons.mpr ⟨tL_35_21, List.forall_mem_cons.mpr ⟨tL_35_22, List.forall_mem_cons.mpr ⟨tL_35_23, List.forall_mem_nil _⟩⟩⟩⟩⟩⟩⟩⟩⟩⟩⟩⟩⟩⟩⟩⟩⟩⟩⟩⟩⟩⟩⟩⟩
set_option maxRecDepth 20000 in
theorem mL_36_0 : (Cond.instanceMethod yX1_cellsIn) ∈ wsL_law := inr_36 _ (List.mem_of_getElem? (l := wsL_law_r36) (i := 0) rfl)
set_option maxRecDepth 20000 in
theorem tL_36_0 : (Cond.instanceMethod yX1_cellsIn) ∈ lw_tbl := tb_3 _ (List.mem_of_getElem? (l := tables_1_3) (i := 233) rfl)
set_option maxRecDepth 20000 in
theorem mL_36_1 : (Cond.selects RX1 yX1_cellsIn yX1_cellsIn) ∈ wsL_law := inr_36 _ (List.mem_of_getElem? (l := wsL_law_r36) (i := 1) rfl)
set_option maxRecDepth 20000 in
theorem tL_36_1 : (Cond.selects RX1 yX1_cellsIn yX1_cellsIn) ∈ lw_tbl := tb_3 _ (List.mem_of_getElem? (l := tables_1_3) (i := 234) rfl)
set_option maxRecDepth 20000 in
theorem mL_36_2 : (Cond.code yX1_cellsIn cX1_cellsIn 6 (some .int)) ∈ wsL_law := inr_36 _ (List.mem_of_getElem? (l := wsL_law_r36) (i := 2) rfl)
set_option maxRecDepth 20000 in
theorem tL_36_2 : (Cond.code yX1_cellsIn cX1_cellsIn 6 (some .int)) ∈ lw_tbl := tb_3 _ (List.mem_of_getElem? (l := tables_1_3) (i := 235) rfl)
set_option maxRecDepth 20000 in
theorem mL_36_3 : (Cond.methodLink RL 135 yX10_gain) ∈ wsL_law := inr_36 _ (List.mem_of_getElem? (l := wsL_law_r36) (i := 3) rfl)
set_option maxRecDepth 20000 in
theorem tL_36_3 : (Cond.methodLink RL 135 yX10_gain) ∈ lw_tbl := tb_5 _ (List.mem_of_getElem? (l := tables_1_5) (i := 218) rfl)
set_option maxRecDepth 20000 in
theorem mL_36_4 : (Cond.instanceMethod yX10_gain) ∈ wsL_law := inr_36 _ (List.mem_of_getElem? (l := wsL_law_r36) (i := 4) rfl)
set_option maxRecDepth 20000 in
theorem tL_36_4 : (Cond.instanceMethod yX10_gain) ∈ lw_tbl := tb_5 _ (List.mem_of_getElem? (l := tables_1_5) (i := 219) rfl)
set_option maxRecDepth 20000 in
theorem mL_36_5 : (Cond.selects RX10 yX10_gain yX10_gain) ∈ wsL_law := inr_36 _ (List.mem_of_getElem? (l := wsL_law_r36) (i := 5) rfl)
set_option maxRecDepth 20000 in
theorem tL_36_5 : (Cond.selects RX10 yX10_gain yX10_gain) ∈ lw_tbl := tb_5 _ (List.mem_of_getElem? (l := tables_1_5) (i := 220) rfl)
set_option maxRecDepth 20000 in
theorem mL_36_6 : (Cond.code yX10_gain cX10_gain 4 (some .int)) ∈ wsL_law := inr_36 _ (List.mem_of_getElem? (l := wsL_law_r36) (i := 6) rfl)
set_option maxRecDepth 20000 in
theorem tL_36_6 : (Cond.code yX10_gain cX10_gain 4 (some .int)) ∈ lw_tbl := tb_5 _ (List.mem_of_getElem? (l := tables_1_5) (i := 221) rfl)
set_option maxRecDepth 20000 in
theorem mL_36_7 : (Cond.methodLink RX10 241 yX10_gainOf) ∈ wsL_law := inr_36 _ (List.mem_of_getElem? (l := wsL_law_r36) (i := 7) rfl)
set_option maxRecDepth 20000 in
theorem tL_36_7 : (Cond.methodLink RX10 241 yX10_gainOf) ∈ lw_tbl := tb_5 _ (List.mem_of_getElem? (l := tables_1_5) (i := 222) rfl)
set_option maxRecDepth 20000 in
theorem mL_36_8 : (Cond.instanceMethod yX10_gainOf) ∈ wsL_law := inr_36 _ (List.mem_of_getElem? (l := wsL_law_r36) (i := 8) rfl)
set_option maxRecDepth 20000 in
theorem tL_36_8 : (Cond.instanceMethod yX10_gainOf) ∈ lw_tbl := tb_5 _ (List.mem_of_getElem? (l := tables_1_5) (i := 224) rfl)
set_option maxRecDepth 20000 in
theorem mL_36_9 : (Cond.selects RX10 yX10_gainOf yX10_gainOf) ∈ wsL_law := inr_36 _ (List.mem_of_getElem? (l := wsL_law_r36) (i := 9) rfl)
set_option maxRecDepth 20000 in
theorem tL_36_9 : (Cond.selects RX10 yX10_gainOf yX10_gainOf) ∈ lw_tbl := List.mem_append_left _ (List.mem_of_getElem? (l := k2_sels lw_privs) (i := 38) rfl)
set_option maxRecDepth 20000 in
theorem mL_36_10 : (Cond.code yX10_gainOf cX10_gainOf 8 (some .int)) ∈ wsL_law := inr_36 _ (List.mem_of_getElem? (l := wsL_law_r36) (i := 10) rfl)
set_option maxRecDepth 20000 in
theorem tL_36_10 : (Cond.code yX10_gainOf cX10_gainOf 8 (some .int)) ∈ lw_tbl := tb_5 _ (List.mem_of_getElem? (l := tables_1_5) (i := 225) rfl)
set_option maxRecDepth 20000 in
theorem mL_36_11 : (Cond.methodLink RL 136 yX9_next) ∈ wsL_law := inr_36 _ (List.mem_of_getElem? (l := wsL_law_r36) (i := 11) rfl)
set_option maxRecDepth 20000 in
theorem tL_36_11 : (Cond.methodLink RL 136 yX9_next) ∈ lw_tbl := tb_3 _ (List.mem_of_getElem? (l := tables_1_3) (i := 236) rfl)
set_option maxRecDepth 20000 in
theorem mL_36_12 : (Cond.instanceMethod yX9_next) ∈ wsL_law := inr_36 _ (List.mem_of_getElem? (l := wsL_law_r36) (i := 12) rfl)
set_option maxRecDepth 20000 in
theorem tL_36_12 : (Cond.instanceMethod yX9_next) ∈ lw_tbl := tb_3 _ (List.mem_of_getElem? (l := tables_1_3) (i := 237) rfl)
set_option maxRecDepth 20000 in
theorem mL_36_13 : (Cond.selects RX9 yX9_next yX9_next) ∈ wsL_law := inr_36 _ (List.mem_of_getElem? (l := wsL_law_r36) (i := 13) rfl)
set_option maxRecDepth 20000 in
theorem tL_36_13 : (Cond.selects RX9 yX9_next yX9_next) ∈ lw_tbl := tb_3 _ (List.mem_of_getElem? (l := tables_1_3) (i := 238) rfl)
set_option maxRecDepth 20000 in
theorem mL_36_14 : (Cond.code yX9_next cX9_next 7 (some .int)) ∈ wsL_law := inr_36 _ (List.mem_of_getElem? (l := wsL_law_r36) (i := 14) rfl)
set_option maxRecDepth 20000 in
theorem tL_36_14 : (Cond.code yX9_next cX9_next 7 (some .int)) ∈ lw_tbl := tb_3 _ (List.mem_of_getElem? (l := tables_1_3) (i := 239) rfl)
set_option maxRecDepth 20000 in
theorem mL_36_15 : (Cond.methodLink RL 139 yX10_next) ∈ wsL_law := inr_36 _ (List.mem_of_getElem? (l := wsL_law_r36) (i := 15) rfl)
set_option maxRecDepth 20000 in
theorem tL_36_15 : (Cond.methodLink RL 139 yX10_next) ∈ lw_tbl := tb_5 _ (List.mem_of_getElem? (l := tables_1_5) (i := 226) rfl)
set_option maxRecDepth 20000 in
theorem mL_36_16 : (Cond.instanceMethod yX10_next) ∈ wsL_law := inr_36 _ (List.mem_of_getElem? (l := wsL_law_r36) (i := 16) rfl)
set_option maxRecDepth 20000 in
theorem tL_36_16 : (Cond.instanceMethod yX10_next) ∈ lw_tbl := tb_5 _ (List.mem_of_getElem? (l := tables_1_5) (i := 227) rfl)
set_option maxRecDepth 20000 in
theorem mL_36_17 : (Cond.selects RX10 yX10_next yX10_next) ∈ wsL_law := inr_36 _ (List.mem_of_getElem? (l := wsL_law_r36) (i := 17) rfl)
set_option maxRecDepth 20000 in
theorem tL_36_17 : (Cond.selects RX10 yX10_next yX10_next) ∈ lw_tbl := tb_5 _ (List.mem_of_getElem? (l := tables_1_5) (i := 228) rfl)
set_option maxRecDepth 20000 in
theorem mL_36_18 : (Cond.code yX10_next cX10_next 7 (some .int)) ∈ wsL_law := inr_36 _ (List.mem_of_getElem? (l := wsL_law_r36) (i := 18) rfl)
set_option maxRecDepth 20000 in
theorem tL_36_18 : (Cond.code yX10_next cX10_next 7 (some .int)) ∈ lw_tbl := tb_5 _ (List.mem_of_getElem? (l := tables_1_5) (i := 229) rfl)
set_option maxRecDepth 20000 in
theorem mL_36_19 : (Cond.methodLink RL 140 yX9_read) ∈ wsL_law := inr_36 _ (List.mem_of_getElem? (l := wsL_law_r36) (i := 19) rfl)
set_option maxRecDepth 20000 in
theorem tL_36_19 : (Cond.methodLink RL 140 yX9_read) ∈ lw_tbl := tb_4 _ (List.mem_of_getElem? (l := tables_1_4) (i := 0) rfl)
set_option maxRecDepth 20000 in
theorem mL_36_20 : (Cond.instanceMethod yX9_read) ∈ wsL_law := inr_36 _ (List.mem_of_getElem? (l := wsL_law_r36) (i := 20) rfl)
set_option maxRecDepth 20000 in
theorem tL_36_20 : (Cond.instanceMethod yX9_read) ∈ lw_tbl := tb_4 _ (List.mem_of_getElem? (l := tables_1_4) (i := 1) rfl)
set_option maxRecDepth 20000 in
theorem mL_36_21 : (Cond.selects RX9 yX9_read yX9_read) ∈ wsL_law := inr_36 _ (List.mem_of_getElem? (l := wsL_law_r36) (i := 21) rfl)
set_option maxRecDepth 20000 in
theorem tL_36_21 : (Cond.selects RX9 yX9_read yX9_read) ∈ lw_tbl := tb_4 _ (List.mem_of_getElem? (l := tables_1_4) (i := 2) rfl)
set_option maxRecDepth 20000 in
theorem mL_36_22 : (Cond.code yX9_read cX9_read 3 (some .int)) ∈ wsL_law := inr_36 _ (List.mem_of_getElem? (l := wsL_law_r36) (i := 22) rfl)
set_option maxRecDepth 20000 in
theorem tL_36_22 : (Cond.code yX9_read cX9_read 3 (some .int)) ∈ lw_tbl := tb_4 _ (List.mem_of_getElem? (l := tables_1_4) (i := 3) rfl)
set_option maxRecDepth 20000 in
theorem mL_36_23 : (Cond.fieldLink RX9 330 "GhostSigns$Hands" "entries" "I") ∈ wsL_law := inr_36 _ (List.mem_of_getElem? (l := wsL_law_r36) (i := 23) rfl)
set_option maxRecDepth 20000 in
theorem tL_36_23 : (Cond.fieldLink RX9 330 "GhostSigns$Hands" "entries" "I") ∈ lw_tbl := tb_1 _ (List.mem_of_getElem? (l := tables_1_1) (i := 182) rfl)
set_option maxRecDepth 20000 in
theorem tin_36 : ∀ w ∈ wsL_law_r36, w ∈ lw_tbl := List.forall_mem_cons.mpr ⟨tL_36_0, List.forall_mem_cons.mpr ⟨tL_36_1, List.forall_mem_cons.mpr ⟨tL_36_2, List.forall_mem_cons.mpr ⟨tL_36_3, List.forall_mem_cons.mpr ⟨tL_36_4, List.forall_mem_cons.mpr ⟨tL_36_5, List.forall_mem_cons.mpr ⟨tL_36_6, List.forall_mem_cons.mpr ⟨tL_36_7, List.forall_mem_cons.mpr ⟨tL_36_8, List.forall_mem_cons.mpr ⟨tL_36_9, List.forall_mem_cons.mpr ⟨tL_36_10, List.forall_mem_cons.mpr ⟨tL_36_11, List.forall_mem_cons.mpr ⟨tL_36_12, List.forall_mem_cons.mpr ⟨tL_36_13, List.forall_mem_cons.mpr ⟨tL_36_14, List.forall_mem_cons.mpr ⟨tL_36_15, List.forall_mem_cons.mpr ⟨tL_36_16, List.forall_mem_cons.mpr ⟨tL_36_17, List.forall_mem_cons.mpr ⟨tL_36_18, List.forall_mem_cons.mpr ⟨tL_36_19, List.forall_mem_cons.mpr ⟨tL_36_20, List.forall_mem_cons.mpr ⟨tL_36_21, List.forall_mem_cons.mpr ⟨tL_36_22, List.forall_mem_cons.mpr ⟨tL_36_23, List.forall_mem_nil _⟩⟩⟩⟩⟩⟩⟩⟩⟩⟩⟩⟩⟩⟩⟩⟩⟩⟩⟩⟩⟩⟩⟩⟩
set_option maxRecDepth 20000 in
theorem mL_37_0 : (Cond.methodLink RX9 327 yX0_isFull) ∈ wsL_law := inr_37 _ (List.mem_of_getElem? (l := wsL_law_r37) (i := 0) rfl)
set_option maxRecDepth 20000 in
theorem tL_37_0 : (Cond.methodLink RX9 327 yX0_isFull) ∈ lw_tbl := tb_4 _ (List.mem_of_getElem? (l := tables_1_4) (i := 4) rfl)
set_option maxRecDepth 20000 in
theorem mL_37_1 : (Cond.instanceMethod yX0_isFull) ∈ wsL_law := inr_37 _ (List.mem_of_getElem? (l := wsL_law_r37) (i := 1) rfl)
set_option maxRecDepth 20000 in
theorem tL_37_1 : (Cond.instanceMethod yX0_isFull) ∈ lw_tbl := tb_4 _ (List.mem_of_getElem? (l := tables_1_4) (i := 5) rfl)
set_option maxRecDepth 20000 in
theorem mL_37_2 : (Cond.selects RX0 yX0_isFull yX0_isFull) ∈ wsL_law := inr_37 _ (List.mem_of_getElem? (l := wsL_law_r37) (i := 2) rfl)
set_option maxRecDepth 20000 in
theorem tL_37_2 : (Cond.selects RX0 yX0_isFull yX0_isFull) ∈ lw_tbl := tb_4 _ (List.mem_of_getElem? (l := tables_1_4) (i := 6) rfl)
set_option maxRecDepth 20000 in
theorem mL_37_3 : (Cond.code yX0_isFull cX0_isFull 1 (some .boolean)) ∈ wsL_law := inr_37 _ (List.mem_of_getElem? (l := wsL_law_r37) (i := 3) rfl)
set_option maxRecDepth 20000 in
theorem tL_37_3 : (Cond.code yX0_isFull cX0_isFull 1 (some .boolean)) ∈ lw_tbl := tb_4 _ (List.mem_of_getElem? (l := tables_1_4) (i := 7) rfl)
set_option maxRecDepth 20000 in
theorem mL_37_4 : (Cond.fieldLink RX0 16 "GhostSigns$Hands" "entries" "I") ∈ wsL_law := inr_37 _ (List.mem_of_getElem? (l := wsL_law_r37) (i := 4) rfl)
set_option maxRecDepth 20000 in
theorem tL_37_4 : (Cond.fieldLink RX0 16 "GhostSigns$Hands" "entries" "I") ∈ lw_tbl := tb_1 _ (List.mem_of_getElem? (l := tables_1_1) (i := 181) rfl)
set_option maxRecDepth 20000 in
theorem mL_37_5 : (Cond.methodLink RX9 328 yX0_add) ∈ wsL_law := inr_37 _ (List.mem_of_getElem? (l := wsL_law_r37) (i := 5) rfl)
set_option maxRecDepth 20000 in
theorem tL_37_5 : (Cond.methodLink RX9 328 yX0_add) ∈ lw_tbl := tb_4 _ (List.mem_of_getElem? (l := tables_1_4) (i := 8) rfl)
set_option maxRecDepth 20000 in
theorem mL_37_6 : (Cond.instanceMethod yX0_add) ∈ wsL_law := inr_37 _ (List.mem_of_getElem? (l := wsL_law_r37) (i := 6) rfl)
set_option maxRecDepth 20000 in
theorem tL_37_6 : (Cond.instanceMethod yX0_add) ∈ lw_tbl := tb_4 _ (List.mem_of_getElem? (l := tables_1_4) (i := 9) rfl)
set_option maxRecDepth 20000 in
theorem mL_37_7 : (Cond.selects RX0 yX0_add yX0_add) ∈ wsL_law := inr_37 _ (List.mem_of_getElem? (l := wsL_law_r37) (i := 7) rfl)
set_option maxRecDepth 20000 in
theorem tL_37_7 : (Cond.selects RX0 yX0_add yX0_add) ∈ lw_tbl := tb_4 _ (List.mem_of_getElem? (l := tables_1_4) (i := 10) rfl)
set_option maxRecDepth 20000 in
theorem mL_37_8 : (Cond.code yX0_add cX0_add 3 none) ∈ wsL_law := inr_37 _ (List.mem_of_getElem? (l := wsL_law_r37) (i := 8) rfl)
set_option maxRecDepth 20000 in
theorem tL_37_8 : (Cond.code yX0_add cX0_add 3 none) ∈ lw_tbl := tb_4 _ (List.mem_of_getElem? (l := tables_1_4) (i := 11) rfl)
set_option maxRecDepth 20000 in
theorem mL_37_9 : (Cond.methodLink RL 143 yX10_read) ∈ wsL_law := inr_37 _ (List.mem_of_getElem? (l := wsL_law_r37) (i := 9) rfl)
set_option maxRecDepth 20000 in
theorem tL_37_9 : (Cond.methodLink RL 143 yX10_read) ∈ lw_tbl := tb_5 _ (List.mem_of_getElem? (l := tables_1_5) (i := 230) rfl)
set_option maxRecDepth 20000 in
theorem mL_37_10 : (Cond.instanceMethod yX10_read) ∈ wsL_law := inr_37 _ (List.mem_of_getElem? (l := wsL_law_r37) (i := 10) rfl)
set_option maxRecDepth 20000 in
theorem tL_37_10 : (Cond.instanceMethod yX10_read) ∈ lw_tbl := tb_5 _ (List.mem_of_getElem? (l := tables_1_5) (i := 231) rfl)
set_option maxRecDepth 20000 in
theorem mL_37_11 : (Cond.selects RX10 yX10_read yX10_read) ∈ wsL_law := inr_37 _ (List.mem_of_getElem? (l := wsL_law_r37) (i := 11) rfl)
set_option maxRecDepth 20000 in
theorem tL_37_11 : (Cond.selects RX10 yX10_read yX10_read) ∈ lw_tbl := tb_5 _ (List.mem_of_getElem? (l := tables_1_5) (i := 232) rfl)
set_option maxRecDepth 20000 in
theorem mL_37_12 : (Cond.code yX10_read cX10_read 3 (some .int)) ∈ wsL_law := inr_37 _ (List.mem_of_getElem? (l := wsL_law_r37) (i := 12) rfl)
set_option maxRecDepth 20000 in
theorem tL_37_12 : (Cond.code yX10_read cX10_read 3 (some .int)) ∈ lw_tbl := tb_5 _ (List.mem_of_getElem? (l := tables_1_5) (i := 233) rfl)
set_option maxRecDepth 20000 in
theorem mL_37_13 : (Cond.fieldLink RX10 244 "GhostSignsModel" "hands" "I") ∈ wsL_law := inr_37 _ (List.mem_of_getElem? (l := wsL_law_r37) (i := 13) rfl)
set_option maxRecDepth 20000 in
theorem tL_37_13 : (Cond.fieldLink RX10 244 "GhostSignsModel" "hands" "I") ∈ lw_tbl := tb_4 _ (List.mem_of_getElem? (l := tables_1_4) (i := 139) rfl)
set_option maxRecDepth 20000 in
theorem mL_37_14 : (Cond.methodLink RL 144 yX9_spread) ∈ wsL_law := inr_37 _ (List.mem_of_getElem? (l := wsL_law_r37) (i := 14) rfl)
set_option maxRecDepth 20000 in
theorem tL_37_14 : (Cond.methodLink RL 144 yX9_spread) ∈ lw_tbl := tb_4 _ (List.mem_of_getElem? (l := tables_1_4) (i := 12) rfl)
set_option maxRecDepth 20000 in
theorem mL_37_15 : (Cond.instanceMethod yX9_spread) ∈ wsL_law := inr_37 _ (List.mem_of_getElem? (l := wsL_law_r37) (i := 15) rfl)
set_option maxRecDepth 20000 in
theorem tL_37_15 : (Cond.instanceMethod yX9_spread) ∈ lw_tbl := tb_4 _ (List.mem_of_getElem? (l := tables_1_4) (i := 13) rfl)
set_option maxRecDepth 20000 in
theorem mL_37_16 : (Cond.selects RX9 yX9_spread yX9_spread) ∈ wsL_law := inr_37 _ (List.mem_of_getElem? (l := wsL_law_r37) (i := 16) rfl)
set_option maxRecDepth 20000 in
theorem tL_37_16 : (Cond.selects RX9 yX9_spread yX9_spread) ∈ lw_tbl := tb_4 _ (List.mem_of_getElem? (l := tables_1_4) (i := 14) rfl)
set_option maxRecDepth 20000 in
theorem mL_37_17 : (Cond.code yX9_spread cX9_spread 6 (some .int)) ∈ wsL_law := inr_37 _ (List.mem_of_getElem? (l := wsL_law_r37) (i := 17) rfl)
set_option maxRecDepth 20000 in
theorem tL_37_17 : (Cond.code yX9_spread cX9_spread 6 (some .int)) ∈ lw_tbl := tb_4 _ (List.mem_of_getElem? (l := tables_1_4) (i := 15) rfl)
set_option maxRecDepth 20000 in
theorem mL_37_18 : (Cond.methodLink RX9 334 yX0_timesRead) ∈ wsL_law := inr_37 _ (List.mem_of_getElem? (l := wsL_law_r37) (i := 18) rfl)
set_option maxRecDepth 20000 in
theorem tL_37_18 : (Cond.methodLink RX9 334 yX0_timesRead) ∈ lw_tbl := tb_4 _ (List.mem_of_getElem? (l := tables_1_4) (i := 16) rfl)
set_option maxRecDepth 20000 in
theorem mL_37_19 : (Cond.instanceMethod yX0_timesRead) ∈ wsL_law := inr_37 _ (List.mem_of_getElem? (l := wsL_law_r37) (i := 19) rfl)
set_option maxRecDepth 20000 in
theorem tL_37_19 : (Cond.instanceMethod yX0_timesRead) ∈ lw_tbl := tb_4 _ (List.mem_of_getElem? (l := tables_1_4) (i := 17) rfl)
set_option maxRecDepth 20000 in
theorem mL_37_20 : (Cond.selects RX0 yX0_timesRead yX0_timesRead) ∈ wsL_law := inr_37 _ (List.mem_of_getElem? (l := wsL_law_r37) (i := 20) rfl)
set_option maxRecDepth 20000 in
theorem tL_37_20 : (Cond.selects RX0 yX0_timesRead yX0_timesRead) ∈ lw_tbl := tb_4 _ (List.mem_of_getElem? (l := tables_1_4) (i := 18) rfl)
set_option maxRecDepth 20000 in
theorem mL_37_21 : (Cond.code yX0_timesRead cX0_timesRead 5 (some .int)) ∈ wsL_law := inr_37 _ (List.mem_of_getElem? (l := wsL_law_r37) (i := 21) rfl)
set_option maxRecDepth 20000 in
theorem tL_37_21 : (Cond.code yX0_timesRead cX0_timesRead 5 (some .int)) ∈ lw_tbl := tb_4 _ (List.mem_of_getElem? (l := tables_1_4) (i := 19) rfl)
set_option maxRecDepth 20000 in
theorem mL_37_22 : (Cond.methodLink RL 147 yX10_spread) ∈ wsL_law := inr_37 _ (List.mem_of_getElem? (l := wsL_law_r37) (i := 22) rfl)
set_option maxRecDepth 20000 in
theorem tL_37_22 : (Cond.methodLink RL 147 yX10_spread) ∈ lw_tbl := tb_5 _ (List.mem_of_getElem? (l := tables_1_5) (i := 234) rfl)
set_option maxRecDepth 20000 in
theorem mL_37_23 : (Cond.instanceMethod yX10_spread) ∈ wsL_law := inr_37 _ (List.mem_of_getElem? (l := wsL_law_r37) (i := 23) rfl)
set_option maxRecDepth 20000 in
theorem tL_37_23 : (Cond.instanceMethod yX10_spread) ∈ lw_tbl := tb_5 _ (List.mem_of_getElem? (l := tables_1_5) (i := 235) rfl)
set_option maxRecDepth 20000 in
theorem tin_37 : ∀ w ∈ wsL_law_r37, w ∈ lw_tbl := List.forall_mem_cons.mpr ⟨tL_37_0, List.forall_mem_cons.mpr ⟨tL_37_1, List.forall_mem_cons.mpr ⟨tL_37_2, List.forall_mem_cons.mpr ⟨tL_37_3, List.forall_mem_cons.mpr ⟨tL_37_4, List.forall_mem_cons.mpr ⟨tL_37_5, List.forall_mem_cons.mpr ⟨tL_37_6, List.forall_mem_cons.mpr ⟨tL_37_7, List.forall_mem_cons.mpr ⟨tL_37_8, List.forall_mem_cons.mpr ⟨tL_37_9, List.forall_mem_cons.mpr ⟨tL_37_10, List.forall_mem_cons.mpr ⟨tL_37_11, List.forall_mem_cons.mpr ⟨tL_37_12, List.forall_mem_cons.mpr ⟨tL_37_13, List.forall_mem_cons.mpr ⟨tL_37_14, List.forall_mem_cons.mpr ⟨tL_37_15, List.forall_mem_cons.mpr ⟨tL_37_16, List.forall_mem_cons.mpr ⟨tL_37_17, List.forall_mem_cons.mpr ⟨tL_37_18, List.forall_mem_cons.mpr ⟨tL_37_19, List.forall_mem_cons.mpr ⟨tL_37_20, List.forall_mem_cons.mpr ⟨tL_37_21, List.forall_mem_cons.mpr ⟨tL_37_22, List.forall_mem_cons.mpr ⟨tL_37_23, List.forall_mem_nil _⟩⟩⟩⟩⟩⟩⟩⟩⟩⟩⟩⟩⟩⟩⟩⟩⟩⟩⟩⟩⟩⟩⟩⟩
set_option maxRecDepth 20000 in
theorem mL_38_0 : (Cond.selects RX10 yX10_spread yX10_spread) ∈ wsL_law := inr_38 _ (List.mem_of_getElem? (l := wsL_law_r38) (i := 0) rfl)
set_option maxRecDepth 20000 in
theorem tL_38_0 : (Cond.selects RX10 yX10_spread yX10_spread) ∈ lw_tbl := tb_5 _ (List.mem_of_getElem? (l := tables_1_5) (i := 236) rfl)
set_option maxRecDepth 20000 in
theorem mL_38_1 : (Cond.code yX10_spread cX10_spread 8 (some .int)) ∈ wsL_law := inr_38 _ (List.mem_of_getElem? (l := wsL_law_r38) (i := 1) rfl)
set_option maxRecDepth 20000 in
theorem tL_38_1 : (Cond.code yX10_spread cX10_spread 8 (some .int)) ∈ lw_tbl := tb_5 _ (List.mem_of_getElem? (l := tables_1_5) (i := 237) rfl)
set_option maxRecDepth 20000 in
theorem mL_38_2 : (Cond.methodLink RL 148 yX9_wall) ∈ wsL_law := inr_38 _ (List.mem_of_getElem? (l := wsL_law_r38) (i := 2) rfl)
set_option maxRecDepth 20000 in
theorem tL_38_2 : (Cond.methodLink RL 148 yX9_wall) ∈ lw_tbl := tb_4 _ (List.mem_of_getElem? (l := tables_1_4) (i := 20) rfl)
set_option maxRecDepth 20000 in
theorem mL_38_3 : (Cond.instanceMethod yX9_wall) ∈ wsL_law := inr_38 _ (List.mem_of_getElem? (l := wsL_law_r38) (i := 3) rfl)
set_option maxRecDepth 20000 in
theorem tL_38_3 : (Cond.instanceMethod yX9_wall) ∈ lw_tbl := tb_4 _ (List.mem_of_getElem? (l := tables_1_4) (i := 21) rfl)
set_option maxRecDepth 20000 in
theorem mL_38_4 : (Cond.selects RX9 yX9_wall yX9_wall) ∈ wsL_law := inr_38 _ (List.mem_of_getElem? (l := wsL_law_r38) (i := 4) rfl)
set_option maxRecDepth 20000 in
theorem tL_38_4 : (Cond.selects RX9 yX9_wall yX9_wall) ∈ lw_tbl := tb_4 _ (List.mem_of_getElem? (l := tables_1_4) (i := 22) rfl)
set_option maxRecDepth 20000 in
theorem mL_38_5 : (Cond.code yX9_wall cX9_wall 4 (some .int)) ∈ wsL_law := inr_38 _ (List.mem_of_getElem? (l := wsL_law_r38) (i := 5) rfl)
set_option maxRecDepth 20000 in
theorem tL_38_5 : (Cond.code yX9_wall cX9_wall 4 (some .int)) ∈ lw_tbl := tb_4 _ (List.mem_of_getElem? (l := tables_1_4) (i := 23) rfl)
set_option maxRecDepth 20000 in
theorem mL_38_6 : (Cond.methodLink RX9 337 yX7_isFull) ∈ wsL_law := inr_38 _ (List.mem_of_getElem? (l := wsL_law_r38) (i := 6) rfl)
set_option maxRecDepth 20000 in
theorem tL_38_6 : (Cond.methodLink RX9 337 yX7_isFull) ∈ lw_tbl := tb_4 _ (List.mem_of_getElem? (l := tables_1_4) (i := 24) rfl)
set_option maxRecDepth 20000 in
theorem mL_38_7 : (Cond.instanceMethod yX7_isFull) ∈ wsL_law := inr_38 _ (List.mem_of_getElem? (l := wsL_law_r38) (i := 7) rfl)
set_option maxRecDepth 20000 in
theorem tL_38_7 : (Cond.instanceMethod yX7_isFull) ∈ lw_tbl := tb_4 _ (List.mem_of_getElem? (l := tables_1_4) (i := 25) rfl)
set_option maxRecDepth 20000 in
theorem mL_38_8 : (Cond.selects RX7 yX7_isFull yX7_isFull) ∈ wsL_law := inr_38 _ (List.mem_of_getElem? (l := wsL_law_r38) (i := 8) rfl)
set_option maxRecDepth 20000 in
theorem tL_38_8 : (Cond.selects RX7 yX7_isFull yX7_isFull) ∈ lw_tbl := tb_4 _ (List.mem_of_getElem? (l := tables_1_4) (i := 26) rfl)
set_option maxRecDepth 20000 in
theorem mL_38_9 : (Cond.code yX7_isFull cX7_isFull 1 (some .boolean)) ∈ wsL_law := inr_38 _ (List.mem_of_getElem? (l := wsL_law_r38) (i := 9) rfl)
set_option maxRecDepth 20000 in
theorem tL_38_9 : (Cond.code yX7_isFull cX7_isFull 1 (some .boolean)) ∈ lw_tbl := tb_4 _ (List.mem_of_getElem? (l := tables_1_4) (i := 27) rfl)
set_option maxRecDepth 20000 in
theorem mL_38_10 : (Cond.fieldLink RX7 16 "GhostSigns$Walls" "entries" "I") ∈ wsL_law := inr_38 _ (List.mem_of_getElem? (l := wsL_law_r38) (i := 10) rfl)
set_option maxRecDepth 20000 in
theorem tL_38_10 : (Cond.fieldLink RX7 16 "GhostSigns$Walls" "entries" "I") ∈ lw_tbl := tb_1 _ (List.mem_of_getElem? (l := tables_1_1) (i := 200) rfl)
set_option maxRecDepth 20000 in
theorem mL_38_11 : (Cond.methodLink RX9 338 yX7_add) ∈ wsL_law := inr_38 _ (List.mem_of_getElem? (l := wsL_law_r38) (i := 11) rfl)
set_option maxRecDepth 20000 in
theorem tL_38_11 : (Cond.methodLink RX9 338 yX7_add) ∈ lw_tbl := tb_4 _ (List.mem_of_getElem? (l := tables_1_4) (i := 28) rfl)
set_option maxRecDepth 20000 in
theorem mL_38_12 : (Cond.instanceMethod yX7_add) ∈ wsL_law := inr_38 _ (List.mem_of_getElem? (l := wsL_law_r38) (i := 12) rfl)
set_option maxRecDepth 20000 in
theorem tL_38_12 : (Cond.instanceMethod yX7_add) ∈ lw_tbl := tb_4 _ (List.mem_of_getElem? (l := tables_1_4) (i := 29) rfl)
set_option maxRecDepth 20000 in
theorem mL_38_13 : (Cond.selects RX7 yX7_add yX7_add) ∈ wsL_law := inr_38 _ (List.mem_of_getElem? (l := wsL_law_r38) (i := 13) rfl)
set_option maxRecDepth 20000 in
theorem tL_38_13 : (Cond.selects RX7 yX7_add yX7_add) ∈ lw_tbl := tb_4 _ (List.mem_of_getElem? (l := tables_1_4) (i := 30) rfl)
set_option maxRecDepth 20000 in
theorem mL_38_14 : (Cond.code yX7_add cX7_add 4 (some .int)) ∈ wsL_law := inr_38 _ (List.mem_of_getElem? (l := wsL_law_r38) (i := 14) rfl)
set_option maxRecDepth 20000 in
theorem tL_38_14 : (Cond.code yX7_add cX7_add 4 (some .int)) ∈ lw_tbl := tb_4 _ (List.mem_of_getElem? (l := tables_1_4) (i := 31) rfl)
set_option maxRecDepth 20000 in
theorem mL_38_15 : (Cond.fieldLink RX7 20 "GhostSigns$Walls" "withLeave" "I") ∈ wsL_law := inr_38 _ (List.mem_of_getElem? (l := wsL_law_r38) (i := 15) rfl)
set_option maxRecDepth 20000 in
theorem tL_38_15 : (Cond.fieldLink RX7 20 "GhostSigns$Walls" "withLeave" "I") ∈ lw_tbl := tb_1 _ (List.mem_of_getElem? (l := tables_1_1) (i := 199) rfl)
set_option maxRecDepth 20000 in
theorem mL_38_16 : (Cond.methodLink RL 152 yX10_wall) ∈ wsL_law := inr_38 _ (List.mem_of_getElem? (l := wsL_law_r38) (i := 16) rfl)
set_option maxRecDepth 20000 in
theorem tL_38_16 : (Cond.methodLink RL 152 yX10_wall) ∈ lw_tbl := tb_5 _ (List.mem_of_getElem? (l := tables_1_5) (i := 238) rfl)
set_option maxRecDepth 20000 in
theorem mL_38_17 : (Cond.instanceMethod yX10_wall) ∈ wsL_law := inr_38 _ (List.mem_of_getElem? (l := wsL_law_r38) (i := 17) rfl)
set_option maxRecDepth 20000 in
theorem tL_38_17 : (Cond.instanceMethod yX10_wall) ∈ lw_tbl := tb_5 _ (List.mem_of_getElem? (l := tables_1_5) (i := 239) rfl)
set_option maxRecDepth 20000 in
theorem mL_38_18 : (Cond.selects RX10 yX10_wall yX10_wall) ∈ wsL_law := inr_38 _ (List.mem_of_getElem? (l := wsL_law_r38) (i := 18) rfl)
set_option maxRecDepth 20000 in
theorem tL_38_18 : (Cond.selects RX10 yX10_wall yX10_wall) ∈ lw_tbl := tb_6 _ (List.mem_of_getElem? (l := tables_1_6) (i := 0) rfl)
set_option maxRecDepth 20000 in
theorem mL_38_19 : (Cond.code yX10_wall cX10_wall 4 (some .int)) ∈ wsL_law := inr_38 _ (List.mem_of_getElem? (l := wsL_law_r38) (i := 19) rfl)
set_option maxRecDepth 20000 in
theorem tL_38_19 : (Cond.code yX10_wall cX10_wall 4 (some .int)) ∈ lw_tbl := tb_6 _ (List.mem_of_getElem? (l := tables_1_6) (i := 1) rfl)
set_option maxRecDepth 20000 in
theorem mL_38_20 : (Cond.fieldLink RX10 247 "GhostSignsModel" "walls" "I") ∈ wsL_law := inr_38 _ (List.mem_of_getElem? (l := wsL_law_r38) (i := 20) rfl)
set_option maxRecDepth 20000 in
theorem tL_38_20 : (Cond.fieldLink RX10 247 "GhostSignsModel" "walls" "I") ∈ lw_tbl := tb_4 _ (List.mem_of_getElem? (l := tables_1_4) (i := 142) rfl)
set_option maxRecDepth 20000 in
theorem mL_38_21 : (Cond.methodLink RL 153 yX9_keep) ∈ wsL_law := inr_38 _ (List.mem_of_getElem? (l := wsL_law_r38) (i := 21) rfl)
set_option maxRecDepth 20000 in
theorem tL_38_21 : (Cond.methodLink RL 153 yX9_keep) ∈ lw_tbl := tb_4 _ (List.mem_of_getElem? (l := tables_1_4) (i := 32) rfl)
set_option maxRecDepth 20000 in
theorem mL_38_22 : (Cond.instanceMethod yX9_keep) ∈ wsL_law := inr_38 _ (List.mem_of_getElem? (l := wsL_law_r38) (i := 22) rfl)
set_option maxRecDepth 20000 in
theorem tL_38_22 : (Cond.instanceMethod yX9_keep) ∈ lw_tbl := tb_4 _ (List.mem_of_getElem? (l := tables_1_4) (i := 33) rfl)
set_option maxRecDepth 20000 in
theorem mL_38_23 : (Cond.selects RX9 yX9_keep yX9_keep) ∈ wsL_law := inr_38 _ (List.mem_of_getElem? (l := wsL_law_r38) (i := 23) rfl)
set_option maxRecDepth 20000 in
theorem tL_38_23 : (Cond.selects RX9 yX9_keep yX9_keep) ∈ lw_tbl := tb_4 _ (List.mem_of_getElem? (l := tables_1_4) (i := 34) rfl)
set_option maxRecDepth 20000 in
theorem tin_38 : ∀ w ∈ wsL_law_r38, w ∈ lw_tbl := List.forall_mem_cons.mpr ⟨tL_38_0, List.forall_mem_cons.mpr ⟨tL_38_1, List.forall_mem_cons.mpr ⟨tL_38_2, List.forall_mem_cons.mpr ⟨tL_38_3, List.forall_mem_cons.mpr ⟨tL_38_4, List.forall_mem_cons.mpr ⟨tL_38_5, List.forall_mem_cons.mpr ⟨tL_38_6, List.forall_mem_cons.mpr ⟨tL_38_7, List.forall_mem_cons.mpr ⟨tL_38_8, List.forall_mem_cons.mpr ⟨tL_38_9, List.forall_mem_cons.mpr ⟨tL_38_10, List.forall_mem_cons.mpr ⟨tL_38_11, List.forall_mem_cons.mpr ⟨tL_38_12, List.forall_mem_cons.mpr ⟨tL_38_13, List.forall_mem_cons.mpr ⟨tL_38_14, List.forall_mem_cons.mpr ⟨tL_38_15, List.forall_mem_cons.mpr ⟨tL_38_16, List.forall_mem_cons.mpr ⟨tL_38_17, List.forall_mem_cons.mpr ⟨tL_38_18, List.forall_mem_cons.mpr ⟨tL_38_19, List.forall_mem_cons.mpr ⟨tL_38_20, List.forall_mem_cons.mpr ⟨tL_38_21, List.forall_mem_cons.mpr ⟨tL_38_22, List.forall_mem_cons.mpr ⟨tL_38_23, List.forall_mem_nil _⟩⟩⟩⟩⟩⟩⟩⟩⟩⟩⟩⟩⟩⟩⟩⟩⟩⟩⟩⟩⟩⟩⟩⟩
set_option maxRecDepth 20000 in
theorem mL_39_0 : (Cond.code yX9_keep cX9_keep 2 (some .int)) ∈ wsL_law := inr_39 _ (List.mem_of_getElem? (l := wsL_law_r39) (i := 0) rfl)
set_option maxRecDepth 20000 in
theorem tL_39_0 : (Cond.code yX9_keep cX9_keep 2 (some .int)) ∈ lw_tbl := tb_4 _ (List.mem_of_getElem? (l := tables_1_4) (i := 35) rfl)
set_option maxRecDepth 20000 in
theorem mL_39_1 : (Cond.fieldLink RX9 344 "GhostSigns$Walls" "worths" "[I") ∈ wsL_law := inr_39 _ (List.mem_of_getElem? (l := wsL_law_r39) (i := 1) rfl)
set_option maxRecDepth 20000 in
theorem tL_39_1 : (Cond.fieldLink RX9 344 "GhostSigns$Walls" "worths" "[I") ∈ lw_tbl := tb_1 _ (List.mem_of_getElem? (l := tables_1_1) (i := 197) rfl)
set_option maxRecDepth 20000 in
theorem mL_39_2 : (Cond.methodLink RX9 341 yX7_bestSet) ∈ wsL_law := inr_39 _ (List.mem_of_getElem? (l := wsL_law_r39) (i := 2) rfl)
set_option maxRecDepth 20000 in
theorem tL_39_2 : (Cond.methodLink RX9 341 yX7_bestSet) ∈ lw_tbl := tb_4 _ (List.mem_of_getElem? (l := tables_1_4) (i := 36) rfl)
set_option maxRecDepth 20000 in
theorem mL_39_3 : (Cond.instanceMethod yX7_bestSet) ∈ wsL_law := inr_39 _ (List.mem_of_getElem? (l := wsL_law_r39) (i := 3) rfl)
set_option maxRecDepth 20000 in
theorem tL_39_3 : (Cond.instanceMethod yX7_bestSet) ∈ lw_tbl := tb_4 _ (List.mem_of_getElem? (l := tables_1_4) (i := 37) rfl)
set_option maxRecDepth 20000 in
theorem mL_39_4 : (Cond.selects RX7 yX7_bestSet yX7_bestSet) ∈ wsL_law := inr_39 _ (List.mem_of_getElem? (l := wsL_law_r39) (i := 4) rfl)
set_option maxRecDepth 20000 in
theorem tL_39_4 : (Cond.selects RX7 yX7_bestSet yX7_bestSet) ∈ lw_tbl := tb_4 _ (List.mem_of_getElem? (l := tables_1_4) (i := 38) rfl)
set_option maxRecDepth 20000 in
theorem mL_39_5 : (Cond.code yX7_bestSet cX7_bestSet 9 (some .int)) ∈ wsL_law := inr_39 _ (List.mem_of_getElem? (l := wsL_law_r39) (i := 5) rfl)
set_option maxRecDepth 20000 in
theorem tL_39_5 : (Cond.code yX7_bestSet cX7_bestSet 9 (some .int)) ∈ lw_tbl := tb_4 _ (List.mem_of_getElem? (l := tables_1_4) (i := 39) rfl)
set_option maxRecDepth 20000 in
theorem mL_39_6 : (Cond.methodLink RX7 23 yX7_sumOf) ∈ wsL_law := inr_39 _ (List.mem_of_getElem? (l := wsL_law_r39) (i := 6) rfl)
set_option maxRecDepth 20000 in
theorem tL_39_6 : (Cond.methodLink RX7 23 yX7_sumOf) ∈ lw_tbl := tb_4 _ (List.mem_of_getElem? (l := tables_1_4) (i := 40) rfl)
set_option maxRecDepth 20000 in
theorem mL_39_7 : (Cond.static yX7_sumOf) ∈ wsL_law := inr_39 _ (List.mem_of_getElem? (l := wsL_law_r39) (i := 7) rfl)
set_option maxRecDepth 20000 in
theorem tL_39_7 : (Cond.static yX7_sumOf) ∈ lw_tbl := tb_4 _ (List.mem_of_getElem? (l := tables_1_4) (i := 41) rfl)
set_option maxRecDepth 20000 in
theorem mL_39_8 : (Cond.code yX7_sumOf cX7_sumOf 4 (some .int)) ∈ wsL_law := inr_39 _ (List.mem_of_getElem? (l := wsL_law_r39) (i := 8) rfl)
set_option maxRecDepth 20000 in
theorem tL_39_8 : (Cond.code yX7_sumOf cX7_sumOf 4 (some .int)) ∈ lw_tbl := tb_4 _ (List.mem_of_getElem? (l := tables_1_4) (i := 42) rfl)
set_option maxRecDepth 20000 in
theorem mL_39_9 : (Cond.methodLink RX9 347 yX7_sumOf) ∈ wsL_law := inr_39 _ (List.mem_of_getElem? (l := wsL_law_r39) (i := 9) rfl)
set_option maxRecDepth 20000 in
theorem tL_39_9 : (Cond.methodLink RX9 347 yX7_sumOf) ∈ lw_tbl := tb_4 _ (List.mem_of_getElem? (l := tables_1_4) (i := 43) rfl)
set_option maxRecDepth 20000 in
theorem mL_39_10 : (Cond.methodLink RL 156 yX10_keep) ∈ wsL_law := inr_39 _ (List.mem_of_getElem? (l := wsL_law_r39) (i := 10) rfl)
set_option maxRecDepth 20000 in
theorem tL_39_10 : (Cond.methodLink RL 156 yX10_keep) ∈ lw_tbl := tb_6 _ (List.mem_of_getElem? (l := tables_1_6) (i := 2) rfl)
set_option maxRecDepth 20000 in
theorem mL_39_11 : (Cond.instanceMethod yX10_keep) ∈ wsL_law := inr_39 _ (List.mem_of_getElem? (l := wsL_law_r39) (i := 11) rfl)
set_option maxRecDepth 20000 in
theorem tL_39_11 : (Cond.instanceMethod yX10_keep) ∈ lw_tbl := tb_6 _ (List.mem_of_getElem? (l := tables_1_6) (i := 3) rfl)
set_option maxRecDepth 20000 in
theorem mL_39_12 : (Cond.selects RX10 yX10_keep yX10_keep) ∈ wsL_law := inr_39 _ (List.mem_of_getElem? (l := wsL_law_r39) (i := 12) rfl)
set_option maxRecDepth 20000 in
theorem tL_39_12 : (Cond.selects RX10 yX10_keep yX10_keep) ∈ lw_tbl := tb_6 _ (List.mem_of_getElem? (l := tables_1_6) (i := 4) rfl)
set_option maxRecDepth 20000 in
theorem mL_39_13 : (Cond.code yX10_keep cX10_keep 11 (some .int)) ∈ wsL_law := inr_39 _ (List.mem_of_getElem? (l := wsL_law_r39) (i := 13) rfl)
set_option maxRecDepth 20000 in
theorem tL_39_13 : (Cond.code yX10_keep cX10_keep 11 (some .int)) ∈ lw_tbl := tb_6 _ (List.mem_of_getElem? (l := tables_1_6) (i := 5) rfl)
set_option maxRecDepth 20000 in
theorem mL_39_14 : (Cond.methodLink RL 157 yX9_asked) ∈ wsL_law := inr_39 _ (List.mem_of_getElem? (l := wsL_law_r39) (i := 14) rfl)
set_option maxRecDepth 20000 in
theorem tL_39_14 : (Cond.methodLink RL 157 yX9_asked) ∈ lw_tbl := tb_4 _ (List.mem_of_getElem? (l := tables_1_4) (i := 44) rfl)
set_option maxRecDepth 20000 in
theorem mL_39_15 : (Cond.instanceMethod yX9_asked) ∈ wsL_law := inr_39 _ (List.mem_of_getElem? (l := wsL_law_r39) (i := 15) rfl)
set_option maxRecDepth 20000 in
theorem tL_39_15 : (Cond.instanceMethod yX9_asked) ∈ lw_tbl := tb_4 _ (List.mem_of_getElem? (l := tables_1_4) (i := 45) rfl)
set_option maxRecDepth 20000 in
theorem mL_39_16 : (Cond.selects RX9 yX9_asked yX9_asked) ∈ wsL_law := inr_39 _ (List.mem_of_getElem? (l := wsL_law_r39) (i := 16) rfl)
set_option maxRecDepth 20000 in
theorem tL_39_16 : (Cond.selects RX9 yX9_asked yX9_asked) ∈ lw_tbl := tb_4 _ (List.mem_of_getElem? (l := tables_1_4) (i := 46) rfl)
set_option maxRecDepth 20000 in
theorem mL_39_17 : (Cond.code yX9_asked cX9_asked 1 (some .int)) ∈ wsL_law := inr_39 _ (List.mem_of_getElem? (l := wsL_law_r39) (i := 17) rfl)
set_option maxRecDepth 20000 in
theorem tL_39_17 : (Cond.code yX9_asked cX9_asked 1 (some .int)) ∈ lw_tbl := tb_4 _ (List.mem_of_getElem? (l := tables_1_4) (i := 47) rfl)
set_option maxRecDepth 20000 in
theorem mL_39_18 : (Cond.methodLink RL 160 yX10_asked) ∈ wsL_law := inr_39 _ (List.mem_of_getElem? (l := wsL_law_r39) (i := 18) rfl)
set_option maxRecDepth 20000 in
theorem tL_39_18 : (Cond.methodLink RL 160 yX10_asked) ∈ lw_tbl := tb_6 _ (List.mem_of_getElem? (l := tables_1_6) (i := 6) rfl)
set_option maxRecDepth 20000 in
theorem mL_39_19 : (Cond.instanceMethod yX10_asked) ∈ wsL_law := inr_39 _ (List.mem_of_getElem? (l := wsL_law_r39) (i := 19) rfl)
set_option maxRecDepth 20000 in
theorem tL_39_19 : (Cond.instanceMethod yX10_asked) ∈ lw_tbl := tb_6 _ (List.mem_of_getElem? (l := tables_1_6) (i := 7) rfl)
set_option maxRecDepth 20000 in
theorem mL_39_20 : (Cond.selects RX10 yX10_asked yX10_asked) ∈ wsL_law := inr_39 _ (List.mem_of_getElem? (l := wsL_law_r39) (i := 20) rfl)
set_option maxRecDepth 20000 in
theorem tL_39_20 : (Cond.selects RX10 yX10_asked yX10_asked) ∈ lw_tbl := tb_6 _ (List.mem_of_getElem? (l := tables_1_6) (i := 8) rfl)
set_option maxRecDepth 20000 in
theorem mL_39_21 : (Cond.code yX10_asked cX10_asked 1 (some .int)) ∈ wsL_law := inr_39 _ (List.mem_of_getElem? (l := wsL_law_r39) (i := 21) rfl)
set_option maxRecDepth 20000 in
theorem tL_39_21 : (Cond.code yX10_asked cX10_asked 1 (some .int)) ∈ lw_tbl := tb_6 _ (List.mem_of_getElem? (l := tables_1_6) (i := 9) rfl)
set_option maxRecDepth 20000 in
theorem mL_39_22 : (Cond.methodLink RL 161 yX9_count) ∈ wsL_law := inr_39 _ (List.mem_of_getElem? (l := wsL_law_r39) (i := 22) rfl)
set_option maxRecDepth 20000 in
theorem tL_39_22 : (Cond.methodLink RL 161 yX9_count) ∈ lw_tbl := tb_4 _ (List.mem_of_getElem? (l := tables_1_4) (i := 48) rfl)
set_option maxRecDepth 20000 in
theorem mL_39_23 : (Cond.instanceMethod yX9_count) ∈ wsL_law := inr_39 _ (List.mem_of_getElem? (l := wsL_law_r39) (i := 23) rfl)
set_option maxRecDepth 20000 in
theorem tL_39_23 : (Cond.instanceMethod yX9_count) ∈ lw_tbl := tb_4 _ (List.mem_of_getElem? (l := tables_1_4) (i := 49) rfl)
set_option maxRecDepth 20000 in
theorem tin_39 : ∀ w ∈ wsL_law_r39, w ∈ lw_tbl := List.forall_mem_cons.mpr ⟨tL_39_0, List.forall_mem_cons.mpr ⟨tL_39_1, List.forall_mem_cons.mpr ⟨tL_39_2, List.forall_mem_cons.mpr ⟨tL_39_3, List.forall_mem_cons.mpr ⟨tL_39_4, List.forall_mem_cons.mpr ⟨tL_39_5, List.forall_mem_cons.mpr ⟨tL_39_6, List.forall_mem_cons.mpr ⟨tL_39_7, List.forall_mem_cons.mpr ⟨tL_39_8, List.forall_mem_cons.mpr ⟨tL_39_9, List.forall_mem_cons.mpr ⟨tL_39_10, List.forall_mem_cons.mpr ⟨tL_39_11, List.forall_mem_cons.mpr ⟨tL_39_12, List.forall_mem_cons.mpr ⟨tL_39_13, List.forall_mem_cons.mpr ⟨tL_39_14, List.forall_mem_cons.mpr ⟨tL_39_15, List.forall_mem_cons.mpr ⟨tL_39_16, List.forall_mem_cons.mpr ⟨tL_39_17, List.forall_mem_cons.mpr ⟨tL_39_18, List.forall_mem_cons.mpr ⟨tL_39_19, List.forall_mem_cons.mpr ⟨tL_39_20, List.forall_mem_cons.mpr ⟨tL_39_21, List.forall_mem_cons.mpr ⟨tL_39_22, List.forall_mem_cons.mpr ⟨tL_39_23, List.forall_mem_nil _⟩⟩⟩⟩⟩⟩⟩⟩⟩⟩⟩⟩⟩⟩⟩⟩⟩⟩⟩⟩⟩⟩⟩⟩
set_option maxRecDepth 20000 in
theorem mL_40_0 : (Cond.selects RX9 yX9_count yX9_count) ∈ wsL_law := inr_40 _ (List.mem_of_getElem? (l := wsL_law_r40) (i := 0) rfl)
set_option maxRecDepth 20000 in
theorem tL_40_0 : (Cond.selects RX9 yX9_count yX9_count) ∈ lw_tbl := tb_4 _ (List.mem_of_getElem? (l := tables_1_4) (i := 50) rfl)
set_option maxRecDepth 20000 in
theorem mL_40_1 : (Cond.code yX9_count cX9_count 2 (some .int)) ∈ wsL_law := inr_40 _ (List.mem_of_getElem? (l := wsL_law_r40) (i := 1) rfl)
set_option maxRecDepth 20000 in
theorem tL_40_1 : (Cond.code yX9_count cX9_count 2 (some .int)) ∈ lw_tbl := tb_4 _ (List.mem_of_getElem? (l := tables_1_4) (i := 51) rfl)
set_option maxRecDepth 20000 in
theorem mL_40_2 : (Cond.methodLink RX9 351 yX9_counted) ∈ wsL_law := inr_40 _ (List.mem_of_getElem? (l := wsL_law_r40) (i := 2) rfl)
set_option maxRecDepth 20000 in
theorem tL_40_2 : (Cond.methodLink RX9 351 yX9_counted) ∈ lw_tbl := tb_4 _ (List.mem_of_getElem? (l := tables_1_4) (i := 52) rfl)
set_option maxRecDepth 20000 in
theorem mL_40_3 : (Cond.instanceMethod yX9_counted) ∈ wsL_law := inr_40 _ (List.mem_of_getElem? (l := wsL_law_r40) (i := 3) rfl)
set_option maxRecDepth 20000 in
theorem tL_40_3 : (Cond.instanceMethod yX9_counted) ∈ lw_tbl := tb_4 _ (List.mem_of_getElem? (l := tables_1_4) (i := 54) rfl)
set_option maxRecDepth 20000 in
theorem mL_40_4 : (Cond.selects RX9 yX9_counted yX9_counted) ∈ wsL_law := inr_40 _ (List.mem_of_getElem? (l := wsL_law_r40) (i := 4) rfl)
set_option maxRecDepth 20000 in
theorem tL_40_4 : (Cond.selects RX9 yX9_counted yX9_counted) ∈ lw_tbl := List.mem_append_left _ (List.mem_of_getElem? (l := k2_sels lw_privs) (i := 16) rfl)
set_option maxRecDepth 20000 in
theorem mL_40_5 : (Cond.code yX9_counted cX9_counted 4 (some .int)) ∈ wsL_law := inr_40 _ (List.mem_of_getElem? (l := wsL_law_r40) (i := 5) rfl)
set_option maxRecDepth 20000 in
theorem tL_40_5 : (Cond.code yX9_counted cX9_counted 4 (some .int)) ∈ lw_tbl := tb_4 _ (List.mem_of_getElem? (l := tables_1_4) (i := 55) rfl)
set_option maxRecDepth 20000 in
theorem mL_40_6 : (Cond.fieldLink RX9 382 "GhostSigns$Walls" "entries" "I") ∈ wsL_law := inr_40 _ (List.mem_of_getElem? (l := wsL_law_r40) (i := 6) rfl)
set_option maxRecDepth 20000 in
theorem tL_40_6 : (Cond.fieldLink RX9 382 "GhostSigns$Walls" "entries" "I") ∈ lw_tbl := tb_1 _ (List.mem_of_getElem? (l := tables_1_1) (i := 201) rfl)
set_option maxRecDepth 20000 in
theorem mL_40_7 : (Cond.methodLink RX9 379 yX2_sizeKnown) ∈ wsL_law := inr_40 _ (List.mem_of_getElem? (l := wsL_law_r40) (i := 7) rfl)
set_option maxRecDepth 20000 in
theorem tL_40_7 : (Cond.methodLink RX9 379 yX2_sizeKnown) ∈ lw_tbl := tb_4 _ (List.mem_of_getElem? (l := tables_1_4) (i := 56) rfl)
set_option maxRecDepth 20000 in
theorem mL_40_8 : (Cond.instanceMethod yX2_sizeKnown) ∈ wsL_law := inr_40 _ (List.mem_of_getElem? (l := wsL_law_r40) (i := 8) rfl)
set_option maxRecDepth 20000 in
theorem tL_40_8 : (Cond.instanceMethod yX2_sizeKnown) ∈ lw_tbl := tb_4 _ (List.mem_of_getElem? (l := tables_1_4) (i := 57) rfl)
set_option maxRecDepth 20000 in
theorem mL_40_9 : (Cond.selects RX2 yX2_sizeKnown yX2_sizeKnown) ∈ wsL_law := inr_40 _ (List.mem_of_getElem? (l := wsL_law_r40) (i := 9) rfl)
set_option maxRecDepth 20000 in
theorem tL_40_9 : (Cond.selects RX2 yX2_sizeKnown yX2_sizeKnown) ∈ lw_tbl := tb_4 _ (List.mem_of_getElem? (l := tables_1_4) (i := 58) rfl)
set_option maxRecDepth 20000 in
theorem mL_40_10 : (Cond.code yX2_sizeKnown cX2_sizeKnown 3 (some .int)) ∈ wsL_law := inr_40 _ (List.mem_of_getElem? (l := wsL_law_r40) (i := 10) rfl)
set_option maxRecDepth 20000 in
theorem tL_40_10 : (Cond.code yX2_sizeKnown cX2_sizeKnown 3 (some .int)) ∈ lw_tbl := tb_4 _ (List.mem_of_getElem? (l := tables_1_4) (i := 59) rfl)
set_option maxRecDepth 20000 in
theorem mL_40_11 : (Cond.methodLink RL 164 yX10_count) ∈ wsL_law := inr_40 _ (List.mem_of_getElem? (l := wsL_law_r40) (i := 11) rfl)
set_option maxRecDepth 20000 in
theorem tL_40_11 : (Cond.methodLink RL 164 yX10_count) ∈ lw_tbl := tb_6 _ (List.mem_of_getElem? (l := tables_1_6) (i := 10) rfl)
set_option maxRecDepth 20000 in
theorem mL_40_12 : (Cond.instanceMethod yX10_count) ∈ wsL_law := inr_40 _ (List.mem_of_getElem? (l := wsL_law_r40) (i := 12) rfl)
set_option maxRecDepth 20000 in
theorem tL_40_12 : (Cond.instanceMethod yX10_count) ∈ lw_tbl := tb_6 _ (List.mem_of_getElem? (l := tables_1_6) (i := 11) rfl)
set_option maxRecDepth 20000 in
theorem mL_40_13 : (Cond.selects RX10 yX10_count yX10_count) ∈ wsL_law := inr_40 _ (List.mem_of_getElem? (l := wsL_law_r40) (i := 13) rfl)
set_option maxRecDepth 20000 in
theorem tL_40_13 : (Cond.selects RX10 yX10_count yX10_count) ∈ lw_tbl := tb_6 _ (List.mem_of_getElem? (l := tables_1_6) (i := 12) rfl)
set_option maxRecDepth 20000 in
theorem mL_40_14 : (Cond.code yX10_count cX10_count 2 (some .int)) ∈ wsL_law := inr_40 _ (List.mem_of_getElem? (l := wsL_law_r40) (i := 14) rfl)
set_option maxRecDepth 20000 in
theorem tL_40_14 : (Cond.code yX10_count cX10_count 2 (some .int)) ∈ lw_tbl := tb_6 _ (List.mem_of_getElem? (l := tables_1_6) (i := 13) rfl)
set_option maxRecDepth 20000 in
theorem mL_40_15 : (Cond.methodLink RX10 250 yX10_tellsCount) ∈ wsL_law := inr_40 _ (List.mem_of_getElem? (l := wsL_law_r40) (i := 15) rfl)
set_option maxRecDepth 20000 in
theorem tL_40_15 : (Cond.methodLink RX10 250 yX10_tellsCount) ∈ lw_tbl := tb_6 _ (List.mem_of_getElem? (l := tables_1_6) (i := 14) rfl)
set_option maxRecDepth 20000 in
theorem mL_40_16 : (Cond.instanceMethod yX10_tellsCount) ∈ wsL_law := inr_40 _ (List.mem_of_getElem? (l := wsL_law_r40) (i := 16) rfl)
set_option maxRecDepth 20000 in
theorem tL_40_16 : (Cond.instanceMethod yX10_tellsCount) ∈ lw_tbl := tb_6 _ (List.mem_of_getElem? (l := tables_1_6) (i := 16) rfl)
set_option maxRecDepth 20000 in
theorem mL_40_17 : (Cond.selects RX10 yX10_tellsCount yX10_tellsCount) ∈ wsL_law := inr_40 _ (List.mem_of_getElem? (l := wsL_law_r40) (i := 17) rfl)
set_option maxRecDepth 20000 in
theorem tL_40_17 : (Cond.selects RX10 yX10_tellsCount yX10_tellsCount) ∈ lw_tbl := List.mem_append_left _ (List.mem_of_getElem? (l := k2_sels lw_privs) (i := 39) rfl)
set_option maxRecDepth 20000 in
theorem mL_40_18 : (Cond.code yX10_tellsCount cX10_tellsCount 4 (some .int)) ∈ wsL_law := inr_40 _ (List.mem_of_getElem? (l := wsL_law_r40) (i := 18) rfl)
set_option maxRecDepth 20000 in
theorem tL_40_18 : (Cond.code yX10_tellsCount cX10_tellsCount 4 (some .int)) ∈ lw_tbl := tb_6 _ (List.mem_of_getElem? (l := tables_1_6) (i := 17) rfl)
set_option maxRecDepth 20000 in
theorem mL_40_19 : (Cond.methodLink RL 165 yX9_finding) ∈ wsL_law := inr_40 _ (List.mem_of_getElem? (l := wsL_law_r40) (i := 19) rfl)
set_option maxRecDepth 20000 in
theorem tL_40_19 : (Cond.methodLink RL 165 yX9_finding) ∈ lw_tbl := tb_4 _ (List.mem_of_getElem? (l := tables_1_4) (i := 60) rfl)
set_option maxRecDepth 20000 in
theorem mL_40_20 : (Cond.instanceMethod yX9_finding) ∈ wsL_law := inr_40 _ (List.mem_of_getElem? (l := wsL_law_r40) (i := 20) rfl)
set_option maxRecDepth 20000 in
theorem tL_40_20 : (Cond.instanceMethod yX9_finding) ∈ lw_tbl := tb_4 _ (List.mem_of_getElem? (l := tables_1_4) (i := 61) rfl)
set_option maxRecDepth 20000 in
theorem mL_40_21 : (Cond.selects RX9 yX9_finding yX9_finding) ∈ wsL_law := inr_40 _ (List.mem_of_getElem? (l := wsL_law_r40) (i := 21) rfl)
set_option maxRecDepth 20000 in
theorem tL_40_21 : (Cond.selects RX9 yX9_finding yX9_finding) ∈ lw_tbl := tb_4 _ (List.mem_of_getElem? (l := tables_1_4) (i := 62) rfl)
set_option maxRecDepth 20000 in
theorem mL_40_22 : (Cond.code yX9_finding cX9_finding 1 (some .int)) ∈ wsL_law := inr_40 _ (List.mem_of_getElem? (l := wsL_law_r40) (i := 22) rfl)
set_option maxRecDepth 20000 in
theorem tL_40_22 : (Cond.code yX9_finding cX9_finding 1 (some .int)) ∈ lw_tbl := tb_4 _ (List.mem_of_getElem? (l := tables_1_4) (i := 63) rfl)
set_option maxRecDepth 20000 in
theorem mL_40_23 : (Cond.methodLink RL 168 yX10_finding) ∈ wsL_law := inr_40 _ (List.mem_of_getElem? (l := wsL_law_r40) (i := 23) rfl)
set_option maxRecDepth 20000 in
theorem tL_40_23 : (Cond.methodLink RL 168 yX10_finding) ∈ lw_tbl := tb_6 _ (List.mem_of_getElem? (l := tables_1_6) (i := 18) rfl)
set_option maxRecDepth 20000 in
theorem tin_40 : ∀ w ∈ wsL_law_r40, w ∈ lw_tbl := List.forall_mem_cons.mpr ⟨tL_40_0, List.forall_mem_cons.mpr ⟨tL_40_1, List.forall_mem_cons.mpr ⟨tL_40_2, List.forall_mem_cons.mpr ⟨tL_40_3, List.forall_mem_cons.mpr ⟨tL_40_4, List.forall_mem_cons.mpr ⟨tL_40_5, List.forall_mem_cons.mpr ⟨tL_40_6, List.forall_mem_cons.mpr ⟨tL_40_7, List.forall_mem_cons.mpr ⟨tL_40_8, List.forall_mem_cons.mpr ⟨tL_40_9, List.forall_mem_cons.mpr ⟨tL_40_10, List.forall_mem_cons.mpr ⟨tL_40_11, List.forall_mem_cons.mpr ⟨tL_40_12, List.forall_mem_cons.mpr ⟨tL_40_13, List.forall_mem_cons.mpr ⟨tL_40_14, List.forall_mem_cons.mpr ⟨tL_40_15, List.forall_mem_cons.mpr ⟨tL_40_16, List.forall_mem_cons.mpr ⟨tL_40_17, List.forall_mem_cons.mpr ⟨tL_40_18, List.forall_mem_cons.mpr ⟨tL_40_19, List.forall_mem_cons.mpr ⟨tL_40_20, List.forall_mem_cons.mpr ⟨tL_40_21, List.forall_mem_cons.mpr ⟨tL_40_22, List.forall_mem_cons.mpr ⟨tL_40_23, List.forall_mem_nil _⟩⟩⟩⟩⟩⟩⟩⟩⟩⟩⟩⟩⟩⟩⟩⟩⟩⟩⟩⟩⟩⟩⟩⟩
set_option maxRecDepth 20000 in
theorem mL_41_0 : (Cond.instanceMethod yX10_finding) ∈ wsL_law := inr_41 _ (List.mem_of_getElem? (l := wsL_law_r41) (i := 0) rfl)
set_option maxRecDepth 20000 in
theorem tL_41_0 : (Cond.instanceMethod yX10_finding) ∈ lw_tbl := tb_6 _ (List.mem_of_getElem? (l := tables_1_6) (i := 19) rfl)
set_option maxRecDepth 20000 in
theorem mL_41_1 : (Cond.selects RX10 yX10_finding yX10_finding) ∈ wsL_law := inr_41 _ (List.mem_of_getElem? (l := wsL_law_r41) (i := 1) rfl)
set_option maxRecDepth 20000 in
theorem tL_41_1 : (Cond.selects RX10 yX10_finding yX10_finding) ∈ lw_tbl := tb_6 _ (List.mem_of_getElem? (l := tables_1_6) (i := 20) rfl)
set_option maxRecDepth 20000 in
theorem mL_41_2 : (Cond.code yX10_finding cX10_finding 1 (some .int)) ∈ wsL_law := inr_41 _ (List.mem_of_getElem? (l := wsL_law_r41) (i := 2) rfl)
set_option maxRecDepth 20000 in
theorem tL_41_2 : (Cond.code yX10_finding cX10_finding 1 (some .int)) ∈ lw_tbl := tb_6 _ (List.mem_of_getElem? (l := tables_1_6) (i := 21) rfl)
set_option maxRecDepth 20000 in
theorem mL_41_3 : (Cond.methodLink RL 169 yX9_findings) ∈ wsL_law := inr_41 _ (List.mem_of_getElem? (l := wsL_law_r41) (i := 3) rfl)
set_option maxRecDepth 20000 in
theorem tL_41_3 : (Cond.methodLink RL 169 yX9_findings) ∈ lw_tbl := tb_4 _ (List.mem_of_getElem? (l := tables_1_4) (i := 64) rfl)
set_option maxRecDepth 20000 in
theorem mL_41_4 : (Cond.instanceMethod yX9_findings) ∈ wsL_law := inr_41 _ (List.mem_of_getElem? (l := wsL_law_r41) (i := 4) rfl)
set_option maxRecDepth 20000 in
theorem tL_41_4 : (Cond.instanceMethod yX9_findings) ∈ lw_tbl := tb_4 _ (List.mem_of_getElem? (l := tables_1_4) (i := 65) rfl)
set_option maxRecDepth 20000 in
theorem mL_41_5 : (Cond.selects RX9 yX9_findings yX9_findings) ∈ wsL_law := inr_41 _ (List.mem_of_getElem? (l := wsL_law_r41) (i := 5) rfl)
set_option maxRecDepth 20000 in
theorem tL_41_5 : (Cond.selects RX9 yX9_findings yX9_findings) ∈ lw_tbl := tb_4 _ (List.mem_of_getElem? (l := tables_1_4) (i := 66) rfl)
set_option maxRecDepth 20000 in
theorem mL_41_6 : (Cond.code yX9_findings cX9_findings 2 (some .int)) ∈ wsL_law := inr_41 _ (List.mem_of_getElem? (l := wsL_law_r41) (i := 6) rfl)
set_option maxRecDepth 20000 in
theorem tL_41_6 : (Cond.code yX9_findings cX9_findings 2 (some .int)) ∈ lw_tbl := tb_4 _ (List.mem_of_getElem? (l := tables_1_4) (i := 67) rfl)
set_option maxRecDepth 20000 in
theorem mL_41_7 : (Cond.methodLink RL 172 yX10_findings) ∈ wsL_law := inr_41 _ (List.mem_of_getElem? (l := wsL_law_r41) (i := 7) rfl)
set_option maxRecDepth 20000 in
theorem tL_41_7 : (Cond.methodLink RL 172 yX10_findings) ∈ lw_tbl := tb_6 _ (List.mem_of_getElem? (l := tables_1_6) (i := 22) rfl)
set_option maxRecDepth 20000 in
theorem mL_41_8 : (Cond.instanceMethod yX10_findings) ∈ wsL_law := inr_41 _ (List.mem_of_getElem? (l := wsL_law_r41) (i := 8) rfl)
set_option maxRecDepth 20000 in
theorem tL_41_8 : (Cond.instanceMethod yX10_findings) ∈ lw_tbl := tb_6 _ (List.mem_of_getElem? (l := tables_1_6) (i := 23) rfl)
set_option maxRecDepth 20000 in
theorem mL_41_9 : (Cond.selects RX10 yX10_findings yX10_findings) ∈ wsL_law := inr_41 _ (List.mem_of_getElem? (l := wsL_law_r41) (i := 9) rfl)
set_option maxRecDepth 20000 in
theorem tL_41_9 : (Cond.selects RX10 yX10_findings yX10_findings) ∈ lw_tbl := tb_6 _ (List.mem_of_getElem? (l := tables_1_6) (i := 24) rfl)
set_option maxRecDepth 20000 in
theorem mL_41_10 : (Cond.code yX10_findings cX10_findings 2 (some .int)) ∈ wsL_law := inr_41 _ (List.mem_of_getElem? (l := wsL_law_r41) (i := 10) rfl)
set_option maxRecDepth 20000 in
theorem tL_41_10 : (Cond.code yX10_findings cX10_findings 2 (some .int)) ∈ lw_tbl := tb_6 _ (List.mem_of_getElem? (l := tables_1_6) (i := 25) rfl)
set_option maxRecDepth 20000 in
theorem mL_41_11 : (Cond.methodLink RL 173 yX9_digest) ∈ wsL_law := inr_41 _ (List.mem_of_getElem? (l := wsL_law_r41) (i := 11) rfl)
set_option maxRecDepth 20000 in
theorem tL_41_11 : (Cond.methodLink RL 173 yX9_digest) ∈ lw_tbl := tb_4 _ (List.mem_of_getElem? (l := tables_1_4) (i := 68) rfl)
set_option maxRecDepth 20000 in
theorem mL_41_12 : (Cond.instanceMethod yX9_digest) ∈ wsL_law := inr_41 _ (List.mem_of_getElem? (l := wsL_law_r41) (i := 12) rfl)
set_option maxRecDepth 20000 in
theorem tL_41_12 : (Cond.instanceMethod yX9_digest) ∈ lw_tbl := tb_4 _ (List.mem_of_getElem? (l := tables_1_4) (i := 69) rfl)
set_option maxRecDepth 20000 in
theorem mL_41_13 : (Cond.selects RX9 yX9_digest yX9_digest) ∈ wsL_law := inr_41 _ (List.mem_of_getElem? (l := wsL_law_r41) (i := 13) rfl)
set_option maxRecDepth 20000 in
theorem tL_41_13 : (Cond.selects RX9 yX9_digest yX9_digest) ∈ lw_tbl := tb_4 _ (List.mem_of_getElem? (l := tables_1_4) (i := 70) rfl)
set_option maxRecDepth 20000 in
theorem mL_41_14 : (Cond.code yX9_digest cX9_digest 4 (some .long)) ∈ wsL_law := inr_41 _ (List.mem_of_getElem? (l := wsL_law_r41) (i := 14) rfl)
set_option maxRecDepth 20000 in
theorem tL_41_14 : (Cond.code yX9_digest cX9_digest 4 (some .long)) ∈ lw_tbl := tb_4 _ (List.mem_of_getElem? (l := tables_1_4) (i := 71) rfl)
set_option maxRecDepth 20000 in
theorem mL_41_15 : (Cond.constantLong RX9 357 (17)) ∈ wsL_law := inr_41 _ (List.mem_of_getElem? (l := wsL_law_r41) (i := 15) rfl)
set_option maxRecDepth 20000 in
theorem tL_41_15 : (Cond.constantLong RX9 357 (17)) ∈ lw_tbl := tb_4 _ (List.mem_of_getElem? (l := tables_1_4) (i := 72) rfl)
set_option maxRecDepth 20000 in
theorem mL_41_16 : (Cond.constantLong RX9 359 (31)) ∈ wsL_law := inr_41 _ (List.mem_of_getElem? (l := wsL_law_r41) (i := 16) rfl)
set_option maxRecDepth 20000 in
theorem tL_41_16 : (Cond.constantLong RX9 359 (31)) ∈ lw_tbl := tb_4 _ (List.mem_of_getElem? (l := tables_1_4) (i := 73) rfl)
set_option maxRecDepth 20000 in
theorem mL_41_17 : (Cond.methodLink RX9 361 yX8_digestFrom) ∈ wsL_law := inr_41 _ (List.mem_of_getElem? (l := wsL_law_r41) (i := 17) rfl)
set_option maxRecDepth 20000 in
theorem tL_41_17 : (Cond.methodLink RX9 361 yX8_digestFrom) ∈ lw_tbl := tb_4 _ (List.mem_of_getElem? (l := tables_1_4) (i := 74) rfl)
set_option maxRecDepth 20000 in
theorem mL_41_18 : (Cond.instanceMethod yX8_digestFrom) ∈ wsL_law := inr_41 _ (List.mem_of_getElem? (l := wsL_law_r41) (i := 18) rfl)
set_option maxRecDepth 20000 in
theorem tL_41_18 : (Cond.instanceMethod yX8_digestFrom) ∈ lw_tbl := tb_4 _ (List.mem_of_getElem? (l := tables_1_4) (i := 75) rfl)
set_option maxRecDepth 20000 in
theorem mL_41_19 : (Cond.selects RX8 yX8_digestFrom yX8_digestFrom) ∈ wsL_law := inr_41 _ (List.mem_of_getElem? (l := wsL_law_r41) (i := 19) rfl)
set_option maxRecDepth 20000 in
theorem tL_41_19 : (Cond.selects RX8 yX8_digestFrom yX8_digestFrom) ∈ lw_tbl := tb_4 _ (List.mem_of_getElem? (l := tables_1_4) (i := 76) rfl)
set_option maxRecDepth 20000 in
theorem mL_41_20 : (Cond.code yX8_digestFrom cX8_digestFrom 7 (some .long)) ∈ wsL_law := inr_41 _ (List.mem_of_getElem? (l := wsL_law_r41) (i := 20) rfl)
set_option maxRecDepth 20000 in
theorem tL_41_20 : (Cond.code yX8_digestFrom cX8_digestFrom 7 (some .long)) ∈ lw_tbl := tb_4 _ (List.mem_of_getElem? (l := tables_1_4) (i := 77) rfl)
set_option maxRecDepth 20000 in
theorem mL_41_21 : (Cond.constantLong RX8 70 (31)) ∈ wsL_law := inr_41 _ (List.mem_of_getElem? (l := wsL_law_r41) (i := 21) rfl)
set_option maxRecDepth 20000 in
theorem tL_41_21 : (Cond.constantLong RX8 70 (31)) ∈ lw_tbl := tb_4 _ (List.mem_of_getElem? (l := tables_1_4) (i := 78) rfl)
set_option maxRecDepth 20000 in
theorem mL_41_22 : (Cond.methodLink RX8 72 yX8_factOf) ∈ wsL_law := inr_41 _ (List.mem_of_getElem? (l := wsL_law_r41) (i := 22) rfl)
set_option maxRecDepth 20000 in
theorem tL_41_22 : (Cond.methodLink RX8 72 yX8_factOf) ∈ lw_tbl := tb_4 _ (List.mem_of_getElem? (l := tables_1_4) (i := 79) rfl)
set_option maxRecDepth 20000 in
theorem mL_41_23 : (Cond.methodLink RX9 365 yX2_digestCells) ∈ wsL_law := inr_41 _ (List.mem_of_getElem? (l := wsL_law_r41) (i := 23) rfl)
set_option maxRecDepth 20000 in
theorem tL_41_23 : (Cond.methodLink RX9 365 yX2_digestCells) ∈ lw_tbl := tb_4 _ (List.mem_of_getElem? (l := tables_1_4) (i := 80) rfl)
set_option maxRecDepth 20000 in
theorem tin_41 : ∀ w ∈ wsL_law_r41, w ∈ lw_tbl := List.forall_mem_cons.mpr ⟨tL_41_0, List.forall_mem_cons.mpr ⟨tL_41_1, List.forall_mem_cons.mpr ⟨tL_41_2, List.forall_mem_cons.mpr ⟨tL_41_3, List.forall_mem_cons.mpr ⟨tL_41_4, List.forall_mem_cons.mpr ⟨tL_41_5, List.forall_mem_cons.mpr ⟨tL_41_6, List.forall_mem_cons.mpr ⟨tL_41_7, List.forall_mem_cons.mpr ⟨tL_41_8, List.forall_mem_cons.mpr ⟨tL_41_9, List.forall_mem_cons.mpr ⟨tL_41_10, List.forall_mem_cons.mpr ⟨tL_41_11, List.forall_mem_cons.mpr ⟨tL_41_12, List.forall_mem_cons.mpr ⟨tL_41_13, List.forall_mem_cons.mpr ⟨tL_41_14, List.forall_mem_cons.mpr ⟨tL_41_15, List.forall_mem_cons.mpr ⟨tL_41_16, List.forall_mem_cons.mpr ⟨tL_41_17, List.forall_mem_cons.mpr ⟨tL_41_18, List.forall_mem_cons.mpr ⟨tL_41_19, List.forall_mem_cons.mpr ⟨tL_41_20, List.forall_mem_cons.mpr ⟨tL_41_21, List.forall_mem_cons.mpr ⟨tL_41_22, List.forall_mem_cons.mpr ⟨tL_41_23, List.forall_mem_nil _⟩⟩⟩⟩⟩⟩⟩⟩⟩⟩⟩⟩⟩⟩⟩⟩⟩⟩⟩⟩⟩⟩⟩⟩
set_option maxRecDepth 20000 in
theorem mL_42_0 : (Cond.instanceMethod yX2_digestCells) ∈ wsL_law := inr_42 _ (List.mem_of_getElem? (l := wsL_law_r42) (i := 0) rfl)
set_option maxRecDepth 20000 in
theorem tL_42_0 : (Cond.instanceMethod yX2_digestCells) ∈ lw_tbl := tb_4 _ (List.mem_of_getElem? (l := tables_1_4) (i := 81) rfl)
set_option maxRecDepth 20000 in
theorem mL_42_1 : (Cond.selects RX2 yX2_digestCells yX2_digestCells) ∈ wsL_law := inr_42 _ (List.mem_of_getElem? (l := wsL_law_r42) (i := 1) rfl)
set_option maxRecDepth 20000 in
theorem tL_42_1 : (Cond.selects RX2 yX2_digestCells yX2_digestCells) ∈ lw_tbl := tb_4 _ (List.mem_of_getElem? (l := tables_1_4) (i := 82) rfl)
set_option maxRecDepth 20000 in
theorem mL_42_2 : (Cond.code yX2_digestCells cX2_digestCells 7 (some .long)) ∈ wsL_law := inr_42 _ (List.mem_of_getElem? (l := wsL_law_r42) (i := 2) rfl)
set_option maxRecDepth 20000 in
theorem tL_42_2 : (Cond.code yX2_digestCells cX2_digestCells 7 (some .long)) ∈ lw_tbl := tb_4 _ (List.mem_of_getElem? (l := tables_1_4) (i := 83) rfl)
set_option maxRecDepth 20000 in
theorem mL_42_3 : (Cond.constantLong RX2 39 (31)) ∈ wsL_law := inr_42 _ (List.mem_of_getElem? (l := wsL_law_r42) (i := 3) rfl)
set_option maxRecDepth 20000 in
theorem tL_42_3 : (Cond.constantLong RX2 39 (31)) ∈ lw_tbl := tb_4 _ (List.mem_of_getElem? (l := tables_1_4) (i := 84) rfl)
set_option maxRecDepth 20000 in
theorem mL_42_4 : (Cond.methodLink RX2 41 yX2_valueAt) ∈ wsL_law := inr_42 _ (List.mem_of_getElem? (l := wsL_law_r42) (i := 4) rfl)
set_option maxRecDepth 20000 in
theorem tL_42_4 : (Cond.methodLink RX2 41 yX2_valueAt) ∈ lw_tbl := tb_4 _ (List.mem_of_getElem? (l := tables_1_4) (i := 85) rfl)
set_option maxRecDepth 20000 in
theorem mL_42_5 : (Cond.methodLink RX9 368 yX2_digestLayers) ∈ wsL_law := inr_42 _ (List.mem_of_getElem? (l := wsL_law_r42) (i := 5) rfl)
set_option maxRecDepth 20000 in
theorem tL_42_5 : (Cond.methodLink RX9 368 yX2_digestLayers) ∈ lw_tbl := tb_4 _ (List.mem_of_getElem? (l := tables_1_4) (i := 86) rfl)
set_option maxRecDepth 20000 in
theorem mL_42_6 : (Cond.instanceMethod yX2_digestLayers) ∈ wsL_law := inr_42 _ (List.mem_of_getElem? (l := wsL_law_r42) (i := 6) rfl)
set_option maxRecDepth 20000 in
theorem tL_42_6 : (Cond.instanceMethod yX2_digestLayers) ∈ lw_tbl := tb_4 _ (List.mem_of_getElem? (l := tables_1_4) (i := 87) rfl)
set_option maxRecDepth 20000 in
theorem mL_42_7 : (Cond.selects RX2 yX2_digestLayers yX2_digestLayers) ∈ wsL_law := inr_42 _ (List.mem_of_getElem? (l := wsL_law_r42) (i := 7) rfl)
set_option maxRecDepth 20000 in
theorem tL_42_7 : (Cond.selects RX2 yX2_digestLayers yX2_digestLayers) ∈ lw_tbl := tb_4 _ (List.mem_of_getElem? (l := tables_1_4) (i := 88) rfl)
set_option maxRecDepth 20000 in
theorem mL_42_8 : (Cond.code yX2_digestLayers cX2_digestLayers 7 (some .long)) ∈ wsL_law := inr_42 _ (List.mem_of_getElem? (l := wsL_law_r42) (i := 8) rfl)
set_option maxRecDepth 20000 in
theorem tL_42_8 : (Cond.code yX2_digestLayers cX2_digestLayers 7 (some .long)) ∈ lw_tbl := tb_4 _ (List.mem_of_getElem? (l := tables_1_4) (i := 89) rfl)
set_option maxRecDepth 20000 in
theorem mL_42_9 : (Cond.methodLink RX2 45 yX2_factOf) ∈ wsL_law := inr_42 _ (List.mem_of_getElem? (l := wsL_law_r42) (i := 9) rfl)
set_option maxRecDepth 20000 in
theorem tL_42_9 : (Cond.methodLink RX2 45 yX2_factOf) ∈ lw_tbl := tb_4 _ (List.mem_of_getElem? (l := tables_1_4) (i := 90) rfl)
set_option maxRecDepth 20000 in
theorem mL_42_10 : (Cond.methodLink RX9 371 yX5_digestFrom) ∈ wsL_law := inr_42 _ (List.mem_of_getElem? (l := wsL_law_r42) (i := 10) rfl)
set_option maxRecDepth 20000 in
theorem tL_42_10 : (Cond.methodLink RX9 371 yX5_digestFrom) ∈ lw_tbl := tb_4 _ (List.mem_of_getElem? (l := tables_1_4) (i := 91) rfl)
set_option maxRecDepth 20000 in
theorem mL_42_11 : (Cond.instanceMethod yX5_digestFrom) ∈ wsL_law := inr_42 _ (List.mem_of_getElem? (l := wsL_law_r42) (i := 11) rfl)
set_option maxRecDepth 20000 in
theorem tL_42_11 : (Cond.instanceMethod yX5_digestFrom) ∈ lw_tbl := tb_4 _ (List.mem_of_getElem? (l := tables_1_4) (i := 92) rfl)
set_option maxRecDepth 20000 in
theorem mL_42_12 : (Cond.selects RX5 yX5_digestFrom yX5_digestFrom) ∈ wsL_law := inr_42 _ (List.mem_of_getElem? (l := wsL_law_r42) (i := 12) rfl)
set_option maxRecDepth 20000 in
theorem tL_42_12 : (Cond.selects RX5 yX5_digestFrom yX5_digestFrom) ∈ lw_tbl := tb_4 _ (List.mem_of_getElem? (l := tables_1_4) (i := 93) rfl)
set_option maxRecDepth 20000 in
theorem mL_42_13 : (Cond.code yX5_digestFrom cX5_digestFrom 7 (some .long)) ∈ wsL_law := inr_42 _ (List.mem_of_getElem? (l := wsL_law_r42) (i := 13) rfl)
set_option maxRecDepth 20000 in
theorem tL_42_13 : (Cond.code yX5_digestFrom cX5_digestFrom 7 (some .long)) ∈ lw_tbl := tb_4 _ (List.mem_of_getElem? (l := tables_1_4) (i := 94) rfl)
set_option maxRecDepth 20000 in
theorem mL_42_14 : (Cond.constantLong RX5 33 (31)) ∈ wsL_law := inr_42 _ (List.mem_of_getElem? (l := wsL_law_r42) (i := 14) rfl)
set_option maxRecDepth 20000 in
theorem tL_42_14 : (Cond.constantLong RX5 33 (31)) ∈ lw_tbl := tb_4 _ (List.mem_of_getElem? (l := tables_1_4) (i := 95) rfl)
set_option maxRecDepth 20000 in
theorem mL_42_15 : (Cond.methodLink RL 177 yX10_digest) ∈ wsL_law := inr_42 _ (List.mem_of_getElem? (l := wsL_law_r42) (i := 15) rfl)
set_option maxRecDepth 20000 in
theorem tL_42_15 : (Cond.methodLink RL 177 yX10_digest) ∈ lw_tbl := tb_6 _ (List.mem_of_getElem? (l := tables_1_6) (i := 26) rfl)
set_option maxRecDepth 20000 in
theorem mL_42_16 : (Cond.instanceMethod yX10_digest) ∈ wsL_law := inr_42 _ (List.mem_of_getElem? (l := wsL_law_r42) (i := 16) rfl)
set_option maxRecDepth 20000 in
theorem tL_42_16 : (Cond.instanceMethod yX10_digest) ∈ lw_tbl := tb_6 _ (List.mem_of_getElem? (l := tables_1_6) (i := 27) rfl)
set_option maxRecDepth 20000 in
theorem mL_42_17 : (Cond.selects RX10 yX10_digest yX10_digest) ∈ wsL_law := inr_42 _ (List.mem_of_getElem? (l := wsL_law_r42) (i := 17) rfl)
set_option maxRecDepth 20000 in
theorem tL_42_17 : (Cond.selects RX10 yX10_digest yX10_digest) ∈ lw_tbl := tb_6 _ (List.mem_of_getElem? (l := tables_1_6) (i := 28) rfl)
set_option maxRecDepth 20000 in
theorem mL_42_18 : (Cond.code yX10_digest cX10_digest 6 (some .long)) ∈ wsL_law := inr_42 _ (List.mem_of_getElem? (l := wsL_law_r42) (i := 18) rfl)
set_option maxRecDepth 20000 in
theorem tL_42_18 : (Cond.code yX10_digest cX10_digest 6 (some .long)) ∈ lw_tbl := tb_6 _ (List.mem_of_getElem? (l := tables_1_6) (i := 29) rfl)
set_option maxRecDepth 20000 in
theorem mL_42_19 : (Cond.constantLong RX10 253 (17)) ∈ wsL_law := inr_42 _ (List.mem_of_getElem? (l := wsL_law_r42) (i := 19) rfl)
set_option maxRecDepth 20000 in
theorem tL_42_19 : (Cond.constantLong RX10 253 (17)) ∈ lw_tbl := tb_6 _ (List.mem_of_getElem? (l := tables_1_6) (i := 30) rfl)
set_option maxRecDepth 20000 in
theorem mL_42_20 : (Cond.constantLong RX10 255 (31)) ∈ wsL_law := inr_42 _ (List.mem_of_getElem? (l := wsL_law_r42) (i := 20) rfl)
set_option maxRecDepth 20000 in
theorem tL_42_20 : (Cond.constantLong RX10 255 (31)) ∈ lw_tbl := tb_6 _ (List.mem_of_getElem? (l := tables_1_6) (i := 31) rfl)
set_option maxRecDepth 20000 in
theorem tin_42 : ∀ w ∈ wsL_law_r42, w ∈ lw_tbl := List.forall_mem_cons.mpr ⟨tL_42_0, List.forall_mem_cons.mpr ⟨tL_42_1, List.forall_mem_cons.mpr ⟨tL_42_2, List.forall_mem_cons.mpr ⟨tL_42_3, List.forall_mem_cons.mpr ⟨tL_42_4, List.forall_mem_cons.mpr ⟨tL_42_5, List.forall_mem_cons.mpr ⟨tL_42_6, List.forall_mem_cons.mpr ⟨tL_42_7, List.forall_mem_cons.mpr ⟨tL_42_8, List.forall_mem_cons.mpr ⟨tL_42_9, List.forall_mem_cons.mpr ⟨tL_42_10, List.forall_mem_cons.mpr ⟨tL_42_11, List.forall_mem_cons.mpr ⟨tL_42_12, List.forall_mem_cons.mpr ⟨tL_42_13, List.forall_mem_cons.mpr ⟨tL_42_14, List.forall_mem_cons.mpr ⟨tL_42_15, List.forall_mem_cons.mpr ⟨tL_42_16, List.forall_mem_cons.mpr ⟨tL_42_17, List.forall_mem_cons.mpr ⟨tL_42_18, List.forall_mem_cons.mpr ⟨tL_42_19, List.forall_mem_cons.mpr ⟨tL_42_20, List.forall_mem_nil _⟩⟩⟩⟩⟩⟩⟩⟩⟩⟩⟩⟩⟩⟩⟩⟩⟩⟩⟩⟩⟩
