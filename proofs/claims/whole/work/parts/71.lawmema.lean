set_option maxRecDepth 20000 in
theorem mL_1_0 : (Cond.classLink RL 7 RX9) ∈ wsL_law := inr_1 _ (List.mem_of_getElem? (l := wsL_law_r1) (i := 0) rfl)
set_option maxRecDepth 20000 in
theorem tL_1_0 : (Cond.classLink RL 7 RX9) ∈ lw_tbl := tb_1 _ (List.mem_of_getElem? (l := tables_1_1) (i := 16) rfl)
set_option maxRecDepth 20000 in
theorem mL_1_1 : (Cond.instantiable RX9 14) ∈ wsL_law := inr_1 _ (List.mem_of_getElem? (l := wsL_law_r1) (i := 1) rfl)
set_option maxRecDepth 20000 in
theorem tL_1_1 : (Cond.instantiable RX9 14) ∈ lw_tbl := tb_1 _ (List.mem_of_getElem? (l := tables_1_1) (i := 17) rfl)
set_option maxRecDepth 20000 in
theorem mL_1_2 : (Cond.initialized RX9) ∈ wsL_law := inr_1 _ (List.mem_of_getElem? (l := wsL_law_r1) (i := 2) rfl)
set_option maxRecDepth 20000 in
theorem tL_1_2 : (Cond.initialized RX9) ∈ lw_tbl := tb_1 _ (List.mem_of_getElem? (l := tables_1_1) (i := 1) rfl)
set_option maxRecDepth 20000 in
theorem mL_1_3 : (Cond.classLink RL 10 RX10) ∈ wsL_law := inr_1 _ (List.mem_of_getElem? (l := wsL_law_r1) (i := 3) rfl)
set_option maxRecDepth 20000 in
theorem tL_1_3 : (Cond.classLink RL 10 RX10) ∈ lw_tbl := tb_4 _ (List.mem_of_getElem? (l := tables_1_4) (i := 96) rfl)
set_option maxRecDepth 20000 in
theorem mL_1_4 : (Cond.instantiable RX10 44) ∈ wsL_law := inr_1 _ (List.mem_of_getElem? (l := wsL_law_r1) (i := 4) rfl)
set_option maxRecDepth 20000 in
theorem tL_1_4 : (Cond.instantiable RX10 44) ∈ lw_tbl := tb_4 _ (List.mem_of_getElem? (l := tables_1_4) (i := 97) rfl)
set_option maxRecDepth 20000 in
theorem mL_1_5 : (Cond.initialized RX10) ∈ wsL_law := inr_1 _ (List.mem_of_getElem? (l := wsL_law_r1) (i := 5) rfl)
set_option maxRecDepth 20000 in
theorem tL_1_5 : (Cond.initialized RX10) ∈ lw_tbl := tb_1 _ (List.mem_of_getElem? (l := tables_1_1) (i := 12) rfl)
set_option maxRecDepth 20000 in
theorem mL_1_6 : (Cond.methodLink RL 9 yX9_init) ∈ wsL_law := inr_1 _ (List.mem_of_getElem? (l := wsL_law_r1) (i := 6) rfl)
set_option maxRecDepth 20000 in
theorem tL_1_6 : (Cond.methodLink RL 9 yX9_init) ∈ lw_tbl := tb_1 _ (List.mem_of_getElem? (l := tables_1_1) (i := 18) rfl)
set_option maxRecDepth 20000 in
theorem mL_1_7 : (Cond.instanceMethod yX9_init) ∈ wsL_law := inr_1 _ (List.mem_of_getElem? (l := wsL_law_r1) (i := 7) rfl)
set_option maxRecDepth 20000 in
theorem tL_1_7 : (Cond.instanceMethod yX9_init) ∈ lw_tbl := tb_1 _ (List.mem_of_getElem? (l := tables_1_1) (i := 19) rfl)
set_option maxRecDepth 20000 in
theorem mL_1_8 : (Cond.code yX9_init cX9_init 2 none) ∈ wsL_law := inr_1 _ (List.mem_of_getElem? (l := wsL_law_r1) (i := 8) rfl)
set_option maxRecDepth 20000 in
theorem tL_1_8 : (Cond.code yX9_init cX9_init 2 none) ∈ lw_tbl := tb_1 _ (List.mem_of_getElem? (l := tables_1_1) (i := 20) rfl)
set_option maxRecDepth 20000 in
theorem mL_1_9 : (Cond.methodLink RX9 1 objectInit) ∈ wsL_law := inr_1 _ (List.mem_of_getElem? (l := wsL_law_r1) (i := 9) rfl)
set_option maxRecDepth 20000 in
theorem tL_1_9 : (Cond.methodLink RX9 1 objectInit) ∈ lw_tbl := tb_1 _ (List.mem_of_getElem? (l := tables_1_1) (i := 21) rfl)
set_option maxRecDepth 20000 in
theorem mL_1_10 : (Cond.instanceMethod objectInit) ∈ wsL_law := inr_1 _ (List.mem_of_getElem? (l := wsL_law_r1) (i := 10) rfl)
set_option maxRecDepth 20000 in
theorem tL_1_10 : (Cond.instanceMethod objectInit) ∈ lw_tbl := tb_1 _ (List.mem_of_getElem? (l := tables_1_1) (i := 22) rfl)
set_option maxRecDepth 20000 in
theorem mL_1_11 : (Cond.code objectInit ⟨#[0xb1]⟩ 1 none) ∈ wsL_law := inr_1 _ (List.mem_of_getElem? (l := wsL_law_r1) (i := 11) rfl)
set_option maxRecDepth 20000 in
theorem tL_1_11 : (Cond.code objectInit ⟨#[0xb1]⟩ 1 none) ∈ lw_tbl := tb_1 _ (List.mem_of_getElem? (l := tables_1_1) (i := 23) rfl)
set_option maxRecDepth 20000 in
theorem mL_1_12 : (Cond.classLink RX9 7 RX5) ∈ wsL_law := inr_1 _ (List.mem_of_getElem? (l := wsL_law_r1) (i := 12) rfl)
set_option maxRecDepth 20000 in
theorem tL_1_12 : (Cond.classLink RX9 7 RX5) ∈ lw_tbl := tb_1 _ (List.mem_of_getElem? (l := tables_1_1) (i := 24) rfl)
set_option maxRecDepth 20000 in
theorem mL_1_13 : (Cond.instantiable RX5 2) ∈ wsL_law := inr_1 _ (List.mem_of_getElem? (l := wsL_law_r1) (i := 13) rfl)
set_option maxRecDepth 20000 in
theorem tL_1_13 : (Cond.instantiable RX5 2) ∈ lw_tbl := tb_1 _ (List.mem_of_getElem? (l := tables_1_1) (i := 25) rfl)
set_option maxRecDepth 20000 in
theorem mL_1_14 : (Cond.initialized RX5) ∈ wsL_law := inr_1 _ (List.mem_of_getElem? (l := wsL_law_r1) (i := 14) rfl)
set_option maxRecDepth 20000 in
theorem tL_1_14 : (Cond.initialized RX5) ∈ lw_tbl := tb_1 _ (List.mem_of_getElem? (l := tables_1_1) (i := 2) rfl)
set_option maxRecDepth 20000 in
theorem mL_1_15 : (Cond.fieldLink RX9 10 "GhostSigns" "sheets" "LGhostSigns$Sheets;") ∈ wsL_law := inr_1 _ (List.mem_of_getElem? (l := wsL_law_r1) (i := 15) rfl)
set_option maxRecDepth 20000 in
theorem tL_1_15 : (Cond.fieldLink RX9 10 "GhostSigns" "sheets" "LGhostSigns$Sheets;") ∈ lw_tbl := tb_2 _ (List.mem_of_getElem? (l := tables_1_2) (i := 24) rfl)
set_option maxRecDepth 20000 in
theorem mL_1_16 : (Cond.classLink RX9 16 RX8) ∈ wsL_law := inr_1 _ (List.mem_of_getElem? (l := wsL_law_r1) (i := 16) rfl)
set_option maxRecDepth 20000 in
theorem tL_1_16 : (Cond.classLink RX9 16 RX8) ∈ lw_tbl := tb_1 _ (List.mem_of_getElem? (l := tables_1_1) (i := 46) rfl)
set_option maxRecDepth 20000 in
theorem mL_1_17 : (Cond.instantiable RX8 10) ∈ wsL_law := inr_1 _ (List.mem_of_getElem? (l := wsL_law_r1) (i := 17) rfl)
set_option maxRecDepth 20000 in
theorem tL_1_17 : (Cond.instantiable RX8 10) ∈ lw_tbl := tb_1 _ (List.mem_of_getElem? (l := tables_1_1) (i := 47) rfl)
set_option maxRecDepth 20000 in
theorem mL_1_18 : (Cond.initialized RX8) ∈ wsL_law := inr_1 _ (List.mem_of_getElem? (l := wsL_law_r1) (i := 18) rfl)
set_option maxRecDepth 20000 in
theorem tL_1_18 : (Cond.initialized RX8) ∈ lw_tbl := tb_1 _ (List.mem_of_getElem? (l := tables_1_1) (i := 4) rfl)
set_option maxRecDepth 20000 in
theorem mL_1_19 : (Cond.fieldLink RX9 19 "GhostSigns" "words" "LGhostSigns$Words;") ∈ wsL_law := inr_1 _ (List.mem_of_getElem? (l := wsL_law_r1) (i := 19) rfl)
set_option maxRecDepth 20000 in
theorem tL_1_19 : (Cond.fieldLink RX9 19 "GhostSigns" "words" "LGhostSigns$Words;") ∈ lw_tbl := tb_2 _ (List.mem_of_getElem? (l := tables_1_2) (i := 25) rfl)
set_option maxRecDepth 20000 in
theorem mL_1_20 : (Cond.classLink RX9 23 RX2) ∈ wsL_law := inr_1 _ (List.mem_of_getElem? (l := wsL_law_r1) (i := 20) rfl)
set_option maxRecDepth 20000 in
theorem tL_1_20 : (Cond.classLink RX9 23 RX2) ∈ lw_tbl := tb_1 _ (List.mem_of_getElem? (l := tables_1_1) (i := 92) rfl)
set_option maxRecDepth 20000 in
theorem mL_1_21 : (Cond.fieldLink RX9 25 "GhostSigns" "lines" "[LGhostSigns$Line;") ∈ wsL_law := inr_1 _ (List.mem_of_getElem? (l := wsL_law_r1) (i := 21) rfl)
set_option maxRecDepth 20000 in
theorem tL_1_21 : (Cond.fieldLink RX9 25 "GhostSigns" "lines" "[LGhostSigns$Line;") ∈ lw_tbl := tb_2 _ (List.mem_of_getElem? (l := tables_1_2) (i := 26) rfl)
set_option maxRecDepth 20000 in
theorem mL_1_22 : (Cond.instantiable RX2 5) ∈ wsL_law := inr_1 _ (List.mem_of_getElem? (l := wsL_law_r1) (i := 22) rfl)
set_option maxRecDepth 20000 in
theorem tL_1_22 : (Cond.instantiable RX2 5) ∈ lw_tbl := tb_1 _ (List.mem_of_getElem? (l := tables_1_1) (i := 94) rfl)
set_option maxRecDepth 20000 in
theorem mL_1_23 : (Cond.initialized RX2) ∈ wsL_law := inr_1 _ (List.mem_of_getElem? (l := wsL_law_r1) (i := 23) rfl)
set_option maxRecDepth 20000 in
theorem tL_1_23 : (Cond.initialized RX2) ∈ lw_tbl := tb_1 _ (List.mem_of_getElem? (l := tables_1_1) (i := 5) rfl)
set_option maxRecDepth 20000 in
theorem tin_1 : ∀ w ∈ wsL_law_r1, w ∈ lw_tbl := List.forall_mem_cons.mpr ⟨tL_1_0, List.forall_mem_cons.mpr ⟨tL_1_1, List.forall_mem_cons.mpr ⟨tL_1_2, List.forall_mem_cons.mpr ⟨tL_1_3, List.forall_mem_cons.mpr ⟨tL_1_4, List.forall_mem_cons.mpr ⟨tL_1_5, List.forall_mem_cons.mpr ⟨tL_1_6, List.forall_mem_cons.mpr ⟨tL_1_7, List.forall_mem_cons.mpr ⟨tL_1_8, List.forall_mem_cons.mpr ⟨tL_1_9, List.forall_mem_cons.mpr ⟨tL_1_10, List.forall_mem_cons.mpr ⟨tL_1_11, List.forall_mem_cons.mpr ⟨tL_1_12, List.forall_mem_cons.mpr ⟨tL_1_13, List.forall_mem_cons.mpr ⟨tL_1_14, List.forall_mem_cons.mpr ⟨tL_1_15, List.forall_mem_cons.mpr ⟨tL_1_16, List.forall_mem_cons.mpr ⟨tL_1_17, List.forall_mem_cons.mpr ⟨tL_1_18, List.forall_mem_cons.mpr ⟨tL_1_19, List.forall_mem_cons.mpr ⟨tL_1_20, List.forall_mem_cons.mpr ⟨tL_1_21, List.forall_mem_cons.mpr ⟨tL_1_22, List.forall_mem_cons.mpr ⟨tL_1_23, List.forall_mem_nil _⟩⟩⟩⟩⟩⟩⟩⟩⟩⟩⟩⟩⟩⟩⟩⟩⟩⟩⟩⟩⟩⟩⟩⟩
set_option maxRecDepth 20000 in
theorem mL_2_0 : (Cond.classLink RX9 30 RX6) ∈ wsL_law := inr_2 _ (List.mem_of_getElem? (l := wsL_law_r2) (i := 0) rfl)
set_option maxRecDepth 20000 in
theorem tL_2_0 : (Cond.classLink RX9 30 RX6) ∈ lw_tbl := tb_1 _ (List.mem_of_getElem? (l := tables_1_1) (i := 122) rfl)
set_option maxRecDepth 20000 in
theorem mL_2_1 : (Cond.instantiable RX6 6) ∈ wsL_law := inr_2 _ (List.mem_of_getElem? (l := wsL_law_r2) (i := 1) rfl)
set_option maxRecDepth 20000 in
theorem tL_2_1 : (Cond.instantiable RX6 6) ∈ lw_tbl := tb_1 _ (List.mem_of_getElem? (l := tables_1_1) (i := 123) rfl)
set_option maxRecDepth 20000 in
theorem mL_2_2 : (Cond.initialized RX6) ∈ wsL_law := inr_2 _ (List.mem_of_getElem? (l := wsL_law_r2) (i := 2) rfl)
set_option maxRecDepth 20000 in
theorem tL_2_2 : (Cond.initialized RX6) ∈ lw_tbl := tb_1 _ (List.mem_of_getElem? (l := tables_1_1) (i := 6) rfl)
set_option maxRecDepth 20000 in
theorem mL_2_3 : (Cond.fieldLink RX9 33 "GhostSigns" "street" "LGhostSigns$Street;") ∈ wsL_law := inr_2 _ (List.mem_of_getElem? (l := wsL_law_r2) (i := 3) rfl)
set_option maxRecDepth 20000 in
theorem tL_2_3 : (Cond.fieldLink RX9 33 "GhostSigns" "street" "LGhostSigns$Street;") ∈ lw_tbl := tb_2 _ (List.mem_of_getElem? (l := tables_1_2) (i := 27) rfl)
set_option maxRecDepth 20000 in
theorem mL_2_4 : (Cond.classLink RX9 37 RX1) ∈ wsL_law := inr_2 _ (List.mem_of_getElem? (l := wsL_law_r2) (i := 4) rfl)
set_option maxRecDepth 20000 in
theorem tL_2_4 : (Cond.classLink RX9 37 RX1) ∈ lw_tbl := tb_1 _ (List.mem_of_getElem? (l := tables_1_1) (i := 150) rfl)
set_option maxRecDepth 20000 in
theorem mL_2_5 : (Cond.instantiable RX1 5) ∈ wsL_law := inr_2 _ (List.mem_of_getElem? (l := wsL_law_r2) (i := 5) rfl)
set_option maxRecDepth 20000 in
theorem tL_2_5 : (Cond.instantiable RX1 5) ∈ lw_tbl := tb_1 _ (List.mem_of_getElem? (l := tables_1_1) (i := 151) rfl)
set_option maxRecDepth 20000 in
theorem mL_2_6 : (Cond.initialized RX1) ∈ wsL_law := inr_2 _ (List.mem_of_getElem? (l := wsL_law_r2) (i := 6) rfl)
set_option maxRecDepth 20000 in
theorem tL_2_6 : (Cond.initialized RX1) ∈ lw_tbl := tb_1 _ (List.mem_of_getElem? (l := tables_1_1) (i := 7) rfl)
set_option maxRecDepth 20000 in
theorem mL_2_7 : (Cond.fieldLink RX9 40 "GhostSigns" "lights" "LGhostSigns$Lights;") ∈ wsL_law := inr_2 _ (List.mem_of_getElem? (l := wsL_law_r2) (i := 7) rfl)
set_option maxRecDepth 20000 in
theorem tL_2_7 : (Cond.fieldLink RX9 40 "GhostSigns" "lights" "LGhostSigns$Lights;") ∈ lw_tbl := tb_2 _ (List.mem_of_getElem? (l := tables_1_2) (i := 28) rfl)
set_option maxRecDepth 20000 in
theorem mL_2_8 : (Cond.classLink RX9 44 RX0) ∈ wsL_law := inr_2 _ (List.mem_of_getElem? (l := wsL_law_r2) (i := 8) rfl)
set_option maxRecDepth 20000 in
theorem tL_2_8 : (Cond.classLink RX9 44 RX0) ∈ lw_tbl := tb_1 _ (List.mem_of_getElem? (l := tables_1_1) (i := 173) rfl)
set_option maxRecDepth 20000 in
theorem mL_2_9 : (Cond.instantiable RX0 3) ∈ wsL_law := inr_2 _ (List.mem_of_getElem? (l := wsL_law_r2) (i := 9) rfl)
set_option maxRecDepth 20000 in
theorem tL_2_9 : (Cond.instantiable RX0 3) ∈ lw_tbl := tb_1 _ (List.mem_of_getElem? (l := tables_1_1) (i := 174) rfl)
set_option maxRecDepth 20000 in
theorem mL_2_10 : (Cond.initialized RX0) ∈ wsL_law := inr_2 _ (List.mem_of_getElem? (l := wsL_law_r2) (i := 10) rfl)
set_option maxRecDepth 20000 in
theorem tL_2_10 : (Cond.initialized RX0) ∈ lw_tbl := tb_1 _ (List.mem_of_getElem? (l := tables_1_1) (i := 8) rfl)
set_option maxRecDepth 20000 in
theorem mL_2_11 : (Cond.fieldLink RX9 47 "GhostSigns" "hands" "LGhostSigns$Hands;") ∈ wsL_law := inr_2 _ (List.mem_of_getElem? (l := wsL_law_r2) (i := 11) rfl)
set_option maxRecDepth 20000 in
theorem tL_2_11 : (Cond.fieldLink RX9 47 "GhostSigns" "hands" "LGhostSigns$Hands;") ∈ lw_tbl := tb_2 _ (List.mem_of_getElem? (l := tables_1_2) (i := 29) rfl)
set_option maxRecDepth 20000 in
theorem mL_2_12 : (Cond.classLink RX9 51 RX7) ∈ wsL_law := inr_2 _ (List.mem_of_getElem? (l := wsL_law_r2) (i := 12) rfl)
set_option maxRecDepth 20000 in
theorem tL_2_12 : (Cond.classLink RX9 51 RX7) ∈ lw_tbl := tb_1 _ (List.mem_of_getElem? (l := tables_1_1) (i := 190) rfl)
set_option maxRecDepth 20000 in
theorem mL_2_13 : (Cond.instantiable RX7 4) ∈ wsL_law := inr_2 _ (List.mem_of_getElem? (l := wsL_law_r2) (i := 13) rfl)
set_option maxRecDepth 20000 in
theorem tL_2_13 : (Cond.instantiable RX7 4) ∈ lw_tbl := tb_1 _ (List.mem_of_getElem? (l := tables_1_1) (i := 191) rfl)
set_option maxRecDepth 20000 in
theorem mL_2_14 : (Cond.initialized RX7) ∈ wsL_law := inr_2 _ (List.mem_of_getElem? (l := wsL_law_r2) (i := 14) rfl)
set_option maxRecDepth 20000 in
theorem tL_2_14 : (Cond.initialized RX7) ∈ lw_tbl := tb_1 _ (List.mem_of_getElem? (l := tables_1_1) (i := 9) rfl)
set_option maxRecDepth 20000 in
theorem mL_2_15 : (Cond.fieldLink RX9 54 "GhostSigns" "walls" "LGhostSigns$Walls;") ∈ wsL_law := inr_2 _ (List.mem_of_getElem? (l := wsL_law_r2) (i := 15) rfl)
set_option maxRecDepth 20000 in
theorem tL_2_15 : (Cond.fieldLink RX9 54 "GhostSigns" "walls" "LGhostSigns$Walls;") ∈ lw_tbl := tb_2 _ (List.mem_of_getElem? (l := tables_1_2) (i := 30) rfl)
set_option maxRecDepth 20000 in
theorem mL_2_16 : (Cond.classLink RX9 58 RX4) ∈ wsL_law := inr_2 _ (List.mem_of_getElem? (l := wsL_law_r2) (i := 16) rfl)
set_option maxRecDepth 20000 in
theorem tL_2_16 : (Cond.classLink RX9 58 RX4) ∈ lw_tbl := tb_1 _ (List.mem_of_getElem? (l := tables_1_1) (i := 211) rfl)
set_option maxRecDepth 20000 in
theorem mL_2_17 : (Cond.instantiable RX4 5) ∈ wsL_law := inr_2 _ (List.mem_of_getElem? (l := wsL_law_r2) (i := 17) rfl)
set_option maxRecDepth 20000 in
theorem tL_2_17 : (Cond.instantiable RX4 5) ∈ lw_tbl := tb_1 _ (List.mem_of_getElem? (l := tables_1_1) (i := 212) rfl)
set_option maxRecDepth 20000 in
theorem mL_2_18 : (Cond.initialized RX4) ∈ wsL_law := inr_2 _ (List.mem_of_getElem? (l := wsL_law_r2) (i := 18) rfl)
set_option maxRecDepth 20000 in
theorem tL_2_18 : (Cond.initialized RX4) ∈ lw_tbl := tb_1 _ (List.mem_of_getElem? (l := tables_1_1) (i := 10) rfl)
set_option maxRecDepth 20000 in
theorem mL_2_19 : (Cond.fieldLink RX9 61 "GhostSigns" "placesOfA" "LGhostSigns$Places;") ∈ wsL_law := inr_2 _ (List.mem_of_getElem? (l := wsL_law_r2) (i := 19) rfl)
set_option maxRecDepth 20000 in
theorem tL_2_19 : (Cond.fieldLink RX9 61 "GhostSigns" "placesOfA" "LGhostSigns$Places;") ∈ lw_tbl := tb_2 _ (List.mem_of_getElem? (l := tables_1_2) (i := 31) rfl)
set_option maxRecDepth 20000 in
theorem mL_2_20 : (Cond.fieldLink RX9 65 "GhostSigns" "placesOfB" "LGhostSigns$Places;") ∈ wsL_law := inr_2 _ (List.mem_of_getElem? (l := wsL_law_r2) (i := 20) rfl)
set_option maxRecDepth 20000 in
theorem tL_2_20 : (Cond.fieldLink RX9 65 "GhostSigns" "placesOfB" "LGhostSigns$Places;") ∈ lw_tbl := tb_2 _ (List.mem_of_getElem? (l := tables_1_2) (i := 32) rfl)
set_option maxRecDepth 20000 in
theorem mL_2_21 : (Cond.classLink RX9 68 RX3) ∈ wsL_law := inr_2 _ (List.mem_of_getElem? (l := wsL_law_r2) (i := 21) rfl)
set_option maxRecDepth 20000 in
theorem tL_2_21 : (Cond.classLink RX9 68 RX3) ∈ lw_tbl := tb_2 _ (List.mem_of_getElem? (l := tables_1_2) (i := 1) rfl)
set_option maxRecDepth 20000 in
theorem mL_2_22 : (Cond.instantiable RX3 4) ∈ wsL_law := inr_2 _ (List.mem_of_getElem? (l := wsL_law_r2) (i := 22) rfl)
set_option maxRecDepth 20000 in
theorem tL_2_22 : (Cond.instantiable RX3 4) ∈ lw_tbl := tb_2 _ (List.mem_of_getElem? (l := tables_1_2) (i := 2) rfl)
set_option maxRecDepth 20000 in
theorem mL_2_23 : (Cond.initialized RX3) ∈ wsL_law := inr_2 _ (List.mem_of_getElem? (l := wsL_law_r2) (i := 23) rfl)
set_option maxRecDepth 20000 in
theorem tL_2_23 : (Cond.initialized RX3) ∈ lw_tbl := tb_1 _ (List.mem_of_getElem? (l := tables_1_1) (i := 11) rfl)
set_option maxRecDepth 20000 in
theorem tin_2 : ∀ w ∈ wsL_law_r2, w ∈ lw_tbl := List.forall_mem_cons.mpr ⟨tL_2_0, List.forall_mem_cons.mpr ⟨tL_2_1, List.forall_mem_cons.mpr ⟨tL_2_2, List.forall_mem_cons.mpr ⟨tL_2_3, List.forall_mem_cons.mpr ⟨tL_2_4, List.forall_mem_cons.mpr ⟨tL_2_5, List.forall_mem_cons.mpr ⟨tL_2_6, List.forall_mem_cons.mpr ⟨tL_2_7, List.forall_mem_cons.mpr ⟨tL_2_8, List.forall_mem_cons.mpr ⟨tL_2_9, List.forall_mem_cons.mpr ⟨tL_2_10, List.forall_mem_cons.mpr ⟨tL_2_11, List.forall_mem_cons.mpr ⟨tL_2_12, List.forall_mem_cons.mpr ⟨tL_2_13, List.forall_mem_cons.mpr ⟨tL_2_14, List.forall_mem_cons.mpr ⟨tL_2_15, List.forall_mem_cons.mpr ⟨tL_2_16, List.forall_mem_cons.mpr ⟨tL_2_17, List.forall_mem_cons.mpr ⟨tL_2_18, List.forall_mem_cons.mpr ⟨tL_2_19, List.forall_mem_cons.mpr ⟨tL_2_20, List.forall_mem_cons.mpr ⟨tL_2_21, List.forall_mem_cons.mpr ⟨tL_2_22, List.forall_mem_cons.mpr ⟨tL_2_23, List.forall_mem_nil _⟩⟩⟩⟩⟩⟩⟩⟩⟩⟩⟩⟩⟩⟩⟩⟩⟩⟩⟩⟩⟩⟩⟩⟩
set_option maxRecDepth 20000 in
theorem mL_3_0 : (Cond.fieldLink RX9 71 "GhostSigns" "pair" "LGhostSigns$Pair;") ∈ wsL_law := inr_3 _ (List.mem_of_getElem? (l := wsL_law_r3) (i := 0) rfl)
set_option maxRecDepth 20000 in
theorem tL_3_0 : (Cond.fieldLink RX9 71 "GhostSigns" "pair" "LGhostSigns$Pair;") ∈ lw_tbl := tb_2 _ (List.mem_of_getElem? (l := tables_1_2) (i := 33) rfl)
set_option maxRecDepth 20000 in
theorem mL_3_1 : (Cond.arrayClass .int) ∈ wsL_law := inr_3 _ (List.mem_of_getElem? (l := wsL_law_r3) (i := 1) rfl)
set_option maxRecDepth 20000 in
theorem tL_3_1 : (Cond.arrayClass .int) ∈ lw_tbl := tb_1 _ (List.mem_of_getElem? (l := tables_1_1) (i := 45) rfl)
set_option maxRecDepth 20000 in
theorem mL_3_2 : (Cond.fieldLink RX9 75 "GhostSigns" "split" "[I") ∈ wsL_law := inr_3 _ (List.mem_of_getElem? (l := wsL_law_r3) (i := 2) rfl)
set_option maxRecDepth 20000 in
theorem tL_3_2 : (Cond.fieldLink RX9 75 "GhostSigns" "split" "[I") ∈ lw_tbl := tb_2 _ (List.mem_of_getElem? (l := tables_1_2) (i := 34) rfl)
set_option maxRecDepth 20000 in
theorem mL_3_3 : (Cond.fieldLink RX9 79 "GhostSigns" "timesFound" "[I") ∈ wsL_law := inr_3 _ (List.mem_of_getElem? (l := wsL_law_r3) (i := 3) rfl)
set_option maxRecDepth 20000 in
theorem tL_3_3 : (Cond.fieldLink RX9 79 "GhostSigns" "timesFound" "[I") ∈ lw_tbl := tb_2 _ (List.mem_of_getElem? (l := tables_1_2) (i := 35) rfl)
set_option maxRecDepth 20000 in
theorem mL_3_4 : (Cond.methodLink RX9 9 yX5_init) ∈ wsL_law := inr_3 _ (List.mem_of_getElem? (l := wsL_law_r3) (i := 4) rfl)
set_option maxRecDepth 20000 in
theorem tL_3_4 : (Cond.methodLink RX9 9 yX5_init) ∈ lw_tbl := tb_1 _ (List.mem_of_getElem? (l := tables_1_1) (i := 26) rfl)
set_option maxRecDepth 20000 in
theorem mL_3_5 : (Cond.instanceMethod yX5_init) ∈ wsL_law := inr_3 _ (List.mem_of_getElem? (l := wsL_law_r3) (i := 5) rfl)
set_option maxRecDepth 20000 in
theorem tL_3_5 : (Cond.instanceMethod yX5_init) ∈ lw_tbl := tb_1 _ (List.mem_of_getElem? (l := tables_1_1) (i := 27) rfl)
set_option maxRecDepth 20000 in
theorem mL_3_6 : (Cond.code yX5_init cX5_init 1 none) ∈ wsL_law := inr_3 _ (List.mem_of_getElem? (l := wsL_law_r3) (i := 6) rfl)
set_option maxRecDepth 20000 in
theorem tL_3_6 : (Cond.code yX5_init cX5_init 1 none) ∈ lw_tbl := tb_1 _ (List.mem_of_getElem? (l := tables_1_1) (i := 28) rfl)
set_option maxRecDepth 20000 in
theorem mL_3_7 : (Cond.methodLink RX5 1 objectInit) ∈ wsL_law := inr_3 _ (List.mem_of_getElem? (l := wsL_law_r3) (i := 7) rfl)
set_option maxRecDepth 20000 in
theorem tL_3_7 : (Cond.methodLink RX5 1 objectInit) ∈ lw_tbl := tb_1 _ (List.mem_of_getElem? (l := tables_1_1) (i := 29) rfl)
set_option maxRecDepth 20000 in
theorem mL_3_8 : (Cond.classLink RX5 9 "[[B") ∈ wsL_law := inr_3 _ (List.mem_of_getElem? (l := wsL_law_r3) (i := 8) rfl)
set_option maxRecDepth 20000 in
theorem tL_3_8 : (Cond.classLink RX5 9 "[[B") ∈ lw_tbl := tb_1 _ (List.mem_of_getElem? (l := tables_1_1) (i := 30) rfl)
set_option maxRecDepth 20000 in
theorem mL_3_9 : (Cond.arrayClass .byte) ∈ wsL_law := inr_3 _ (List.mem_of_getElem? (l := wsL_law_r3) (i := 9) rfl)
set_option maxRecDepth 20000 in
theorem tL_3_9 : (Cond.arrayClass .byte) ∈ lw_tbl := tb_1 _ (List.mem_of_getElem? (l := tables_1_1) (i := 44) rfl)
set_option maxRecDepth 20000 in
theorem mL_3_10 : (Cond.fieldLink RX5 11 "GhostSigns$Sheets" "rows" "[[B") ∈ wsL_law := inr_3 _ (List.mem_of_getElem? (l := wsL_law_r3) (i := 10) rfl)
set_option maxRecDepth 20000 in
theorem tL_3_10 : (Cond.fieldLink RX5 11 "GhostSigns$Sheets" "rows" "[[B") ∈ lw_tbl := tb_1 _ (List.mem_of_getElem? (l := tables_1_1) (i := 35) rfl)
set_option maxRecDepth 20000 in
theorem mL_3_11 : (Cond.fieldLink RX5 14 "GhostSigns$Sheets" "sizes" "[I") ∈ wsL_law := inr_3 _ (List.mem_of_getElem? (l := wsL_law_r3) (i := 11) rfl)
set_option maxRecDepth 20000 in
theorem tL_3_11 : (Cond.fieldLink RX5 14 "GhostSigns$Sheets" "sizes" "[I") ∈ lw_tbl := tb_1 _ (List.mem_of_getElem? (l := tables_1_1) (i := 37) rfl)
set_option maxRecDepth 20000 in
theorem mL_3_12 : (Cond.methodLink RX5 18 yJ7_fill_53178) ∈ wsL_law := inr_3 _ (List.mem_of_getElem? (l := wsL_law_r3) (i := 12) rfl)
set_option maxRecDepth 20000 in
theorem tL_3_12 : (Cond.methodLink RX5 18 yJ7_fill_53178) ∈ lw_tbl := tb_1 _ (List.mem_of_getElem? (l := tables_1_1) (i := 32) rfl)
set_option maxRecDepth 20000 in
theorem mL_3_13 : (Cond.static yJ7_fill_53178) ∈ wsL_law := inr_3 _ (List.mem_of_getElem? (l := wsL_law_r3) (i := 13) rfl)
set_option maxRecDepth 20000 in
theorem tL_3_13 : (Cond.static yJ7_fill_53178) ∈ lw_tbl := tb_1 _ (List.mem_of_getElem? (l := tables_1_1) (i := 33) rfl)
set_option maxRecDepth 20000 in
theorem mL_3_14 : (Cond.initialized RJ7) ∈ wsL_law := inr_3 _ (List.mem_of_getElem? (l := wsL_law_r3) (i := 14) rfl)
set_option maxRecDepth 20000 in
theorem tL_3_14 : (Cond.initialized RJ7) ∈ lw_tbl := tb_1 _ (List.mem_of_getElem? (l := tables_1_1) (i := 3) rfl)
set_option maxRecDepth 20000 in
theorem mL_3_15 : (Cond.code yJ7_fill_53178 cJ7_fill_53178 4 none) ∈ wsL_law := inr_3 _ (List.mem_of_getElem? (l := wsL_law_r3) (i := 15) rfl)
set_option maxRecDepth 20000 in
theorem tL_3_15 : (Cond.code yJ7_fill_53178 cJ7_fill_53178 4 none) ∈ lw_tbl := tb_1 _ (List.mem_of_getElem? (l := tables_1_1) (i := 34) rfl)
set_option maxRecDepth 20000 in
theorem mL_3_16 : (Cond.instanceMethod yX8_init) ∈ wsL_law := inr_3 _ (List.mem_of_getElem? (l := wsL_law_r3) (i := 16) rfl)
set_option maxRecDepth 20000 in
theorem tL_3_16 : (Cond.instanceMethod yX8_init) ∈ lw_tbl := tb_1 _ (List.mem_of_getElem? (l := tables_1_1) (i := 49) rfl)
set_option maxRecDepth 20000 in
theorem mL_3_17 : (Cond.code yX8_init cX8_init 1 none) ∈ wsL_law := inr_3 _ (List.mem_of_getElem? (l := wsL_law_r3) (i := 17) rfl)
set_option maxRecDepth 20000 in
theorem tL_3_17 : (Cond.code yX8_init cX8_init 1 none) ∈ lw_tbl := tb_1 _ (List.mem_of_getElem? (l := tables_1_1) (i := 50) rfl)
set_option maxRecDepth 20000 in
theorem mL_3_18 : (Cond.methodLink RX8 3 objectInit) ∈ wsL_law := inr_3 _ (List.mem_of_getElem? (l := wsL_law_r3) (i := 18) rfl)
set_option maxRecDepth 20000 in
theorem tL_3_18 : (Cond.methodLink RX8 3 objectInit) ∈ lw_tbl := tb_1 _ (List.mem_of_getElem? (l := tables_1_1) (i := 51) rfl)
set_option maxRecDepth 20000 in
theorem mL_3_19 : (Cond.fieldLink RX8 11 "GhostSigns$Words" "strokes" "[I") ∈ wsL_law := inr_3 _ (List.mem_of_getElem? (l := wsL_law_r3) (i := 19) rfl)
set_option maxRecDepth 20000 in
theorem tL_3_19 : (Cond.fieldLink RX8 11 "GhostSigns$Words" "strokes" "[I") ∈ lw_tbl := tb_1 _ (List.mem_of_getElem? (l := tables_1_1) (i := 53) rfl)
set_option maxRecDepth 20000 in
theorem mL_3_20 : (Cond.classLink RX8 15 "[[B") ∈ wsL_law := inr_3 _ (List.mem_of_getElem? (l := wsL_law_r3) (i := 20) rfl)
set_option maxRecDepth 20000 in
theorem tL_3_20 : (Cond.classLink RX8 15 "[[B") ∈ lw_tbl := tb_1 _ (List.mem_of_getElem? (l := tables_1_1) (i := 52) rfl)
set_option maxRecDepth 20000 in
theorem mL_3_21 : (Cond.fieldLink RX8 17 "GhostSigns$Words" "letters" "[[B") ∈ wsL_law := inr_3 _ (List.mem_of_getElem? (l := wsL_law_r3) (i := 21) rfl)
set_option maxRecDepth 20000 in
theorem tL_3_21 : (Cond.fieldLink RX8 17 "GhostSigns$Words" "letters" "[[B") ∈ lw_tbl := tb_1 _ (List.mem_of_getElem? (l := tables_1_1) (i := 54) rfl)
set_option maxRecDepth 20000 in
theorem mL_3_22 : (Cond.fieldLink RX8 20 "GhostSigns$Words" "lengths" "[I") ∈ wsL_law := inr_3 _ (List.mem_of_getElem? (l := wsL_law_r3) (i := 22) rfl)
set_option maxRecDepth 20000 in
theorem tL_3_22 : (Cond.fieldLink RX8 20 "GhostSigns$Words" "lengths" "[I") ∈ lw_tbl := tb_1 _ (List.mem_of_getElem? (l := tables_1_1) (i := 55) rfl)
set_option maxRecDepth 20000 in
theorem mL_3_23 : (Cond.fieldLink RX8 23 "GhostSigns$Words" "kinds" "[I") ∈ wsL_law := inr_3 _ (List.mem_of_getElem? (l := wsL_law_r3) (i := 23) rfl)
set_option maxRecDepth 20000 in
theorem tL_3_23 : (Cond.fieldLink RX8 23 "GhostSigns$Words" "kinds" "[I") ∈ lw_tbl := tb_1 _ (List.mem_of_getElem? (l := tables_1_1) (i := 56) rfl)
set_option maxRecDepth 20000 in
theorem tin_3 : ∀ w ∈ wsL_law_r3, w ∈ lw_tbl := List.forall_mem_cons.mpr ⟨tL_3_0, List.forall_mem_cons.mpr ⟨tL_3_1, List.forall_mem_cons.mpr ⟨tL_3_2, List.forall_mem_cons.mpr ⟨tL_3_3, List.forall_mem_cons.mpr ⟨tL_3_4, List.forall_mem_cons.mpr ⟨tL_3_5, List.forall_mem_cons.mpr ⟨tL_3_6, List.forall_mem_cons.mpr ⟨tL_3_7, List.forall_mem_cons.mpr ⟨tL_3_8, List.forall_mem_cons.mpr ⟨tL_3_9, List.forall_mem_cons.mpr ⟨tL_3_10, List.forall_mem_cons.mpr ⟨tL_3_11, List.forall_mem_cons.mpr ⟨tL_3_12, List.forall_mem_cons.mpr ⟨tL_3_13, List.forall_mem_cons.mpr ⟨tL_3_14, List.forall_mem_cons.mpr ⟨tL_3_15, List.forall_mem_cons.mpr ⟨tL_3_16, List.forall_mem_cons.mpr ⟨tL_3_17, List.forall_mem_cons.mpr ⟨tL_3_18, List.forall_mem_cons.mpr ⟨tL_3_19, List.forall_mem_cons.mpr ⟨tL_3_20, List.forall_mem_cons.mpr ⟨tL_3_21, List.forall_mem_cons.mpr ⟨tL_3_22, List.forall_mem_cons.mpr ⟨tL_3_23, List.forall_mem_nil _⟩⟩⟩⟩⟩⟩⟩⟩⟩⟩⟩⟩⟩⟩⟩⟩⟩⟩⟩⟩⟩⟩⟩⟩
set_option maxRecDepth 20000 in
theorem mL_4_0 : (Cond.fieldLink RX8 26 "GhostSigns$Words" "firms" "[I") ∈ wsL_law := inr_4 _ (List.mem_of_getElem? (l := wsL_law_r4) (i := 0) rfl)
set_option maxRecDepth 20000 in
theorem tL_4_0 : (Cond.fieldLink RX8 26 "GhostSigns$Words" "firms" "[I") ∈ lw_tbl := tb_1 _ (List.mem_of_getElem? (l := tables_1_1) (i := 58) rfl)
set_option maxRecDepth 20000 in
theorem mL_4_1 : (Cond.fieldLink RX8 29 "GhostSigns$Words" "numbers" "[I") ∈ wsL_law := inr_4 _ (List.mem_of_getElem? (l := wsL_law_r4) (i := 1) rfl)
set_option maxRecDepth 20000 in
theorem tL_4_1 : (Cond.fieldLink RX8 29 "GhostSigns$Words" "numbers" "[I") ∈ lw_tbl := tb_1 _ (List.mem_of_getElem? (l := tables_1_1) (i := 60) rfl)
set_option maxRecDepth 20000 in
theorem mL_4_2 : (Cond.fieldLink RX8 32 "GhostSigns$Words" "froms" "[I") ∈ wsL_law := inr_4 _ (List.mem_of_getElem? (l := wsL_law_r4) (i := 2) rfl)
set_option maxRecDepth 20000 in
theorem tL_4_2 : (Cond.fieldLink RX8 32 "GhostSigns$Words" "froms" "[I") ∈ lw_tbl := tb_1 _ (List.mem_of_getElem? (l := tables_1_1) (i := 62) rfl)
set_option maxRecDepth 20000 in
theorem mL_4_3 : (Cond.fieldLink RX8 35 "GhostSigns$Words" "tos" "[I") ∈ wsL_law := inr_4 _ (List.mem_of_getElem? (l := wsL_law_r4) (i := 3) rfl)
set_option maxRecDepth 20000 in
theorem tL_4_3 : (Cond.fieldLink RX8 35 "GhostSigns$Words" "tos" "[I") ∈ lw_tbl := tb_1 _ (List.mem_of_getElem? (l := tables_1_1) (i := 64) rfl)
set_option maxRecDepth 20000 in
theorem mL_4_4 : (Cond.arrayClass .boolean) ∈ wsL_law := inr_4 _ (List.mem_of_getElem? (l := wsL_law_r4) (i := 4) rfl)
set_option maxRecDepth 20000 in
theorem tL_4_4 : (Cond.arrayClass .boolean) ∈ lw_tbl := tb_1 _ (List.mem_of_getElem? (l := tables_1_1) (i := 91) rfl)
set_option maxRecDepth 20000 in
theorem mL_4_5 : (Cond.fieldLink RX8 38 "GhostSigns$Words" "struck" "[Z") ∈ wsL_law := inr_4 _ (List.mem_of_getElem? (l := wsL_law_r4) (i := 5) rfl)
set_option maxRecDepth 20000 in
theorem tL_4_5 : (Cond.fieldLink RX8 38 "GhostSigns$Words" "struck" "[Z") ∈ lw_tbl := tb_1 _ (List.mem_of_getElem? (l := tables_1_1) (i := 66) rfl)
set_option maxRecDepth 20000 in
theorem mL_4_6 : (Cond.instanceMethod yX2_init) ∈ wsL_law := inr_4 _ (List.mem_of_getElem? (l := wsL_law_r4) (i := 6) rfl)
set_option maxRecDepth 20000 in
theorem tL_4_6 : (Cond.instanceMethod yX2_init) ∈ lw_tbl := tb_1 _ (List.mem_of_getElem? (l := tables_1_1) (i := 96) rfl)
set_option maxRecDepth 20000 in
theorem mL_4_7 : (Cond.code yX2_init cX2_init 1 none) ∈ wsL_law := inr_4 _ (List.mem_of_getElem? (l := wsL_law_r4) (i := 7) rfl)
set_option maxRecDepth 20000 in
theorem tL_4_7 : (Cond.code yX2_init cX2_init 1 none) ∈ lw_tbl := tb_1 _ (List.mem_of_getElem? (l := tables_1_1) (i := 97) rfl)
set_option maxRecDepth 20000 in
theorem mL_4_8 : (Cond.methodLink RX2 3 objectInit) ∈ wsL_law := inr_4 _ (List.mem_of_getElem? (l := wsL_law_r4) (i := 8) rfl)
set_option maxRecDepth 20000 in
theorem tL_4_8 : (Cond.methodLink RX2 3 objectInit) ∈ lw_tbl := tb_1 _ (List.mem_of_getElem? (l := tables_1_1) (i := 98) rfl)
set_option maxRecDepth 20000 in
theorem mL_4_9 : (Cond.classLink RX2 9 "[[I") ∈ wsL_law := inr_4 _ (List.mem_of_getElem? (l := wsL_law_r4) (i := 9) rfl)
set_option maxRecDepth 20000 in
theorem tL_4_9 : (Cond.classLink RX2 9 "[[I") ∈ lw_tbl := tb_1 _ (List.mem_of_getElem? (l := tables_1_1) (i := 99) rfl)
set_option maxRecDepth 20000 in
theorem mL_4_10 : (Cond.fieldLink RX2 11 "GhostSigns$Line" "cells" "[[I") ∈ wsL_law := inr_4 _ (List.mem_of_getElem? (l := wsL_law_r4) (i := 10) rfl)
set_option maxRecDepth 20000 in
theorem tL_4_10 : (Cond.fieldLink RX2 11 "GhostSigns$Line" "cells" "[[I") ∈ lw_tbl := tb_1 _ (List.mem_of_getElem? (l := tables_1_1) (i := 101) rfl)
set_option maxRecDepth 20000 in
theorem mL_4_11 : (Cond.fieldLink RX2 16 "GhostSigns$Line" "layerWords" "[I") ∈ wsL_law := inr_4 _ (List.mem_of_getElem? (l := wsL_law_r4) (i := 11) rfl)
set_option maxRecDepth 20000 in
theorem tL_4_11 : (Cond.fieldLink RX2 16 "GhostSigns$Line" "layerWords" "[I") ∈ lw_tbl := tb_1 _ (List.mem_of_getElem? (l := tables_1_1) (i := 103) rfl)
set_option maxRecDepth 20000 in
theorem mL_4_12 : (Cond.fieldLink RX2 20 "GhostSigns$Line" "layerSlots" "[I") ∈ wsL_law := inr_4 _ (List.mem_of_getElem? (l := wsL_law_r4) (i := 12) rfl)
set_option maxRecDepth 20000 in
theorem tL_4_12 : (Cond.fieldLink RX2 20 "GhostSigns$Line" "layerSlots" "[I") ∈ lw_tbl := tb_1 _ (List.mem_of_getElem? (l := tables_1_1) (i := 105) rfl)
set_option maxRecDepth 20000 in
theorem mL_4_13 : (Cond.fieldLink RX2 23 "GhostSigns$Line" "layerColours" "[I") ∈ wsL_law := inr_4 _ (List.mem_of_getElem? (l := wsL_law_r4) (i := 13) rfl)
set_option maxRecDepth 20000 in
theorem tL_4_13 : (Cond.fieldLink RX2 23 "GhostSigns$Line" "layerColours" "[I") ∈ lw_tbl := tb_1 _ (List.mem_of_getElem? (l := tables_1_1) (i := 107) rfl)
set_option maxRecDepth 20000 in
theorem mL_4_14 : (Cond.instanceMethod yX6_init) ∈ wsL_law := inr_4 _ (List.mem_of_getElem? (l := wsL_law_r4) (i := 14) rfl)
set_option maxRecDepth 20000 in
theorem tL_4_14 : (Cond.instanceMethod yX6_init) ∈ lw_tbl := tb_1 _ (List.mem_of_getElem? (l := tables_1_1) (i := 125) rfl)
set_option maxRecDepth 20000 in
theorem mL_4_15 : (Cond.code yX6_init cX6_init 1 none) ∈ wsL_law := inr_4 _ (List.mem_of_getElem? (l := wsL_law_r4) (i := 15) rfl)
set_option maxRecDepth 20000 in
theorem tL_4_15 : (Cond.code yX6_init cX6_init 1 none) ∈ lw_tbl := tb_1 _ (List.mem_of_getElem? (l := tables_1_1) (i := 126) rfl)
set_option maxRecDepth 20000 in
theorem mL_4_16 : (Cond.methodLink RX6 3 objectInit) ∈ wsL_law := inr_4 _ (List.mem_of_getElem? (l := wsL_law_r4) (i := 16) rfl)
set_option maxRecDepth 20000 in
theorem tL_4_16 : (Cond.methodLink RX6 3 objectInit) ∈ lw_tbl := tb_1 _ (List.mem_of_getElem? (l := tables_1_1) (i := 127) rfl)
set_option maxRecDepth 20000 in
theorem mL_4_17 : (Cond.fieldLink RX6 11 "GhostSigns$Street" "years" "[I") ∈ wsL_law := inr_4 _ (List.mem_of_getElem? (l := wsL_law_r4) (i := 17) rfl)
set_option maxRecDepth 20000 in
theorem tL_4_17 : (Cond.fieldLink RX6 11 "GhostSigns$Street" "years" "[I") ∈ lw_tbl := tb_1 _ (List.mem_of_getElem? (l := tables_1_1) (i := 128) rfl)
set_option maxRecDepth 20000 in
theorem mL_4_18 : (Cond.fieldLink RX6 15 "GhostSigns$Street" "factors" "[I") ∈ wsL_law := inr_4 _ (List.mem_of_getElem? (l := wsL_law_r4) (i := 18) rfl)
set_option maxRecDepth 20000 in
theorem tL_4_18 : (Cond.fieldLink RX6 15 "GhostSigns$Street" "factors" "[I") ∈ lw_tbl := tb_1 _ (List.mem_of_getElem? (l := tables_1_1) (i := 129) rfl)
set_option maxRecDepth 20000 in
theorem mL_4_19 : (Cond.fieldLink RX6 18 "GhostSigns$Street" "shifts" "[I") ∈ wsL_law := inr_4 _ (List.mem_of_getElem? (l := wsL_law_r4) (i := 19) rfl)
set_option maxRecDepth 20000 in
theorem tL_4_19 : (Cond.fieldLink RX6 18 "GhostSigns$Street" "shifts" "[I") ∈ lw_tbl := tb_1 _ (List.mem_of_getElem? (l := tables_1_1) (i := 130) rfl)
set_option maxRecDepth 20000 in
theorem mL_4_20 : (Cond.fieldLink RX6 21 "GhostSigns$Street" "wallNumber" "I") ∈ wsL_law := inr_4 _ (List.mem_of_getElem? (l := wsL_law_r4) (i := 20) rfl)
set_option maxRecDepth 20000 in
theorem tL_4_20 : (Cond.fieldLink RX6 21 "GhostSigns$Street" "wallNumber" "I") ∈ lw_tbl := tb_1 _ (List.mem_of_getElem? (l := tables_1_1) (i := 133) rfl)
set_option maxRecDepth 20000 in
theorem mL_4_21 : (Cond.fieldLink RX6 25 "GhostSigns$Street" "wallYear" "I") ∈ wsL_law := inr_4 _ (List.mem_of_getElem? (l := wsL_law_r4) (i := 21) rfl)
set_option maxRecDepth 20000 in
theorem tL_4_21 : (Cond.fieldLink RX6 25 "GhostSigns$Street" "wallYear" "I") ∈ lw_tbl := tb_1 _ (List.mem_of_getElem? (l := tables_1_1) (i := 135) rfl)
set_option maxRecDepth 20000 in
theorem mL_4_22 : (Cond.instanceMethod yX1_init) ∈ wsL_law := inr_4 _ (List.mem_of_getElem? (l := wsL_law_r4) (i := 22) rfl)
set_option maxRecDepth 20000 in
theorem tL_4_22 : (Cond.instanceMethod yX1_init) ∈ lw_tbl := tb_1 _ (List.mem_of_getElem? (l := tables_1_1) (i := 153) rfl)
set_option maxRecDepth 20000 in
theorem mL_4_23 : (Cond.code yX1_init cX1_init 1 none) ∈ wsL_law := inr_4 _ (List.mem_of_getElem? (l := wsL_law_r4) (i := 23) rfl)
set_option maxRecDepth 20000 in
theorem tL_4_23 : (Cond.code yX1_init cX1_init 1 none) ∈ lw_tbl := tb_1 _ (List.mem_of_getElem? (l := tables_1_1) (i := 154) rfl)
set_option maxRecDepth 20000 in
theorem tin_4 : ∀ w ∈ wsL_law_r4, w ∈ lw_tbl := List.forall_mem_cons.mpr ⟨tL_4_0, List.forall_mem_cons.mpr ⟨tL_4_1, List.forall_mem_cons.mpr ⟨tL_4_2, List.forall_mem_cons.mpr ⟨tL_4_3, List.forall_mem_cons.mpr ⟨tL_4_4, List.forall_mem_cons.mpr ⟨tL_4_5, List.forall_mem_cons.mpr ⟨tL_4_6, List.forall_mem_cons.mpr ⟨tL_4_7, List.forall_mem_cons.mpr ⟨tL_4_8, List.forall_mem_cons.mpr ⟨tL_4_9, List.forall_mem_cons.mpr ⟨tL_4_10, List.forall_mem_cons.mpr ⟨tL_4_11, List.forall_mem_cons.mpr ⟨tL_4_12, List.forall_mem_cons.mpr ⟨tL_4_13, List.forall_mem_cons.mpr ⟨tL_4_14, List.forall_mem_cons.mpr ⟨tL_4_15, List.forall_mem_cons.mpr ⟨tL_4_16, List.forall_mem_cons.mpr ⟨tL_4_17, List.forall_mem_cons.mpr ⟨tL_4_18, List.forall_mem_cons.mpr ⟨tL_4_19, List.forall_mem_cons.mpr ⟨tL_4_20, List.forall_mem_cons.mpr ⟨tL_4_21, List.forall_mem_cons.mpr ⟨tL_4_22, List.forall_mem_cons.mpr ⟨tL_4_23, List.forall_mem_nil _⟩⟩⟩⟩⟩⟩⟩⟩⟩⟩⟩⟩⟩⟩⟩⟩⟩⟩⟩⟩⟩⟩⟩⟩
set_option maxRecDepth 20000 in
theorem mL_5_0 : (Cond.methodLink RX1 1 objectInit) ∈ wsL_law := inr_5 _ (List.mem_of_getElem? (l := wsL_law_r5) (i := 0) rfl)
set_option maxRecDepth 20000 in
theorem tL_5_0 : (Cond.methodLink RX1 1 objectInit) ∈ lw_tbl := tb_1 _ (List.mem_of_getElem? (l := tables_1_1) (i := 155) rfl)
set_option maxRecDepth 20000 in
theorem mL_5_1 : (Cond.fieldLink RX1 9 "GhostSigns$Lights" "ofLight" "[I") ∈ wsL_law := inr_5 _ (List.mem_of_getElem? (l := wsL_law_r5) (i := 1) rfl)
set_option maxRecDepth 20000 in
theorem tL_5_1 : (Cond.fieldLink RX1 9 "GhostSigns$Lights" "ofLight" "[I") ∈ lw_tbl := tb_1 _ (List.mem_of_getElem? (l := tables_1_1) (i := 156) rfl)
set_option maxRecDepth 20000 in
theorem mL_5_2 : (Cond.fieldLink RX1 13 "GhostSigns$Lights" "onLine" "[I") ∈ wsL_law := inr_5 _ (List.mem_of_getElem? (l := wsL_law_r5) (i := 2) rfl)
set_option maxRecDepth 20000 in
theorem tL_5_2 : (Cond.fieldLink RX1 13 "GhostSigns$Lights" "onLine" "[I") ∈ lw_tbl := tb_1 _ (List.mem_of_getElem? (l := tables_1_1) (i := 157) rfl)
set_option maxRecDepth 20000 in
theorem mL_5_3 : (Cond.fieldLink RX1 16 "GhostSigns$Lights" "inSlot" "[I") ∈ wsL_law := inr_5 _ (List.mem_of_getElem? (l := wsL_law_r5) (i := 3) rfl)
set_option maxRecDepth 20000 in
theorem tL_5_3 : (Cond.fieldLink RX1 16 "GhostSigns$Lights" "inSlot" "[I") ∈ lw_tbl := tb_1 _ (List.mem_of_getElem? (l := tables_1_1) (i := 158) rfl)
set_option maxRecDepth 20000 in
theorem mL_5_4 : (Cond.fieldLink RX1 19 "GhostSigns$Lights" "cells" "[I") ∈ wsL_law := inr_5 _ (List.mem_of_getElem? (l := wsL_law_r5) (i := 4) rfl)
set_option maxRecDepth 20000 in
theorem tL_5_4 : (Cond.fieldLink RX1 19 "GhostSigns$Lights" "cells" "[I") ∈ lw_tbl := tb_1 _ (List.mem_of_getElem? (l := tables_1_1) (i := 159) rfl)
set_option maxRecDepth 20000 in
theorem mL_5_5 : (Cond.instanceMethod yX0_init) ∈ wsL_law := inr_5 _ (List.mem_of_getElem? (l := wsL_law_r5) (i := 5) rfl)
set_option maxRecDepth 20000 in
theorem tL_5_5 : (Cond.instanceMethod yX0_init) ∈ lw_tbl := tb_1 _ (List.mem_of_getElem? (l := tables_1_1) (i := 176) rfl)
set_option maxRecDepth 20000 in
theorem mL_5_6 : (Cond.code yX0_init cX0_init 1 none) ∈ wsL_law := inr_5 _ (List.mem_of_getElem? (l := wsL_law_r5) (i := 6) rfl)
set_option maxRecDepth 20000 in
theorem tL_5_6 : (Cond.code yX0_init cX0_init 1 none) ∈ lw_tbl := tb_1 _ (List.mem_of_getElem? (l := tables_1_1) (i := 177) rfl)
set_option maxRecDepth 20000 in
theorem mL_5_7 : (Cond.methodLink RX0 1 objectInit) ∈ wsL_law := inr_5 _ (List.mem_of_getElem? (l := wsL_law_r5) (i := 7) rfl)
set_option maxRecDepth 20000 in
theorem tL_5_7 : (Cond.methodLink RX0 1 objectInit) ∈ lw_tbl := tb_1 _ (List.mem_of_getElem? (l := tables_1_1) (i := 178) rfl)
set_option maxRecDepth 20000 in
theorem mL_5_8 : (Cond.fieldLink RX0 9 "GhostSigns$Hands" "onLine" "[I") ∈ wsL_law := inr_5 _ (List.mem_of_getElem? (l := wsL_law_r5) (i := 8) rfl)
set_option maxRecDepth 20000 in
theorem tL_5_8 : (Cond.fieldLink RX0 9 "GhostSigns$Hands" "onLine" "[I") ∈ lw_tbl := tb_1 _ (List.mem_of_getElem? (l := tables_1_1) (i := 179) rfl)
set_option maxRecDepth 20000 in
theorem mL_5_9 : (Cond.fieldLink RX0 13 "GhostSigns$Hands" "ofWord" "[I") ∈ wsL_law := inr_5 _ (List.mem_of_getElem? (l := wsL_law_r5) (i := 9) rfl)
set_option maxRecDepth 20000 in
theorem tL_5_9 : (Cond.fieldLink RX0 13 "GhostSigns$Hands" "ofWord" "[I") ∈ lw_tbl := tb_1 _ (List.mem_of_getElem? (l := tables_1_1) (i := 180) rfl)
set_option maxRecDepth 20000 in
theorem mL_5_10 : (Cond.instanceMethod yX7_init) ∈ wsL_law := inr_5 _ (List.mem_of_getElem? (l := wsL_law_r5) (i := 10) rfl)
set_option maxRecDepth 20000 in
theorem tL_5_10 : (Cond.instanceMethod yX7_init) ∈ lw_tbl := tb_1 _ (List.mem_of_getElem? (l := tables_1_1) (i := 193) rfl)
set_option maxRecDepth 20000 in
theorem mL_5_11 : (Cond.code yX7_init cX7_init 1 none) ∈ wsL_law := inr_5 _ (List.mem_of_getElem? (l := wsL_law_r5) (i := 11) rfl)
set_option maxRecDepth 20000 in
theorem tL_5_11 : (Cond.code yX7_init cX7_init 1 none) ∈ lw_tbl := tb_1 _ (List.mem_of_getElem? (l := tables_1_1) (i := 194) rfl)
set_option maxRecDepth 20000 in
theorem mL_5_12 : (Cond.methodLink RX7 1 objectInit) ∈ wsL_law := inr_5 _ (List.mem_of_getElem? (l := wsL_law_r5) (i := 12) rfl)
set_option maxRecDepth 20000 in
theorem tL_5_12 : (Cond.methodLink RX7 1 objectInit) ∈ lw_tbl := tb_1 _ (List.mem_of_getElem? (l := tables_1_1) (i := 195) rfl)
set_option maxRecDepth 20000 in
theorem mL_5_13 : (Cond.fieldLink RX7 9 "GhostSigns$Walls" "worths" "[I") ∈ wsL_law := inr_5 _ (List.mem_of_getElem? (l := wsL_law_r5) (i := 13) rfl)
set_option maxRecDepth 20000 in
theorem tL_5_13 : (Cond.fieldLink RX7 9 "GhostSigns$Walls" "worths" "[I") ∈ lw_tbl := tb_1 _ (List.mem_of_getElem? (l := tables_1_1) (i := 196) rfl)
set_option maxRecDepth 20000 in
theorem mL_5_14 : (Cond.fieldLink RX7 13 "GhostSigns$Walls" "costs" "[I") ∈ wsL_law := inr_5 _ (List.mem_of_getElem? (l := wsL_law_r5) (i := 14) rfl)
set_option maxRecDepth 20000 in
theorem tL_5_14 : (Cond.fieldLink RX7 13 "GhostSigns$Walls" "costs" "[I") ∈ lw_tbl := tb_1 _ (List.mem_of_getElem? (l := tables_1_1) (i := 198) rfl)
set_option maxRecDepth 20000 in
theorem mL_5_15 : (Cond.instanceMethod yX4_init) ∈ wsL_law := inr_5 _ (List.mem_of_getElem? (l := wsL_law_r5) (i := 15) rfl)
set_option maxRecDepth 20000 in
theorem tL_5_15 : (Cond.instanceMethod yX4_init) ∈ lw_tbl := tb_1 _ (List.mem_of_getElem? (l := tables_1_1) (i := 214) rfl)
set_option maxRecDepth 20000 in
theorem mL_5_16 : (Cond.code yX4_init cX4_init 1 none) ∈ wsL_law := inr_5 _ (List.mem_of_getElem? (l := wsL_law_r5) (i := 16) rfl)
set_option maxRecDepth 20000 in
theorem tL_5_16 : (Cond.code yX4_init cX4_init 1 none) ∈ lw_tbl := tb_1 _ (List.mem_of_getElem? (l := tables_1_1) (i := 215) rfl)
set_option maxRecDepth 20000 in
theorem mL_5_17 : (Cond.methodLink RX4 5 objectInit) ∈ wsL_law := inr_5 _ (List.mem_of_getElem? (l := wsL_law_r5) (i := 17) rfl)
set_option maxRecDepth 20000 in
theorem tL_5_17 : (Cond.methodLink RX4 5 objectInit) ∈ lw_tbl := tb_1 _ (List.mem_of_getElem? (l := tables_1_1) (i := 216) rfl)
set_option maxRecDepth 20000 in
theorem mL_5_18 : (Cond.fieldLink RX4 13 "GhostSigns$Places" "words" "[I") ∈ wsL_law := inr_5 _ (List.mem_of_getElem? (l := wsL_law_r5) (i := 18) rfl)
set_option maxRecDepth 20000 in
theorem tL_5_18 : (Cond.fieldLink RX4 13 "GhostSigns$Places" "words" "[I") ∈ lw_tbl := tb_1 _ (List.mem_of_getElem? (l := tables_1_1) (i := 217) rfl)
set_option maxRecDepth 20000 in
theorem mL_5_19 : (Cond.fieldLink RX4 17 "GhostSigns$Places" "slots" "[I") ∈ wsL_law := inr_5 _ (List.mem_of_getElem? (l := wsL_law_r5) (i := 19) rfl)
set_option maxRecDepth 20000 in
theorem tL_5_19 : (Cond.fieldLink RX4 17 "GhostSigns$Places" "slots" "[I") ∈ lw_tbl := tb_1 _ (List.mem_of_getElem? (l := tables_1_1) (i := 220) rfl)
set_option maxRecDepth 20000 in
theorem mL_5_20 : (Cond.fieldLink RX4 20 "GhostSigns$Places" "lacks" "[I") ∈ wsL_law := inr_5 _ (List.mem_of_getElem? (l := wsL_law_r5) (i := 20) rfl)
set_option maxRecDepth 20000 in
theorem tL_5_20 : (Cond.fieldLink RX4 20 "GhostSigns$Places" "lacks" "[I") ∈ lw_tbl := tb_1 _ (List.mem_of_getElem? (l := tables_1_1) (i := 222) rfl)
set_option maxRecDepth 20000 in
theorem mL_5_21 : (Cond.fieldLink RX4 23 "GhostSigns$Places" "bares" "[I") ∈ wsL_law := inr_5 _ (List.mem_of_getElem? (l := wsL_law_r5) (i := 21) rfl)
set_option maxRecDepth 20000 in
theorem tL_5_21 : (Cond.fieldLink RX4 23 "GhostSigns$Places" "bares" "[I") ∈ lw_tbl := tb_1 _ (List.mem_of_getElem? (l := tables_1_1) (i := 225) rfl)
set_option maxRecDepth 20000 in
theorem mL_5_22 : (Cond.instanceMethod yX3_init) ∈ wsL_law := inr_5 _ (List.mem_of_getElem? (l := wsL_law_r5) (i := 22) rfl)
set_option maxRecDepth 20000 in
theorem tL_5_22 : (Cond.instanceMethod yX3_init) ∈ lw_tbl := tb_2 _ (List.mem_of_getElem? (l := tables_1_2) (i := 4) rfl)
set_option maxRecDepth 20000 in
theorem mL_5_23 : (Cond.code yX3_init cX3_init 1 none) ∈ wsL_law := inr_5 _ (List.mem_of_getElem? (l := wsL_law_r5) (i := 23) rfl)
set_option maxRecDepth 20000 in
theorem tL_5_23 : (Cond.code yX3_init cX3_init 1 none) ∈ lw_tbl := tb_2 _ (List.mem_of_getElem? (l := tables_1_2) (i := 5) rfl)
set_option maxRecDepth 20000 in
theorem tin_5 : ∀ w ∈ wsL_law_r5, w ∈ lw_tbl := List.forall_mem_cons.mpr ⟨tL_5_0, List.forall_mem_cons.mpr ⟨tL_5_1, List.forall_mem_cons.mpr ⟨tL_5_2, List.forall_mem_cons.mpr ⟨tL_5_3, List.forall_mem_cons.mpr ⟨tL_5_4, List.forall_mem_cons.mpr ⟨tL_5_5, List.forall_mem_cons.mpr ⟨tL_5_6, List.forall_mem_cons.mpr ⟨tL_5_7, List.forall_mem_cons.mpr ⟨tL_5_8, List.forall_mem_cons.mpr ⟨tL_5_9, List.forall_mem_cons.mpr ⟨tL_5_10, List.forall_mem_cons.mpr ⟨tL_5_11, List.forall_mem_cons.mpr ⟨tL_5_12, List.forall_mem_cons.mpr ⟨tL_5_13, List.forall_mem_cons.mpr ⟨tL_5_14, List.forall_mem_cons.mpr ⟨tL_5_15, List.forall_mem_cons.mpr ⟨tL_5_16, List.forall_mem_cons.mpr ⟨tL_5_17, List.forall_mem_cons.mpr ⟨tL_5_18, List.forall_mem_cons.mpr ⟨tL_5_19, List.forall_mem_cons.mpr ⟨tL_5_20, List.forall_mem_cons.mpr ⟨tL_5_21, List.forall_mem_cons.mpr ⟨tL_5_22, List.forall_mem_cons.mpr ⟨tL_5_23, List.forall_mem_nil _⟩⟩⟩⟩⟩⟩⟩⟩⟩⟩⟩⟩⟩⟩⟩⟩⟩⟩⟩⟩⟩⟩⟩⟩
set_option maxRecDepth 20000 in
theorem mL_6_0 : (Cond.methodLink RX3 3 objectInit) ∈ wsL_law := inr_6 _ (List.mem_of_getElem? (l := wsL_law_r6) (i := 0) rfl)
set_option maxRecDepth 20000 in
theorem tL_6_0 : (Cond.methodLink RX3 3 objectInit) ∈ lw_tbl := tb_2 _ (List.mem_of_getElem? (l := tables_1_2) (i := 6) rfl)
set_option maxRecDepth 20000 in
theorem mL_6_1 : (Cond.methodLink RL 12 yX10_init) ∈ wsL_law := inr_6 _ (List.mem_of_getElem? (l := wsL_law_r6) (i := 1) rfl)
set_option maxRecDepth 20000 in
theorem tL_6_1 : (Cond.methodLink RL 12 yX10_init) ∈ lw_tbl := tb_4 _ (List.mem_of_getElem? (l := tables_1_4) (i := 98) rfl)
set_option maxRecDepth 20000 in
theorem mL_6_2 : (Cond.instanceMethod yX10_init) ∈ wsL_law := inr_6 _ (List.mem_of_getElem? (l := wsL_law_r6) (i := 2) rfl)
set_option maxRecDepth 20000 in
theorem tL_6_2 : (Cond.instanceMethod yX10_init) ∈ lw_tbl := tb_4 _ (List.mem_of_getElem? (l := tables_1_4) (i := 99) rfl)
set_option maxRecDepth 20000 in
theorem mL_6_3 : (Cond.code yX10_init cX10_init 2 none) ∈ wsL_law := inr_6 _ (List.mem_of_getElem? (l := wsL_law_r6) (i := 3) rfl)
set_option maxRecDepth 20000 in
theorem tL_6_3 : (Cond.code yX10_init cX10_init 2 none) ∈ lw_tbl := tb_4 _ (List.mem_of_getElem? (l := tables_1_4) (i := 100) rfl)
set_option maxRecDepth 20000 in
theorem mL_6_4 : (Cond.methodLink RX10 1 objectInit) ∈ wsL_law := inr_6 _ (List.mem_of_getElem? (l := wsL_law_r6) (i := 4) rfl)
set_option maxRecDepth 20000 in
theorem tL_6_4 : (Cond.methodLink RX10 1 objectInit) ∈ lw_tbl := tb_4 _ (List.mem_of_getElem? (l := tables_1_4) (i := 101) rfl)
set_option maxRecDepth 20000 in
theorem mL_6_5 : (Cond.fieldLink RX10 7 "GhostSignsModel" "findings" "[I") ∈ wsL_law := inr_6 _ (List.mem_of_getElem? (l := wsL_law_r6) (i := 5) rfl)
set_option maxRecDepth 20000 in
theorem tL_6_5 : (Cond.fieldLink RX10 7 "GhostSignsModel" "findings" "[I") ∈ lw_tbl := tb_4 _ (List.mem_of_getElem? (l := tables_1_4) (i := 103) rfl)
set_option maxRecDepth 20000 in
theorem mL_6_6 : (Cond.fieldLink RX10 13 "GhostSignsModel" "strokes" "[I") ∈ wsL_law := inr_6 _ (List.mem_of_getElem? (l := wsL_law_r6) (i := 6) rfl)
set_option maxRecDepth 20000 in
theorem tL_6_6 : (Cond.fieldLink RX10 13 "GhostSignsModel" "strokes" "[I") ∈ lw_tbl := tb_4 _ (List.mem_of_getElem? (l := tables_1_4) (i := 105) rfl)
set_option maxRecDepth 20000 in
theorem mL_6_7 : (Cond.fieldLink RX10 16 "GhostSignsModel" "sizes" "[I") ∈ wsL_law := inr_6 _ (List.mem_of_getElem? (l := wsL_law_r6) (i := 7) rfl)
set_option maxRecDepth 20000 in
theorem tL_6_7 : (Cond.fieldLink RX10 16 "GhostSignsModel" "sizes" "[I") ∈ lw_tbl := tb_4 _ (List.mem_of_getElem? (l := tables_1_4) (i := 106) rfl)
set_option maxRecDepth 20000 in
theorem mL_6_8 : (Cond.fieldLink RX10 19 "GhostSignsModel" "sheets" "[I") ∈ wsL_law := inr_6 _ (List.mem_of_getElem? (l := wsL_law_r6) (i := 8) rfl)
set_option maxRecDepth 20000 in
theorem tL_6_8 : (Cond.fieldLink RX10 19 "GhostSignsModel" "sheets" "[I") ∈ lw_tbl := tb_4 _ (List.mem_of_getElem? (l := tables_1_4) (i := 107) rfl)
set_option maxRecDepth 20000 in
theorem mL_6_9 : (Cond.fieldLink RX10 22 "GhostSignsModel" "moving" "[I") ∈ wsL_law := inr_6 _ (List.mem_of_getElem? (l := wsL_law_r6) (i := 9) rfl)
set_option maxRecDepth 20000 in
theorem tL_6_9 : (Cond.fieldLink RX10 22 "GhostSignsModel" "moving" "[I") ∈ lw_tbl := tb_4 _ (List.mem_of_getElem? (l := tables_1_4) (i := 108) rfl)
set_option maxRecDepth 20000 in
theorem mL_6_10 : (Cond.fieldLink RX10 25 "GhostSignsModel" "kinds" "[I") ∈ wsL_law := inr_6 _ (List.mem_of_getElem? (l := wsL_law_r6) (i := 10) rfl)
set_option maxRecDepth 20000 in
theorem tL_6_10 : (Cond.fieldLink RX10 25 "GhostSignsModel" "kinds" "[I") ∈ lw_tbl := tb_4 _ (List.mem_of_getElem? (l := tables_1_4) (i := 110) rfl)
set_option maxRecDepth 20000 in
theorem mL_6_11 : (Cond.fieldLink RX10 28 "GhostSignsModel" "lengths" "[I") ∈ wsL_law := inr_6 _ (List.mem_of_getElem? (l := wsL_law_r6) (i := 11) rfl)
set_option maxRecDepth 20000 in
theorem tL_6_11 : (Cond.fieldLink RX10 28 "GhostSignsModel" "lengths" "[I") ∈ lw_tbl := tb_4 _ (List.mem_of_getElem? (l := tables_1_4) (i := 111) rfl)
set_option maxRecDepth 20000 in
theorem mL_6_12 : (Cond.fieldLink RX10 31 "GhostSignsModel" "texts" "[I") ∈ wsL_law := inr_6 _ (List.mem_of_getElem? (l := wsL_law_r6) (i := 12) rfl)
set_option maxRecDepth 20000 in
theorem tL_6_12 : (Cond.fieldLink RX10 31 "GhostSignsModel" "texts" "[I") ∈ lw_tbl := tb_4 _ (List.mem_of_getElem? (l := tables_1_4) (i := 112) rfl)
set_option maxRecDepth 20000 in
theorem mL_6_13 : (Cond.fieldLink RX10 34 "GhostSignsModel" "isStruck" "[Z") ∈ wsL_law := inr_6 _ (List.mem_of_getElem? (l := wsL_law_r6) (i := 13) rfl)
set_option maxRecDepth 20000 in
theorem tL_6_13 : (Cond.fieldLink RX10 34 "GhostSignsModel" "isStruck" "[Z") ∈ lw_tbl := tb_4 _ (List.mem_of_getElem? (l := tables_1_4) (i := 113) rfl)
set_option maxRecDepth 20000 in
theorem mL_6_14 : (Cond.fieldLink RX10 38 "GhostSignsModel" "numbers" "[I") ∈ wsL_law := inr_6 _ (List.mem_of_getElem? (l := wsL_law_r6) (i := 14) rfl)
set_option maxRecDepth 20000 in
theorem tL_6_14 : (Cond.fieldLink RX10 38 "GhostSignsModel" "numbers" "[I") ∈ lw_tbl := tb_4 _ (List.mem_of_getElem? (l := tables_1_4) (i := 114) rfl)
set_option maxRecDepth 20000 in
theorem mL_6_15 : (Cond.fieldLink RX10 41 "GhostSignsModel" "froms" "[I") ∈ wsL_law := inr_6 _ (List.mem_of_getElem? (l := wsL_law_r6) (i := 15) rfl)
set_option maxRecDepth 20000 in
theorem tL_6_15 : (Cond.fieldLink RX10 41 "GhostSignsModel" "froms" "[I") ∈ lw_tbl := tb_4 _ (List.mem_of_getElem? (l := tables_1_4) (i := 115) rfl)
set_option maxRecDepth 20000 in
theorem mL_6_16 : (Cond.fieldLink RX10 44 "GhostSignsModel" "tos" "[I") ∈ wsL_law := inr_6 _ (List.mem_of_getElem? (l := wsL_law_r6) (i := 16) rfl)
set_option maxRecDepth 20000 in
theorem tL_6_16 : (Cond.fieldLink RX10 44 "GhostSignsModel" "tos" "[I") ∈ lw_tbl := tb_4 _ (List.mem_of_getElem? (l := tables_1_4) (i := 116) rfl)
set_option maxRecDepth 20000 in
theorem mL_6_17 : (Cond.fieldLink RX10 47 "GhostSignsModel" "ofs" "[I") ∈ wsL_law := inr_6 _ (List.mem_of_getElem? (l := wsL_law_r6) (i := 17) rfl)
set_option maxRecDepth 20000 in
theorem tL_6_17 : (Cond.fieldLink RX10 47 "GhostSignsModel" "ofs" "[I") ∈ lw_tbl := tb_4 _ (List.mem_of_getElem? (l := tables_1_4) (i := 117) rfl)
set_option maxRecDepth 20000 in
theorem mL_6_18 : (Cond.fieldLink RX10 50 "GhostSignsModel" "wall" "[I") ∈ wsL_law := inr_6 _ (List.mem_of_getElem? (l := wsL_law_r6) (i := 18) rfl)
set_option maxRecDepth 20000 in
theorem tL_6_18 : (Cond.fieldLink RX10 50 "GhostSignsModel" "wall" "[I") ∈ lw_tbl := tb_4 _ (List.mem_of_getElem? (l := tables_1_4) (i := 118) rfl)
set_option maxRecDepth 20000 in
theorem mL_6_19 : (Cond.fieldLink RX10 53 "GhostSignsModel" "rivalRow" "[I") ∈ wsL_law := inr_6 _ (List.mem_of_getElem? (l := wsL_law_r6) (i := 19) rfl)
set_option maxRecDepth 20000 in
theorem tL_6_19 : (Cond.fieldLink RX10 53 "GhostSignsModel" "rivalRow" "[I") ∈ lw_tbl := tb_4 _ (List.mem_of_getElem? (l := tables_1_4) (i := 120) rfl)
set_option maxRecDepth 20000 in
theorem mL_6_20 : (Cond.fieldLink RX10 56 "GhostSignsModel" "layers" "[I") ∈ wsL_law := inr_6 _ (List.mem_of_getElem? (l := wsL_law_r6) (i := 20) rfl)
set_option maxRecDepth 20000 in
theorem tL_6_20 : (Cond.fieldLink RX10 56 "GhostSignsModel" "layers" "[I") ∈ lw_tbl := tb_4 _ (List.mem_of_getElem? (l := tables_1_4) (i := 121) rfl)
set_option maxRecDepth 20000 in
theorem mL_6_21 : (Cond.fieldLink RX10 59 "GhostSignsModel" "layerWord" "[I") ∈ wsL_law := inr_6 _ (List.mem_of_getElem? (l := wsL_law_r6) (i := 21) rfl)
set_option maxRecDepth 20000 in
theorem tL_6_21 : (Cond.fieldLink RX10 59 "GhostSignsModel" "layerWord" "[I") ∈ lw_tbl := tb_4 _ (List.mem_of_getElem? (l := tables_1_4) (i := 122) rfl)
set_option maxRecDepth 20000 in
theorem mL_6_22 : (Cond.fieldLink RX10 62 "GhostSignsModel" "layerSlot" "[I") ∈ wsL_law := inr_6 _ (List.mem_of_getElem? (l := wsL_law_r6) (i := 22) rfl)
set_option maxRecDepth 20000 in
theorem tL_6_22 : (Cond.fieldLink RX10 62 "GhostSignsModel" "layerSlot" "[I") ∈ lw_tbl := tb_4 _ (List.mem_of_getElem? (l := tables_1_4) (i := 123) rfl)
set_option maxRecDepth 20000 in
theorem mL_6_23 : (Cond.fieldLink RX10 65 "GhostSignsModel" "layerColour" "[I") ∈ wsL_law := inr_6 _ (List.mem_of_getElem? (l := wsL_law_r6) (i := 23) rfl)
set_option maxRecDepth 20000 in
theorem tL_6_23 : (Cond.fieldLink RX10 65 "GhostSignsModel" "layerColour" "[I") ∈ lw_tbl := tb_4 _ (List.mem_of_getElem? (l := tables_1_4) (i := 124) rfl)
set_option maxRecDepth 20000 in
theorem tin_6 : ∀ w ∈ wsL_law_r6, w ∈ lw_tbl := List.forall_mem_cons.mpr ⟨tL_6_0, List.forall_mem_cons.mpr ⟨tL_6_1, List.forall_mem_cons.mpr ⟨tL_6_2, List.forall_mem_cons.mpr ⟨tL_6_3, List.forall_mem_cons.mpr ⟨tL_6_4, List.forall_mem_cons.mpr ⟨tL_6_5, List.forall_mem_cons.mpr ⟨tL_6_6, List.forall_mem_cons.mpr ⟨tL_6_7, List.forall_mem_cons.mpr ⟨tL_6_8, List.forall_mem_cons.mpr ⟨tL_6_9, List.forall_mem_cons.mpr ⟨tL_6_10, List.forall_mem_cons.mpr ⟨tL_6_11, List.forall_mem_cons.mpr ⟨tL_6_12, List.forall_mem_cons.mpr ⟨tL_6_13, List.forall_mem_cons.mpr ⟨tL_6_14, List.forall_mem_cons.mpr ⟨tL_6_15, List.forall_mem_cons.mpr ⟨tL_6_16, List.forall_mem_cons.mpr ⟨tL_6_17, List.forall_mem_cons.mpr ⟨tL_6_18, List.forall_mem_cons.mpr ⟨tL_6_19, List.forall_mem_cons.mpr ⟨tL_6_20, List.forall_mem_cons.mpr ⟨tL_6_21, List.forall_mem_cons.mpr ⟨tL_6_22, List.forall_mem_cons.mpr ⟨tL_6_23, List.forall_mem_nil _⟩⟩⟩⟩⟩⟩⟩⟩⟩⟩⟩⟩⟩⟩⟩⟩⟩⟩⟩⟩⟩⟩⟩⟩
set_option maxRecDepth 20000 in
theorem mL_7_0 : (Cond.fieldLink RX10 68 "GhostSignsModel" "two" "[I") ∈ wsL_law := inr_7 _ (List.mem_of_getElem? (l := wsL_law_r7) (i := 0) rfl)
set_option maxRecDepth 20000 in
theorem tL_7_0 : (Cond.fieldLink RX10 68 "GhostSignsModel" "two" "[I") ∈ lw_tbl := tb_4 _ (List.mem_of_getElem? (l := tables_1_4) (i := 125) rfl)
set_option maxRecDepth 20000 in
theorem mL_7_1 : (Cond.fieldLink RX10 71 "GhostSignsModel" "had" "[I") ∈ wsL_law := inr_7 _ (List.mem_of_getElem? (l := wsL_law_r7) (i := 1) rfl)
set_option maxRecDepth 20000 in
theorem tL_7_1 : (Cond.fieldLink RX10 71 "GhostSignsModel" "had" "[I") ∈ lw_tbl := tb_4 _ (List.mem_of_getElem? (l := tables_1_4) (i := 127) rfl)
set_option maxRecDepth 20000 in
theorem mL_7_2 : (Cond.fieldLink RX10 74 "GhostSignsModel" "newYear" "[I") ∈ wsL_law := inr_7 _ (List.mem_of_getElem? (l := wsL_law_r7) (i := 2) rfl)
set_option maxRecDepth 20000 in
theorem tL_7_2 : (Cond.fieldLink RX10 74 "GhostSignsModel" "newYear" "[I") ∈ lw_tbl := tb_4 _ (List.mem_of_getElem? (l := tables_1_4) (i := 129) rfl)
set_option maxRecDepth 20000 in
theorem mL_7_3 : (Cond.fieldLink RX10 77 "GhostSignsModel" "newBy" "[I") ∈ wsL_law := inr_7 _ (List.mem_of_getElem? (l := wsL_law_r7) (i := 3) rfl)
set_option maxRecDepth 20000 in
theorem tL_7_3 : (Cond.fieldLink RX10 77 "GhostSignsModel" "newBy" "[I") ∈ lw_tbl := tb_4 _ (List.mem_of_getElem? (l := tables_1_4) (i := 130) rfl)
set_option maxRecDepth 20000 in
theorem mL_7_4 : (Cond.fieldLink RX10 80 "GhostSignsModel" "newMore" "[I") ∈ wsL_law := inr_7 _ (List.mem_of_getElem? (l := wsL_law_r7) (i := 4) rfl)
set_option maxRecDepth 20000 in
theorem tL_7_4 : (Cond.fieldLink RX10 80 "GhostSignsModel" "newMore" "[I") ∈ lw_tbl := tb_4 _ (List.mem_of_getElem? (l := tables_1_4) (i := 131) rfl)
set_option maxRecDepth 20000 in
theorem mL_7_5 : (Cond.fieldLink RX10 83 "GhostSignsModel" "house" "I") ∈ wsL_law := inr_7 _ (List.mem_of_getElem? (l := wsL_law_r7) (i := 5) rfl)
set_option maxRecDepth 20000 in
theorem tL_7_5 : (Cond.fieldLink RX10 83 "GhostSignsModel" "house" "I") ∈ lw_tbl := tb_4 _ (List.mem_of_getElem? (l := tables_1_4) (i := 132) rfl)
set_option maxRecDepth 20000 in
theorem mL_7_6 : (Cond.fieldLink RX10 87 "GhostSignsModel" "houseYear" "I") ∈ wsL_law := inr_7 _ (List.mem_of_getElem? (l := wsL_law_r7) (i := 6) rfl)
set_option maxRecDepth 20000 in
theorem tL_7_6 : (Cond.fieldLink RX10 87 "GhostSignsModel" "houseYear" "I") ∈ lw_tbl := tb_4 _ (List.mem_of_getElem? (l := tables_1_4) (i := 133) rfl)
set_option maxRecDepth 20000 in
theorem mL_7_7 : (Cond.fieldLink RX10 90 "GhostSignsModel" "lightOf" "[I") ∈ wsL_law := inr_7 _ (List.mem_of_getElem? (l := wsL_law_r7) (i := 7) rfl)
set_option maxRecDepth 20000 in
theorem tL_7_7 : (Cond.fieldLink RX10 90 "GhostSignsModel" "lightOf" "[I") ∈ lw_tbl := tb_4 _ (List.mem_of_getElem? (l := tables_1_4) (i := 135) rfl)
set_option maxRecDepth 20000 in
theorem mL_7_8 : (Cond.fieldLink RX10 93 "GhostSignsModel" "lightLine" "[I") ∈ wsL_law := inr_7 _ (List.mem_of_getElem? (l := wsL_law_r7) (i := 8) rfl)
set_option maxRecDepth 20000 in
theorem tL_7_8 : (Cond.fieldLink RX10 93 "GhostSignsModel" "lightLine" "[I") ∈ lw_tbl := tb_4 _ (List.mem_of_getElem? (l := tables_1_4) (i := 136) rfl)
set_option maxRecDepth 20000 in
theorem mL_7_9 : (Cond.fieldLink RX10 96 "GhostSignsModel" "lightSlot" "[I") ∈ wsL_law := inr_7 _ (List.mem_of_getElem? (l := wsL_law_r7) (i := 9) rfl)
set_option maxRecDepth 20000 in
theorem tL_7_9 : (Cond.fieldLink RX10 96 "GhostSignsModel" "lightSlot" "[I") ∈ lw_tbl := tb_4 _ (List.mem_of_getElem? (l := tables_1_4) (i := 137) rfl)
set_option maxRecDepth 20000 in
theorem mL_7_10 : (Cond.fieldLink RX10 99 "GhostSignsModel" "lightCells" "[I") ∈ wsL_law := inr_7 _ (List.mem_of_getElem? (l := wsL_law_r7) (i := 10) rfl)
set_option maxRecDepth 20000 in
theorem tL_7_10 : (Cond.fieldLink RX10 99 "GhostSignsModel" "lightCells" "[I") ∈ lw_tbl := tb_4 _ (List.mem_of_getElem? (l := tables_1_4) (i := 138) rfl)
set_option maxRecDepth 20000 in
theorem mL_7_11 : (Cond.fieldLink RX10 102 "GhostSignsModel" "handLine" "[I") ∈ wsL_law := inr_7 _ (List.mem_of_getElem? (l := wsL_law_r7) (i := 11) rfl)
set_option maxRecDepth 20000 in
theorem tL_7_11 : (Cond.fieldLink RX10 102 "GhostSignsModel" "handLine" "[I") ∈ lw_tbl := tb_4 _ (List.mem_of_getElem? (l := tables_1_4) (i := 140) rfl)
set_option maxRecDepth 20000 in
theorem mL_7_12 : (Cond.fieldLink RX10 105 "GhostSignsModel" "handWord" "[I") ∈ wsL_law := inr_7 _ (List.mem_of_getElem? (l := wsL_law_r7) (i := 12) rfl)
set_option maxRecDepth 20000 in
theorem tL_7_12 : (Cond.fieldLink RX10 105 "GhostSignsModel" "handWord" "[I") ∈ lw_tbl := tb_4 _ (List.mem_of_getElem? (l := tables_1_4) (i := 141) rfl)
set_option maxRecDepth 20000 in
theorem mL_7_13 : (Cond.fieldLink RX10 108 "GhostSignsModel" "worths" "[I") ∈ wsL_law := inr_7 _ (List.mem_of_getElem? (l := wsL_law_r7) (i := 13) rfl)
set_option maxRecDepth 20000 in
theorem tL_7_13 : (Cond.fieldLink RX10 108 "GhostSignsModel" "worths" "[I") ∈ lw_tbl := tb_4 _ (List.mem_of_getElem? (l := tables_1_4) (i := 143) rfl)
set_option maxRecDepth 20000 in
theorem mL_7_14 : (Cond.fieldLink RX10 111 "GhostSignsModel" "costs" "[I") ∈ wsL_law := inr_7 _ (List.mem_of_getElem? (l := wsL_law_r7) (i := 14) rfl)
set_option maxRecDepth 20000 in
theorem tL_7_14 : (Cond.fieldLink RX10 111 "GhostSignsModel" "costs" "[I") ∈ lw_tbl := tb_4 _ (List.mem_of_getElem? (l := tables_1_4) (i := 144) rfl)
set_option maxRecDepth 20000 in
theorem mL_7_15 : (Cond.fieldLink RX10 114 "GhostSignsModel" "hasLeave" "[Z") ∈ wsL_law := inr_7 _ (List.mem_of_getElem? (l := wsL_law_r7) (i := 15) rfl)
set_option maxRecDepth 20000 in
theorem tL_7_15 : (Cond.fieldLink RX10 114 "GhostSignsModel" "hasLeave" "[Z") ∈ lw_tbl := tb_4 _ (List.mem_of_getElem? (l := tables_1_4) (i := 145) rfl)
set_option maxRecDepth 20000 in
theorem mL_7_16 : (Cond.methodLink RL 13 yX9_letter) ∈ wsL_law := inr_7 _ (List.mem_of_getElem? (l := wsL_law_r7) (i := 16) rfl)
set_option maxRecDepth 20000 in
theorem tL_7_16 : (Cond.methodLink RL 13 yX9_letter) ∈ lw_tbl := tb_2 _ (List.mem_of_getElem? (l := tables_1_2) (i := 67) rfl)
set_option maxRecDepth 20000 in
theorem mL_7_17 : (Cond.instanceMethod yX9_letter) ∈ wsL_law := inr_7 _ (List.mem_of_getElem? (l := wsL_law_r7) (i := 17) rfl)
set_option maxRecDepth 20000 in
theorem tL_7_17 : (Cond.instanceMethod yX9_letter) ∈ lw_tbl := tb_2 _ (List.mem_of_getElem? (l := tables_1_2) (i := 68) rfl)
set_option maxRecDepth 20000 in
theorem mL_7_18 : (Cond.selects RX9 yX9_letter yX9_letter) ∈ wsL_law := inr_7 _ (List.mem_of_getElem? (l := wsL_law_r7) (i := 18) rfl)
set_option maxRecDepth 20000 in
theorem tL_7_18 : (Cond.selects RX9 yX9_letter yX9_letter) ∈ lw_tbl := tb_2 _ (List.mem_of_getElem? (l := tables_1_2) (i := 69) rfl)
set_option maxRecDepth 20000 in
theorem mL_7_19 : (Cond.code yX9_letter cX9_letter 3 (some .int)) ∈ wsL_law := inr_7 _ (List.mem_of_getElem? (l := wsL_law_r7) (i := 19) rfl)
set_option maxRecDepth 20000 in
theorem tL_7_19 : (Cond.code yX9_letter cX9_letter 3 (some .int)) ∈ lw_tbl := tb_2 _ (List.mem_of_getElem? (l := tables_1_2) (i := 70) rfl)
set_option maxRecDepth 20000 in
theorem mL_7_20 : (Cond.methodLink RX9 82 yX8_isLetter) ∈ wsL_law := inr_7 _ (List.mem_of_getElem? (l := wsL_law_r7) (i := 20) rfl)
set_option maxRecDepth 20000 in
theorem tL_7_20 : (Cond.methodLink RX9 82 yX8_isLetter) ∈ lw_tbl := tb_2 _ (List.mem_of_getElem? (l := tables_1_2) (i := 71) rfl)
set_option maxRecDepth 20000 in
theorem mL_7_21 : (Cond.static yX8_isLetter) ∈ wsL_law := inr_7 _ (List.mem_of_getElem? (l := wsL_law_r7) (i := 21) rfl)
set_option maxRecDepth 20000 in
theorem tL_7_21 : (Cond.static yX8_isLetter) ∈ lw_tbl := tb_2 _ (List.mem_of_getElem? (l := tables_1_2) (i := 72) rfl)
set_option maxRecDepth 20000 in
theorem mL_7_22 : (Cond.code yX8_isLetter cX8_isLetter 1 (some .boolean)) ∈ wsL_law := inr_7 _ (List.mem_of_getElem? (l := wsL_law_r7) (i := 22) rfl)
set_option maxRecDepth 20000 in
theorem tL_7_22 : (Cond.code yX8_isLetter cX8_isLetter 1 (some .boolean)) ∈ lw_tbl := tb_2 _ (List.mem_of_getElem? (l := tables_1_2) (i := 73) rfl)
set_option maxRecDepth 20000 in
theorem mL_7_23 : (Cond.methodLink RX9 86 yX9_isCells) ∈ wsL_law := inr_7 _ (List.mem_of_getElem? (l := wsL_law_r7) (i := 23) rfl)
set_option maxRecDepth 20000 in
theorem tL_7_23 : (Cond.methodLink RX9 86 yX9_isCells) ∈ lw_tbl := tb_2 _ (List.mem_of_getElem? (l := tables_1_2) (i := 74) rfl)
set_option maxRecDepth 20000 in
theorem tin_7 : ∀ w ∈ wsL_law_r7, w ∈ lw_tbl := List.forall_mem_cons.mpr ⟨tL_7_0, List.forall_mem_cons.mpr ⟨tL_7_1, List.forall_mem_cons.mpr ⟨tL_7_2, List.forall_mem_cons.mpr ⟨tL_7_3, List.forall_mem_cons.mpr ⟨tL_7_4, List.forall_mem_cons.mpr ⟨tL_7_5, List.forall_mem_cons.mpr ⟨tL_7_6, List.forall_mem_cons.mpr ⟨tL_7_7, List.forall_mem_cons.mpr ⟨tL_7_8, List.forall_mem_cons.mpr ⟨tL_7_9, List.forall_mem_cons.mpr ⟨tL_7_10, List.forall_mem_cons.mpr ⟨tL_7_11, List.forall_mem_cons.mpr ⟨tL_7_12, List.forall_mem_cons.mpr ⟨tL_7_13, List.forall_mem_cons.mpr ⟨tL_7_14, List.forall_mem_cons.mpr ⟨tL_7_15, List.forall_mem_cons.mpr ⟨tL_7_16, List.forall_mem_cons.mpr ⟨tL_7_17, List.forall_mem_cons.mpr ⟨tL_7_18, List.forall_mem_cons.mpr ⟨tL_7_19, List.forall_mem_cons.mpr ⟨tL_7_20, List.forall_mem_cons.mpr ⟨tL_7_21, List.forall_mem_cons.mpr ⟨tL_7_22, List.forall_mem_cons.mpr ⟨tL_7_23, List.forall_mem_nil _⟩⟩⟩⟩⟩⟩⟩⟩⟩⟩⟩⟩⟩⟩⟩⟩⟩⟩⟩⟩⟩⟩⟩⟩
set_option maxRecDepth 20000 in
theorem mL_8_0 : (Cond.static yX9_isCells) ∈ wsL_law := inr_8 _ (List.mem_of_getElem? (l := wsL_law_r8) (i := 0) rfl)
set_option maxRecDepth 20000 in
theorem tL_8_0 : (Cond.static yX9_isCells) ∈ lw_tbl := tb_2 _ (List.mem_of_getElem? (l := tables_1_2) (i := 75) rfl)
set_option maxRecDepth 20000 in
theorem mL_8_1 : (Cond.code yX9_isCells cX9_isCells 1 (some .boolean)) ∈ wsL_law := inr_8 _ (List.mem_of_getElem? (l := wsL_law_r8) (i := 1) rfl)
set_option maxRecDepth 20000 in
theorem tL_8_1 : (Cond.code yX9_isCells cX9_isCells 1 (some .boolean)) ∈ lw_tbl := tb_2 _ (List.mem_of_getElem? (l := tables_1_2) (i := 76) rfl)
set_option maxRecDepth 20000 in
theorem mL_8_2 : (Cond.methodLink RX9 89 yX8_changeStrokes) ∈ wsL_law := inr_8 _ (List.mem_of_getElem? (l := wsL_law_r8) (i := 2) rfl)
set_option maxRecDepth 20000 in
theorem tL_8_2 : (Cond.methodLink RX9 89 yX8_changeStrokes) ∈ lw_tbl := tb_2 _ (List.mem_of_getElem? (l := tables_1_2) (i := 77) rfl)
set_option maxRecDepth 20000 in
theorem mL_8_3 : (Cond.instanceMethod yX8_changeStrokes) ∈ wsL_law := inr_8 _ (List.mem_of_getElem? (l := wsL_law_r8) (i := 3) rfl)
set_option maxRecDepth 20000 in
theorem tL_8_3 : (Cond.instanceMethod yX8_changeStrokes) ∈ lw_tbl := tb_2 _ (List.mem_of_getElem? (l := tables_1_2) (i := 78) rfl)
set_option maxRecDepth 20000 in
theorem mL_8_4 : (Cond.selects RX8 yX8_changeStrokes yX8_changeStrokes) ∈ wsL_law := inr_8 _ (List.mem_of_getElem? (l := wsL_law_r8) (i := 4) rfl)
set_option maxRecDepth 20000 in
theorem tL_8_4 : (Cond.selects RX8 yX8_changeStrokes yX8_changeStrokes) ∈ lw_tbl := tb_2 _ (List.mem_of_getElem? (l := tables_1_2) (i := 79) rfl)
set_option maxRecDepth 20000 in
theorem mL_8_5 : (Cond.code yX8_changeStrokes cX8_changeStrokes 4 (some .int)) ∈ wsL_law := inr_8 _ (List.mem_of_getElem? (l := wsL_law_r8) (i := 5) rfl)
set_option maxRecDepth 20000 in
theorem tL_8_5 : (Cond.code yX8_changeStrokes cX8_changeStrokes 4 (some .int)) ∈ lw_tbl := tb_2 _ (List.mem_of_getElem? (l := tables_1_2) (i := 80) rfl)
set_option maxRecDepth 20000 in
theorem mL_8_6 : (Cond.methodLink RL 17 yX10_letter) ∈ wsL_law := inr_8 _ (List.mem_of_getElem? (l := wsL_law_r8) (i := 6) rfl)
set_option maxRecDepth 20000 in
theorem tL_8_6 : (Cond.methodLink RL 17 yX10_letter) ∈ lw_tbl := tb_4 _ (List.mem_of_getElem? (l := tables_1_4) (i := 235) rfl)
set_option maxRecDepth 20000 in
theorem mL_8_7 : (Cond.instanceMethod yX10_letter) ∈ wsL_law := inr_8 _ (List.mem_of_getElem? (l := wsL_law_r8) (i := 7) rfl)
set_option maxRecDepth 20000 in
theorem tL_8_7 : (Cond.instanceMethod yX10_letter) ∈ lw_tbl := tb_4 _ (List.mem_of_getElem? (l := tables_1_4) (i := 236) rfl)
set_option maxRecDepth 20000 in
theorem mL_8_8 : (Cond.selects RX10 yX10_letter yX10_letter) ∈ wsL_law := inr_8 _ (List.mem_of_getElem? (l := wsL_law_r8) (i := 8) rfl)
set_option maxRecDepth 20000 in
theorem tL_8_8 : (Cond.selects RX10 yX10_letter yX10_letter) ∈ lw_tbl := tb_4 _ (List.mem_of_getElem? (l := tables_1_4) (i := 237) rfl)
set_option maxRecDepth 20000 in
theorem mL_8_9 : (Cond.code yX10_letter cX10_letter 4 (some .int)) ∈ wsL_law := inr_8 _ (List.mem_of_getElem? (l := wsL_law_r8) (i := 9) rfl)
set_option maxRecDepth 20000 in
theorem tL_8_9 : (Cond.code yX10_letter cX10_letter 4 (some .int)) ∈ lw_tbl := tb_4 _ (List.mem_of_getElem? (l := tables_1_4) (i := 238) rfl)
set_option maxRecDepth 20000 in
theorem mL_8_10 : (Cond.methodLink RX10 124 yX10_isLetter) ∈ wsL_law := inr_8 _ (List.mem_of_getElem? (l := wsL_law_r8) (i := 10) rfl)
set_option maxRecDepth 20000 in
theorem tL_8_10 : (Cond.methodLink RX10 124 yX10_isLetter) ∈ lw_tbl := tb_4 _ (List.mem_of_getElem? (l := tables_1_4) (i := 239) rfl)
set_option maxRecDepth 20000 in
theorem mL_8_11 : (Cond.static yX10_isLetter) ∈ wsL_law := inr_8 _ (List.mem_of_getElem? (l := wsL_law_r8) (i := 11) rfl)
set_option maxRecDepth 20000 in
theorem tL_8_11 : (Cond.static yX10_isLetter) ∈ lw_tbl := tb_5 _ (List.mem_of_getElem? (l := tables_1_5) (i := 0) rfl)
set_option maxRecDepth 20000 in
theorem mL_8_12 : (Cond.code yX10_isLetter cX10_isLetter 1 (some .boolean)) ∈ wsL_law := inr_8 _ (List.mem_of_getElem? (l := wsL_law_r8) (i := 12) rfl)
set_option maxRecDepth 20000 in
theorem tL_8_12 : (Cond.code yX10_isLetter cX10_isLetter 1 (some .boolean)) ∈ lw_tbl := tb_5 _ (List.mem_of_getElem? (l := tables_1_5) (i := 1) rfl)
set_option maxRecDepth 20000 in
theorem mL_8_13 : (Cond.methodLink RX10 120 yX10_in) ∈ wsL_law := inr_8 _ (List.mem_of_getElem? (l := wsL_law_r8) (i := 13) rfl)
set_option maxRecDepth 20000 in
theorem tL_8_13 : (Cond.methodLink RX10 120 yX10_in) ∈ lw_tbl := tb_5 _ (List.mem_of_getElem? (l := tables_1_5) (i := 2) rfl)
set_option maxRecDepth 20000 in
theorem mL_8_14 : (Cond.static yX10_in) ∈ wsL_law := inr_8 _ (List.mem_of_getElem? (l := wsL_law_r8) (i := 14) rfl)
set_option maxRecDepth 20000 in
theorem tL_8_14 : (Cond.static yX10_in) ∈ lw_tbl := tb_5 _ (List.mem_of_getElem? (l := tables_1_5) (i := 3) rfl)
set_option maxRecDepth 20000 in
theorem mL_8_15 : (Cond.code yX10_in cX10_in 3 (some .boolean)) ∈ wsL_law := inr_8 _ (List.mem_of_getElem? (l := wsL_law_r8) (i := 15) rfl)
set_option maxRecDepth 20000 in
theorem tL_8_15 : (Cond.code yX10_in cX10_in 3 (some .boolean)) ∈ lw_tbl := tb_5 _ (List.mem_of_getElem? (l := tables_1_5) (i := 4) rfl)
set_option maxRecDepth 20000 in
theorem mL_8_16 : (Cond.methodLink RL 18 yX9_sheet) ∈ wsL_law := inr_8 _ (List.mem_of_getElem? (l := wsL_law_r8) (i := 16) rfl)
set_option maxRecDepth 20000 in
theorem tL_8_16 : (Cond.methodLink RL 18 yX9_sheet) ∈ lw_tbl := tb_2 _ (List.mem_of_getElem? (l := tables_1_2) (i := 81) rfl)
set_option maxRecDepth 20000 in
theorem mL_8_17 : (Cond.instanceMethod yX9_sheet) ∈ wsL_law := inr_8 _ (List.mem_of_getElem? (l := wsL_law_r8) (i := 17) rfl)
set_option maxRecDepth 20000 in
theorem tL_8_17 : (Cond.instanceMethod yX9_sheet) ∈ lw_tbl := tb_2 _ (List.mem_of_getElem? (l := tables_1_2) (i := 82) rfl)
set_option maxRecDepth 20000 in
theorem mL_8_18 : (Cond.selects RX9 yX9_sheet yX9_sheet) ∈ wsL_law := inr_8 _ (List.mem_of_getElem? (l := wsL_law_r8) (i := 18) rfl)
set_option maxRecDepth 20000 in
theorem tL_8_18 : (Cond.selects RX9 yX9_sheet yX9_sheet) ∈ lw_tbl := tb_2 _ (List.mem_of_getElem? (l := tables_1_2) (i := 83) rfl)
set_option maxRecDepth 20000 in
theorem mL_8_19 : (Cond.code yX9_sheet cX9_sheet 3 (some .int)) ∈ wsL_law := inr_8 _ (List.mem_of_getElem? (l := wsL_law_r8) (i := 19) rfl)
set_option maxRecDepth 20000 in
theorem tL_8_19 : (Cond.code yX9_sheet cX9_sheet 3 (some .int)) ∈ lw_tbl := tb_2 _ (List.mem_of_getElem? (l := tables_1_2) (i := 84) rfl)
set_option maxRecDepth 20000 in
theorem mL_8_20 : (Cond.methodLink RX9 93 yX5_isNumber) ∈ wsL_law := inr_8 _ (List.mem_of_getElem? (l := wsL_law_r8) (i := 20) rfl)
set_option maxRecDepth 20000 in
theorem tL_8_20 : (Cond.methodLink RX9 93 yX5_isNumber) ∈ lw_tbl := tb_2 _ (List.mem_of_getElem? (l := tables_1_2) (i := 85) rfl)
set_option maxRecDepth 20000 in
theorem mL_8_21 : (Cond.static yX5_isNumber) ∈ wsL_law := inr_8 _ (List.mem_of_getElem? (l := wsL_law_r8) (i := 21) rfl)
set_option maxRecDepth 20000 in
theorem tL_8_21 : (Cond.static yX5_isNumber) ∈ lw_tbl := tb_2 _ (List.mem_of_getElem? (l := tables_1_2) (i := 86) rfl)
set_option maxRecDepth 20000 in
theorem mL_8_22 : (Cond.code yX5_isNumber cX5_isNumber 1 (some .boolean)) ∈ wsL_law := inr_8 _ (List.mem_of_getElem? (l := wsL_law_r8) (i := 22) rfl)
set_option maxRecDepth 20000 in
theorem tL_8_22 : (Cond.code yX5_isNumber cX5_isNumber 1 (some .boolean)) ∈ lw_tbl := tb_2 _ (List.mem_of_getElem? (l := tables_1_2) (i := 87) rfl)
set_option maxRecDepth 20000 in
theorem mL_8_23 : (Cond.methodLink RX9 96 yX9_refuse) ∈ wsL_law := inr_8 _ (List.mem_of_getElem? (l := wsL_law_r8) (i := 23) rfl)
set_option maxRecDepth 20000 in
theorem tL_8_23 : (Cond.methodLink RX9 96 yX9_refuse) ∈ lw_tbl := tb_2 _ (List.mem_of_getElem? (l := tables_1_2) (i := 88) rfl)
set_option maxRecDepth 20000 in
theorem tin_8 : ∀ w ∈ wsL_law_r8, w ∈ lw_tbl := List.forall_mem_cons.mpr ⟨tL_8_0, List.forall_mem_cons.mpr ⟨tL_8_1, List.forall_mem_cons.mpr ⟨tL_8_2, List.forall_mem_cons.mpr ⟨tL_8_3, List.forall_mem_cons.mpr ⟨tL_8_4, List.forall_mem_cons.mpr ⟨tL_8_5, List.forall_mem_cons.mpr ⟨tL_8_6, List.forall_mem_cons.mpr ⟨tL_8_7, List.forall_mem_cons.mpr ⟨tL_8_8, List.forall_mem_cons.mpr ⟨tL_8_9, List.forall_mem_cons.mpr ⟨tL_8_10, List.forall_mem_cons.mpr ⟨tL_8_11, List.forall_mem_cons.mpr ⟨tL_8_12, List.forall_mem_cons.mpr ⟨tL_8_13, List.forall_mem_cons.mpr ⟨tL_8_14, List.forall_mem_cons.mpr ⟨tL_8_15, List.forall_mem_cons.mpr ⟨tL_8_16, List.forall_mem_cons.mpr ⟨tL_8_17, List.forall_mem_cons.mpr ⟨tL_8_18, List.forall_mem_cons.mpr ⟨tL_8_19, List.forall_mem_cons.mpr ⟨tL_8_20, List.forall_mem_cons.mpr ⟨tL_8_21, List.forall_mem_cons.mpr ⟨tL_8_22, List.forall_mem_cons.mpr ⟨tL_8_23, List.forall_mem_nil _⟩⟩⟩⟩⟩⟩⟩⟩⟩⟩⟩⟩⟩⟩⟩⟩⟩⟩⟩⟩⟩⟩⟩⟩
set_option maxRecDepth 20000 in
theorem mL_9_0 : (Cond.instanceMethod yX9_refuse) ∈ wsL_law := inr_9 _ (List.mem_of_getElem? (l := wsL_law_r9) (i := 0) rfl)
set_option maxRecDepth 20000 in
theorem tL_9_0 : (Cond.instanceMethod yX9_refuse) ∈ lw_tbl := tb_2 _ (List.mem_of_getElem? (l := tables_1_2) (i := 90) rfl)
set_option maxRecDepth 20000 in
theorem mL_9_1 : (Cond.selects RX9 yX9_refuse yX9_refuse) ∈ wsL_law := inr_9 _ (List.mem_of_getElem? (l := wsL_law_r9) (i := 1) rfl)
set_option maxRecDepth 20000 in
theorem tL_9_1 : (Cond.selects RX9 yX9_refuse yX9_refuse) ∈ lw_tbl := List.mem_append_left _ (List.mem_of_getElem? (l := k2_sels lw_privs) (i := 0) rfl)
set_option maxRecDepth 20000 in
theorem mL_9_2 : (Cond.code yX9_refuse cX9_refuse 2 (some .int)) ∈ wsL_law := inr_9 _ (List.mem_of_getElem? (l := wsL_law_r9) (i := 2) rfl)
set_option maxRecDepth 20000 in
theorem tL_9_2 : (Cond.code yX9_refuse cX9_refuse 2 (some .int)) ∈ lw_tbl := tb_2 _ (List.mem_of_getElem? (l := tables_1_2) (i := 91) rfl)
set_option maxRecDepth 20000 in
theorem mL_9_3 : (Cond.fieldLink RX9 354 "GhostSigns" "latestFinding" "I") ∈ wsL_law := inr_9 _ (List.mem_of_getElem? (l := wsL_law_r9) (i := 3) rfl)
set_option maxRecDepth 20000 in
theorem tL_9_3 : (Cond.fieldLink RX9 354 "GhostSigns" "latestFinding" "I") ∈ lw_tbl := tb_2 _ (List.mem_of_getElem? (l := tables_1_2) (i := 36) rfl)
set_option maxRecDepth 20000 in
theorem mL_9_4 : (Cond.methodLink RX9 100 yX5_bring) ∈ wsL_law := inr_9 _ (List.mem_of_getElem? (l := wsL_law_r9) (i := 4) rfl)
set_option maxRecDepth 20000 in
theorem tL_9_4 : (Cond.methodLink RX9 100 yX5_bring) ∈ lw_tbl := tb_2 _ (List.mem_of_getElem? (l := tables_1_2) (i := 92) rfl)
set_option maxRecDepth 20000 in
theorem mL_9_5 : (Cond.instanceMethod yX5_bring) ∈ wsL_law := inr_9 _ (List.mem_of_getElem? (l := wsL_law_r9) (i := 5) rfl)
set_option maxRecDepth 20000 in
theorem tL_9_5 : (Cond.instanceMethod yX5_bring) ∈ lw_tbl := tb_2 _ (List.mem_of_getElem? (l := tables_1_2) (i := 93) rfl)
set_option maxRecDepth 20000 in
theorem mL_9_6 : (Cond.selects RX5 yX5_bring yX5_bring) ∈ wsL_law := inr_9 _ (List.mem_of_getElem? (l := wsL_law_r9) (i := 6) rfl)
set_option maxRecDepth 20000 in
theorem tL_9_6 : (Cond.selects RX5 yX5_bring yX5_bring) ∈ lw_tbl := tb_2 _ (List.mem_of_getElem? (l := tables_1_2) (i := 94) rfl)
set_option maxRecDepth 20000 in
theorem mL_9_7 : (Cond.code yX5_bring cX5_bring 3 none) ∈ wsL_law := inr_9 _ (List.mem_of_getElem? (l := wsL_law_r9) (i := 7) rfl)
set_option maxRecDepth 20000 in
theorem tL_9_7 : (Cond.code yX5_bring cX5_bring 3 none) ∈ lw_tbl := tb_2 _ (List.mem_of_getElem? (l := tables_1_2) (i := 95) rfl)
set_option maxRecDepth 20000 in
theorem mL_9_8 : (Cond.methodLink RX5 24 yJ7_fill_031fb) ∈ wsL_law := inr_9 _ (List.mem_of_getElem? (l := wsL_law_r9) (i := 8) rfl)
set_option maxRecDepth 20000 in
theorem tL_9_8 : (Cond.methodLink RX5 24 yJ7_fill_031fb) ∈ lw_tbl := tb_2 _ (List.mem_of_getElem? (l := tables_1_2) (i := 96) rfl)
set_option maxRecDepth 20000 in
theorem mL_9_9 : (Cond.static yJ7_fill_031fb) ∈ wsL_law := inr_9 _ (List.mem_of_getElem? (l := wsL_law_r9) (i := 9) rfl)
set_option maxRecDepth 20000 in
theorem tL_9_9 : (Cond.static yJ7_fill_031fb) ∈ lw_tbl := tb_2 _ (List.mem_of_getElem? (l := tables_1_2) (i := 97) rfl)
set_option maxRecDepth 20000 in
theorem mL_9_10 : (Cond.code yJ7_fill_031fb cJ7_fill_031fb 4 none) ∈ wsL_law := inr_9 _ (List.mem_of_getElem? (l := wsL_law_r9) (i := 10) rfl)
set_option maxRecDepth 20000 in
theorem tL_9_10 : (Cond.code yJ7_fill_031fb cJ7_fill_031fb 4 none) ∈ lw_tbl := tb_2 _ (List.mem_of_getElem? (l := tables_1_2) (i := 98) rfl)
set_option maxRecDepth 20000 in
theorem mL_9_11 : (Cond.methodLink RL 21 yX10_sheet) ∈ wsL_law := inr_9 _ (List.mem_of_getElem? (l := wsL_law_r9) (i := 11) rfl)
set_option maxRecDepth 20000 in
theorem tL_9_11 : (Cond.methodLink RL 21 yX10_sheet) ∈ lw_tbl := tb_5 _ (List.mem_of_getElem? (l := tables_1_5) (i := 5) rfl)
set_option maxRecDepth 20000 in
theorem mL_9_12 : (Cond.instanceMethod yX10_sheet) ∈ wsL_law := inr_9 _ (List.mem_of_getElem? (l := wsL_law_r9) (i := 12) rfl)
set_option maxRecDepth 20000 in
theorem tL_9_12 : (Cond.instanceMethod yX10_sheet) ∈ lw_tbl := tb_5 _ (List.mem_of_getElem? (l := tables_1_5) (i := 6) rfl)
set_option maxRecDepth 20000 in
theorem mL_9_13 : (Cond.selects RX10 yX10_sheet yX10_sheet) ∈ wsL_law := inr_9 _ (List.mem_of_getElem? (l := wsL_law_r9) (i := 13) rfl)
set_option maxRecDepth 20000 in
theorem tL_9_13 : (Cond.selects RX10 yX10_sheet yX10_sheet) ∈ lw_tbl := tb_5 _ (List.mem_of_getElem? (l := tables_1_5) (i := 7) rfl)
set_option maxRecDepth 20000 in
theorem mL_9_14 : (Cond.code yX10_sheet cX10_sheet 4 (some .int)) ∈ wsL_law := inr_9 _ (List.mem_of_getElem? (l := wsL_law_r9) (i := 14) rfl)
set_option maxRecDepth 20000 in
theorem tL_9_14 : (Cond.code yX10_sheet cX10_sheet 4 (some .int)) ∈ lw_tbl := tb_5 _ (List.mem_of_getElem? (l := tables_1_5) (i := 8) rfl)
set_option maxRecDepth 20000 in
theorem mL_9_15 : (Cond.methodLink RX10 128 yX10_isSheet) ∈ wsL_law := inr_9 _ (List.mem_of_getElem? (l := wsL_law_r9) (i := 15) rfl)
set_option maxRecDepth 20000 in
theorem tL_9_15 : (Cond.methodLink RX10 128 yX10_isSheet) ∈ lw_tbl := tb_5 _ (List.mem_of_getElem? (l := tables_1_5) (i := 9) rfl)
set_option maxRecDepth 20000 in
theorem mL_9_16 : (Cond.static yX10_isSheet) ∈ wsL_law := inr_9 _ (List.mem_of_getElem? (l := wsL_law_r9) (i := 16) rfl)
set_option maxRecDepth 20000 in
theorem tL_9_16 : (Cond.static yX10_isSheet) ∈ lw_tbl := tb_5 _ (List.mem_of_getElem? (l := tables_1_5) (i := 10) rfl)
set_option maxRecDepth 20000 in
theorem mL_9_17 : (Cond.code yX10_isSheet cX10_isSheet 1 (some .boolean)) ∈ wsL_law := inr_9 _ (List.mem_of_getElem? (l := wsL_law_r9) (i := 17) rfl)
set_option maxRecDepth 20000 in
theorem tL_9_17 : (Cond.code yX10_isSheet cX10_isSheet 1 (some .boolean)) ∈ lw_tbl := tb_5 _ (List.mem_of_getElem? (l := tables_1_5) (i := 11) rfl)
set_option maxRecDepth 20000 in
theorem mL_9_18 : (Cond.methodLink RX10 131 yX10_meets) ∈ wsL_law := inr_9 _ (List.mem_of_getElem? (l := wsL_law_r9) (i := 18) rfl)
set_option maxRecDepth 20000 in
theorem tL_9_18 : (Cond.methodLink RX10 131 yX10_meets) ∈ lw_tbl := tb_5 _ (List.mem_of_getElem? (l := tables_1_5) (i := 12) rfl)
set_option maxRecDepth 20000 in
theorem mL_9_19 : (Cond.instanceMethod yX10_meets) ∈ wsL_law := inr_9 _ (List.mem_of_getElem? (l := wsL_law_r9) (i := 19) rfl)
set_option maxRecDepth 20000 in
theorem tL_9_19 : (Cond.instanceMethod yX10_meets) ∈ lw_tbl := tb_5 _ (List.mem_of_getElem? (l := tables_1_5) (i := 14) rfl)
set_option maxRecDepth 20000 in
theorem mL_9_20 : (Cond.selects RX10 yX10_meets yX10_meets) ∈ wsL_law := inr_9 _ (List.mem_of_getElem? (l := wsL_law_r9) (i := 20) rfl)
set_option maxRecDepth 20000 in
theorem tL_9_20 : (Cond.selects RX10 yX10_meets yX10_meets) ∈ lw_tbl := List.mem_append_left _ (List.mem_of_getElem? (l := k2_sels lw_privs) (i := 17) rfl)
set_option maxRecDepth 20000 in
theorem mL_9_21 : (Cond.code yX10_meets cX10_meets 2 (some .int)) ∈ wsL_law := inr_9 _ (List.mem_of_getElem? (l := wsL_law_r9) (i := 21) rfl)
set_option maxRecDepth 20000 in
theorem tL_9_21 : (Cond.code yX10_meets cX10_meets 2 (some .int)) ∈ lw_tbl := tb_5 _ (List.mem_of_getElem? (l := tables_1_5) (i := 15) rfl)
set_option maxRecDepth 20000 in
theorem mL_9_22 : (Cond.fieldLink RX10 117 "GhostSignsModel" "finding" "I") ∈ wsL_law := inr_9 _ (List.mem_of_getElem? (l := wsL_law_r9) (i := 22) rfl)
set_option maxRecDepth 20000 in
theorem tL_9_22 : (Cond.fieldLink RX10 117 "GhostSignsModel" "finding" "I") ∈ lw_tbl := tb_4 _ (List.mem_of_getElem? (l := tables_1_4) (i := 102) rfl)
set_option maxRecDepth 20000 in
theorem mL_9_23 : (Cond.methodLink RL 22 yX9_lay) ∈ wsL_law := inr_9 _ (List.mem_of_getElem? (l := wsL_law_r9) (i := 23) rfl)
set_option maxRecDepth 20000 in
theorem tL_9_23 : (Cond.methodLink RL 22 yX9_lay) ∈ lw_tbl := tb_2 _ (List.mem_of_getElem? (l := tables_1_2) (i := 99) rfl)
set_option maxRecDepth 20000 in
theorem tin_9 : ∀ w ∈ wsL_law_r9, w ∈ lw_tbl := List.forall_mem_cons.mpr ⟨tL_9_0, List.forall_mem_cons.mpr ⟨tL_9_1, List.forall_mem_cons.mpr ⟨tL_9_2, List.forall_mem_cons.mpr ⟨tL_9_3, List.forall_mem_cons.mpr ⟨tL_9_4, List.forall_mem_cons.mpr ⟨tL_9_5, List.forall_mem_cons.mpr ⟨tL_9_6, List.forall_mem_cons.mpr ⟨tL_9_7, List.forall_mem_cons.mpr ⟨tL_9_8, List.forall_mem_cons.mpr ⟨tL_9_9, List.forall_mem_cons.mpr ⟨tL_9_10, List.forall_mem_cons.mpr ⟨tL_9_11, List.forall_mem_cons.mpr ⟨tL_9_12, List.forall_mem_cons.mpr ⟨tL_9_13, List.forall_mem_cons.mpr ⟨tL_9_14, List.forall_mem_cons.mpr ⟨tL_9_15, List.forall_mem_cons.mpr ⟨tL_9_16, List.forall_mem_cons.mpr ⟨tL_9_17, List.forall_mem_cons.mpr ⟨tL_9_18, List.forall_mem_cons.mpr ⟨tL_9_19, List.forall_mem_cons.mpr ⟨tL_9_20, List.forall_mem_cons.mpr ⟨tL_9_21, List.forall_mem_cons.mpr ⟨tL_9_22, List.forall_mem_cons.mpr ⟨tL_9_23, List.forall_mem_nil _⟩⟩⟩⟩⟩⟩⟩⟩⟩⟩⟩⟩⟩⟩⟩⟩⟩⟩⟩⟩⟩⟩⟩⟩
set_option maxRecDepth 20000 in
theorem mL_10_0 : (Cond.instanceMethod yX9_lay) ∈ wsL_law := inr_10 _ (List.mem_of_getElem? (l := wsL_law_r10) (i := 0) rfl)
set_option maxRecDepth 20000 in
theorem tL_10_0 : (Cond.instanceMethod yX9_lay) ∈ lw_tbl := tb_2 _ (List.mem_of_getElem? (l := tables_1_2) (i := 100) rfl)
set_option maxRecDepth 20000 in
theorem mL_10_1 : (Cond.selects RX9 yX9_lay yX9_lay) ∈ wsL_law := inr_10 _ (List.mem_of_getElem? (l := wsL_law_r10) (i := 1) rfl)
set_option maxRecDepth 20000 in
theorem tL_10_1 : (Cond.selects RX9 yX9_lay yX9_lay) ∈ lw_tbl := tb_2 _ (List.mem_of_getElem? (l := tables_1_2) (i := 101) rfl)
set_option maxRecDepth 20000 in
theorem mL_10_2 : (Cond.code yX9_lay cX9_lay 4 (some .int)) ∈ wsL_law := inr_10 _ (List.mem_of_getElem? (l := wsL_law_r10) (i := 2) rfl)
set_option maxRecDepth 20000 in
theorem tL_10_2 : (Cond.code yX9_lay cX9_lay 4 (some .int)) ∈ lw_tbl := tb_2 _ (List.mem_of_getElem? (l := tables_1_2) (i := 102) rfl)
set_option maxRecDepth 20000 in
theorem mL_10_3 : (Cond.methodLink RX9 104 yX5_isThere) ∈ wsL_law := inr_10 _ (List.mem_of_getElem? (l := wsL_law_r10) (i := 3) rfl)
set_option maxRecDepth 20000 in
theorem tL_10_3 : (Cond.methodLink RX9 104 yX5_isThere) ∈ lw_tbl := tb_2 _ (List.mem_of_getElem? (l := tables_1_2) (i := 103) rfl)
set_option maxRecDepth 20000 in
theorem mL_10_4 : (Cond.instanceMethod yX5_isThere) ∈ wsL_law := inr_10 _ (List.mem_of_getElem? (l := wsL_law_r10) (i := 4) rfl)
set_option maxRecDepth 20000 in
theorem tL_10_4 : (Cond.instanceMethod yX5_isThere) ∈ lw_tbl := tb_2 _ (List.mem_of_getElem? (l := tables_1_2) (i := 104) rfl)
set_option maxRecDepth 20000 in
theorem mL_10_5 : (Cond.selects RX5 yX5_isThere yX5_isThere) ∈ wsL_law := inr_10 _ (List.mem_of_getElem? (l := wsL_law_r10) (i := 5) rfl)
set_option maxRecDepth 20000 in
theorem tL_10_5 : (Cond.selects RX5 yX5_isThere yX5_isThere) ∈ lw_tbl := tb_2 _ (List.mem_of_getElem? (l := tables_1_2) (i := 105) rfl)
set_option maxRecDepth 20000 in
theorem mL_10_6 : (Cond.code yX5_isThere cX5_isThere 2 (some .boolean)) ∈ wsL_law := inr_10 _ (List.mem_of_getElem? (l := wsL_law_r10) (i := 6) rfl)
set_option maxRecDepth 20000 in
theorem tL_10_6 : (Cond.code yX5_isThere cX5_isThere 2 (some .boolean)) ∈ lw_tbl := tb_2 _ (List.mem_of_getElem? (l := tables_1_2) (i := 106) rfl)
set_option maxRecDepth 20000 in
theorem mL_10_7 : (Cond.methodLink RX9 107 yX5_hasRun) ∈ wsL_law := inr_10 _ (List.mem_of_getElem? (l := wsL_law_r10) (i := 7) rfl)
set_option maxRecDepth 20000 in
theorem tL_10_7 : (Cond.methodLink RX9 107 yX5_hasRun) ∈ lw_tbl := tb_2 _ (List.mem_of_getElem? (l := tables_1_2) (i := 107) rfl)
set_option maxRecDepth 20000 in
theorem mL_10_8 : (Cond.instanceMethod yX5_hasRun) ∈ wsL_law := inr_10 _ (List.mem_of_getElem? (l := wsL_law_r10) (i := 8) rfl)
set_option maxRecDepth 20000 in
theorem tL_10_8 : (Cond.instanceMethod yX5_hasRun) ∈ lw_tbl := tb_2 _ (List.mem_of_getElem? (l := tables_1_2) (i := 108) rfl)
set_option maxRecDepth 20000 in
theorem mL_10_9 : (Cond.selects RX5 yX5_hasRun yX5_hasRun) ∈ wsL_law := inr_10 _ (List.mem_of_getElem? (l := wsL_law_r10) (i := 9) rfl)
set_option maxRecDepth 20000 in
theorem tL_10_9 : (Cond.selects RX5 yX5_hasRun yX5_hasRun) ∈ lw_tbl := tb_2 _ (List.mem_of_getElem? (l := tables_1_2) (i := 109) rfl)
set_option maxRecDepth 20000 in
theorem mL_10_10 : (Cond.code yX5_hasRun cX5_hasRun 4 (some .boolean)) ∈ wsL_law := inr_10 _ (List.mem_of_getElem? (l := wsL_law_r10) (i := 10) rfl)
set_option maxRecDepth 20000 in
theorem tL_10_10 : (Cond.code yX5_hasRun cX5_hasRun 4 (some .boolean)) ∈ lw_tbl := tb_2 _ (List.mem_of_getElem? (l := tables_1_2) (i := 110) rfl)
set_option maxRecDepth 20000 in
theorem mL_10_11 : (Cond.methodLink RX9 111 yX5_changeByte) ∈ wsL_law := inr_10 _ (List.mem_of_getElem? (l := wsL_law_r10) (i := 11) rfl)
set_option maxRecDepth 20000 in
theorem tL_10_11 : (Cond.methodLink RX9 111 yX5_changeByte) ∈ lw_tbl := tb_2 _ (List.mem_of_getElem? (l := tables_1_2) (i := 111) rfl)
set_option maxRecDepth 20000 in
theorem mL_10_12 : (Cond.instanceMethod yX5_changeByte) ∈ wsL_law := inr_10 _ (List.mem_of_getElem? (l := wsL_law_r10) (i := 12) rfl)
set_option maxRecDepth 20000 in
theorem tL_10_12 : (Cond.instanceMethod yX5_changeByte) ∈ lw_tbl := tb_2 _ (List.mem_of_getElem? (l := tables_1_2) (i := 112) rfl)
set_option maxRecDepth 20000 in
theorem mL_10_13 : (Cond.selects RX5 yX5_changeByte yX5_changeByte) ∈ wsL_law := inr_10 _ (List.mem_of_getElem? (l := wsL_law_r10) (i := 13) rfl)
set_option maxRecDepth 20000 in
theorem tL_10_13 : (Cond.selects RX5 yX5_changeByte yX5_changeByte) ∈ lw_tbl := tb_2 _ (List.mem_of_getElem? (l := tables_1_2) (i := 113) rfl)
set_option maxRecDepth 20000 in
theorem mL_10_14 : (Cond.code yX5_changeByte cX5_changeByte 5 (some .int)) ∈ wsL_law := inr_10 _ (List.mem_of_getElem? (l := wsL_law_r10) (i := 14) rfl)
set_option maxRecDepth 20000 in
theorem tL_10_14 : (Cond.code yX5_changeByte cX5_changeByte 5 (some .int)) ∈ lw_tbl := tb_2 _ (List.mem_of_getElem? (l := tables_1_2) (i := 114) rfl)
set_option maxRecDepth 20000 in
theorem mL_10_15 : (Cond.methodLink RL 26 yX10_lay) ∈ wsL_law := inr_10 _ (List.mem_of_getElem? (l := wsL_law_r10) (i := 15) rfl)
set_option maxRecDepth 20000 in
theorem tL_10_15 : (Cond.methodLink RL 26 yX10_lay) ∈ lw_tbl := tb_5 _ (List.mem_of_getElem? (l := tables_1_5) (i := 16) rfl)
set_option maxRecDepth 20000 in
theorem mL_10_16 : (Cond.instanceMethod yX10_lay) ∈ wsL_law := inr_10 _ (List.mem_of_getElem? (l := wsL_law_r10) (i := 16) rfl)
set_option maxRecDepth 20000 in
theorem tL_10_16 : (Cond.instanceMethod yX10_lay) ∈ lw_tbl := tb_5 _ (List.mem_of_getElem? (l := tables_1_5) (i := 17) rfl)
set_option maxRecDepth 20000 in
theorem mL_10_17 : (Cond.selects RX10 yX10_lay yX10_lay) ∈ wsL_law := inr_10 _ (List.mem_of_getElem? (l := wsL_law_r10) (i := 17) rfl)
set_option maxRecDepth 20000 in
theorem tL_10_17 : (Cond.selects RX10 yX10_lay yX10_lay) ∈ lw_tbl := tb_5 _ (List.mem_of_getElem? (l := tables_1_5) (i := 18) rfl)
set_option maxRecDepth 20000 in
theorem mL_10_18 : (Cond.code yX10_lay cX10_lay 6 (some .int)) ∈ wsL_law := inr_10 _ (List.mem_of_getElem? (l := wsL_law_r10) (i := 18) rfl)
set_option maxRecDepth 20000 in
theorem tL_10_18 : (Cond.code yX10_lay cX10_lay 6 (some .int)) ∈ lw_tbl := tb_5 _ (List.mem_of_getElem? (l := tables_1_5) (i := 19) rfl)
set_option maxRecDepth 20000 in
theorem mL_10_19 : (Cond.methodLink RX10 135 yX10_looked) ∈ wsL_law := inr_10 _ (List.mem_of_getElem? (l := wsL_law_r10) (i := 19) rfl)
set_option maxRecDepth 20000 in
theorem tL_10_19 : (Cond.methodLink RX10 135 yX10_looked) ∈ lw_tbl := tb_5 _ (List.mem_of_getElem? (l := tables_1_5) (i := 20) rfl)
set_option maxRecDepth 20000 in
theorem mL_10_20 : (Cond.instanceMethod yX10_looked) ∈ wsL_law := inr_10 _ (List.mem_of_getElem? (l := wsL_law_r10) (i := 20) rfl)
set_option maxRecDepth 20000 in
theorem tL_10_20 : (Cond.instanceMethod yX10_looked) ∈ lw_tbl := tb_5 _ (List.mem_of_getElem? (l := tables_1_5) (i := 22) rfl)
set_option maxRecDepth 20000 in
theorem mL_10_21 : (Cond.selects RX10 yX10_looked yX10_looked) ∈ wsL_law := inr_10 _ (List.mem_of_getElem? (l := wsL_law_r10) (i := 21) rfl)
set_option maxRecDepth 20000 in
theorem tL_10_21 : (Cond.selects RX10 yX10_looked yX10_looked) ∈ lw_tbl := List.mem_append_left _ (List.mem_of_getElem? (l := k2_sels lw_privs) (i := 18) rfl)
set_option maxRecDepth 20000 in
theorem mL_10_22 : (Cond.code yX10_looked cX10_looked 2 (some .int)) ∈ wsL_law := inr_10 _ (List.mem_of_getElem? (l := wsL_law_r10) (i := 22) rfl)
set_option maxRecDepth 20000 in
theorem tL_10_22 : (Cond.code yX10_looked cX10_looked 2 (some .int)) ∈ lw_tbl := tb_5 _ (List.mem_of_getElem? (l := tables_1_5) (i := 23) rfl)
set_option maxRecDepth 20000 in
theorem mL_10_23 : (Cond.methodLink RL 27 yX9_tear) ∈ wsL_law := inr_10 _ (List.mem_of_getElem? (l := wsL_law_r10) (i := 23) rfl)
set_option maxRecDepth 20000 in
theorem tL_10_23 : (Cond.methodLink RL 27 yX9_tear) ∈ lw_tbl := tb_2 _ (List.mem_of_getElem? (l := tables_1_2) (i := 115) rfl)
set_option maxRecDepth 20000 in
theorem tin_10 : ∀ w ∈ wsL_law_r10, w ∈ lw_tbl := List.forall_mem_cons.mpr ⟨tL_10_0, List.forall_mem_cons.mpr ⟨tL_10_1, List.forall_mem_cons.mpr ⟨tL_10_2, List.forall_mem_cons.mpr ⟨tL_10_3, List.forall_mem_cons.mpr ⟨tL_10_4, List.forall_mem_cons.mpr ⟨tL_10_5, List.forall_mem_cons.mpr ⟨tL_10_6, List.forall_mem_cons.mpr ⟨tL_10_7, List.forall_mem_cons.mpr ⟨tL_10_8, List.forall_mem_cons.mpr ⟨tL_10_9, List.forall_mem_cons.mpr ⟨tL_10_10, List.forall_mem_cons.mpr ⟨tL_10_11, List.forall_mem_cons.mpr ⟨tL_10_12, List.forall_mem_cons.mpr ⟨tL_10_13, List.forall_mem_cons.mpr ⟨tL_10_14, List.forall_mem_cons.mpr ⟨tL_10_15, List.forall_mem_cons.mpr ⟨tL_10_16, List.forall_mem_cons.mpr ⟨tL_10_17, List.forall_mem_cons.mpr ⟨tL_10_18, List.forall_mem_cons.mpr ⟨tL_10_19, List.forall_mem_cons.mpr ⟨tL_10_20, List.forall_mem_cons.mpr ⟨tL_10_21, List.forall_mem_cons.mpr ⟨tL_10_22, List.forall_mem_cons.mpr ⟨tL_10_23, List.forall_mem_nil _⟩⟩⟩⟩⟩⟩⟩⟩⟩⟩⟩⟩⟩⟩⟩⟩⟩⟩⟩⟩⟩⟩⟩⟩
set_option maxRecDepth 20000 in
theorem mL_11_0 : (Cond.instanceMethod yX9_tear) ∈ wsL_law := inr_11 _ (List.mem_of_getElem? (l := wsL_law_r11) (i := 0) rfl)
set_option maxRecDepth 20000 in
theorem tL_11_0 : (Cond.instanceMethod yX9_tear) ∈ lw_tbl := tb_2 _ (List.mem_of_getElem? (l := tables_1_2) (i := 116) rfl)
set_option maxRecDepth 20000 in
theorem mL_11_1 : (Cond.selects RX9 yX9_tear yX9_tear) ∈ wsL_law := inr_11 _ (List.mem_of_getElem? (l := wsL_law_r11) (i := 1) rfl)
set_option maxRecDepth 20000 in
theorem tL_11_1 : (Cond.selects RX9 yX9_tear yX9_tear) ∈ lw_tbl := tb_2 _ (List.mem_of_getElem? (l := tables_1_2) (i := 117) rfl)
set_option maxRecDepth 20000 in
theorem mL_11_2 : (Cond.code yX9_tear cX9_tear 2 (some .int)) ∈ wsL_law := inr_11 _ (List.mem_of_getElem? (l := wsL_law_r11) (i := 2) rfl)
set_option maxRecDepth 20000 in
theorem tL_11_2 : (Cond.code yX9_tear cX9_tear 2 (some .int)) ∈ lw_tbl := tb_2 _ (List.mem_of_getElem? (l := tables_1_2) (i := 118) rfl)
set_option maxRecDepth 20000 in
theorem mL_11_3 : (Cond.methodLink RX9 115 yX5_remove) ∈ wsL_law := inr_11 _ (List.mem_of_getElem? (l := wsL_law_r11) (i := 3) rfl)
set_option maxRecDepth 20000 in
theorem tL_11_3 : (Cond.methodLink RX9 115 yX5_remove) ∈ lw_tbl := tb_2 _ (List.mem_of_getElem? (l := tables_1_2) (i := 119) rfl)
set_option maxRecDepth 20000 in
theorem mL_11_4 : (Cond.instanceMethod yX5_remove) ∈ wsL_law := inr_11 _ (List.mem_of_getElem? (l := wsL_law_r11) (i := 4) rfl)
set_option maxRecDepth 20000 in
theorem tL_11_4 : (Cond.instanceMethod yX5_remove) ∈ lw_tbl := tb_2 _ (List.mem_of_getElem? (l := tables_1_2) (i := 120) rfl)
set_option maxRecDepth 20000 in
theorem mL_11_5 : (Cond.selects RX5 yX5_remove yX5_remove) ∈ wsL_law := inr_11 _ (List.mem_of_getElem? (l := wsL_law_r11) (i := 5) rfl)
set_option maxRecDepth 20000 in
theorem tL_11_5 : (Cond.selects RX5 yX5_remove yX5_remove) ∈ lw_tbl := tb_2 _ (List.mem_of_getElem? (l := tables_1_2) (i := 121) rfl)
set_option maxRecDepth 20000 in
theorem mL_11_6 : (Cond.code yX5_remove cX5_remove 2 none) ∈ wsL_law := inr_11 _ (List.mem_of_getElem? (l := wsL_law_r11) (i := 6) rfl)
set_option maxRecDepth 20000 in
theorem tL_11_6 : (Cond.code yX5_remove cX5_remove 2 none) ∈ lw_tbl := tb_2 _ (List.mem_of_getElem? (l := tables_1_2) (i := 122) rfl)
set_option maxRecDepth 20000 in
theorem mL_11_7 : (Cond.methodLink RL 31 yX10_tear) ∈ wsL_law := inr_11 _ (List.mem_of_getElem? (l := wsL_law_r11) (i := 7) rfl)
set_option maxRecDepth 20000 in
theorem tL_11_7 : (Cond.methodLink RL 31 yX10_tear) ∈ lw_tbl := tb_5 _ (List.mem_of_getElem? (l := tables_1_5) (i := 24) rfl)
set_option maxRecDepth 20000 in
theorem mL_11_8 : (Cond.instanceMethod yX10_tear) ∈ wsL_law := inr_11 _ (List.mem_of_getElem? (l := wsL_law_r11) (i := 8) rfl)
set_option maxRecDepth 20000 in
theorem tL_11_8 : (Cond.instanceMethod yX10_tear) ∈ lw_tbl := tb_5 _ (List.mem_of_getElem? (l := tables_1_5) (i := 25) rfl)
set_option maxRecDepth 20000 in
theorem mL_11_9 : (Cond.selects RX10 yX10_tear yX10_tear) ∈ wsL_law := inr_11 _ (List.mem_of_getElem? (l := wsL_law_r11) (i := 9) rfl)
set_option maxRecDepth 20000 in
theorem tL_11_9 : (Cond.selects RX10 yX10_tear yX10_tear) ∈ lw_tbl := tb_5 _ (List.mem_of_getElem? (l := tables_1_5) (i := 26) rfl)
set_option maxRecDepth 20000 in
theorem mL_11_10 : (Cond.code yX10_tear cX10_tear 3 (some .int)) ∈ wsL_law := inr_11 _ (List.mem_of_getElem? (l := wsL_law_r11) (i := 10) rfl)
set_option maxRecDepth 20000 in
theorem tL_11_10 : (Cond.code yX10_tear cX10_tear 3 (some .int)) ∈ lw_tbl := tb_5 _ (List.mem_of_getElem? (l := tables_1_5) (i := 27) rfl)
set_option maxRecDepth 20000 in
theorem mL_11_11 : (Cond.methodLink RL 32 yX9_copy) ∈ wsL_law := inr_11 _ (List.mem_of_getElem? (l := wsL_law_r11) (i := 11) rfl)
set_option maxRecDepth 20000 in
theorem tL_11_11 : (Cond.methodLink RL 32 yX9_copy) ∈ lw_tbl := tb_2 _ (List.mem_of_getElem? (l := tables_1_2) (i := 123) rfl)
set_option maxRecDepth 20000 in
theorem mL_11_12 : (Cond.instanceMethod yX9_copy) ∈ wsL_law := inr_11 _ (List.mem_of_getElem? (l := wsL_law_r11) (i := 12) rfl)
set_option maxRecDepth 20000 in
theorem tL_11_12 : (Cond.instanceMethod yX9_copy) ∈ lw_tbl := tb_2 _ (List.mem_of_getElem? (l := tables_1_2) (i := 124) rfl)
set_option maxRecDepth 20000 in
theorem mL_11_13 : (Cond.selects RX9 yX9_copy yX9_copy) ∈ wsL_law := inr_11 _ (List.mem_of_getElem? (l := wsL_law_r11) (i := 13) rfl)
set_option maxRecDepth 20000 in
theorem tL_11_13 : (Cond.selects RX9 yX9_copy yX9_copy) ∈ lw_tbl := tb_2 _ (List.mem_of_getElem? (l := tables_1_2) (i := 125) rfl)
set_option maxRecDepth 20000 in
theorem mL_11_14 : (Cond.code yX9_copy cX9_copy 6 (some .int)) ∈ wsL_law := inr_11 _ (List.mem_of_getElem? (l := wsL_law_r11) (i := 14) rfl)
set_option maxRecDepth 20000 in
theorem tL_11_14 : (Cond.code yX9_copy cX9_copy 6 (some .int)) ∈ lw_tbl := tb_2 _ (List.mem_of_getElem? (l := tables_1_2) (i := 126) rfl)
set_option maxRecDepth 20000 in
theorem mL_11_15 : (Cond.methodLink RX9 119 yX5_carry) ∈ wsL_law := inr_11 _ (List.mem_of_getElem? (l := wsL_law_r11) (i := 15) rfl)
set_option maxRecDepth 20000 in
theorem tL_11_15 : (Cond.methodLink RX9 119 yX5_carry) ∈ lw_tbl := tb_2 _ (List.mem_of_getElem? (l := tables_1_2) (i := 127) rfl)
set_option maxRecDepth 20000 in
theorem mL_11_16 : (Cond.instanceMethod yX5_carry) ∈ wsL_law := inr_11 _ (List.mem_of_getElem? (l := wsL_law_r11) (i := 16) rfl)
set_option maxRecDepth 20000 in
theorem tL_11_16 : (Cond.instanceMethod yX5_carry) ∈ lw_tbl := tb_2 _ (List.mem_of_getElem? (l := tables_1_2) (i := 128) rfl)
set_option maxRecDepth 20000 in
theorem mL_11_17 : (Cond.selects RX5 yX5_carry yX5_carry) ∈ wsL_law := inr_11 _ (List.mem_of_getElem? (l := wsL_law_r11) (i := 17) rfl)
set_option maxRecDepth 20000 in
theorem tL_11_17 : (Cond.selects RX5 yX5_carry yX5_carry) ∈ lw_tbl := tb_2 _ (List.mem_of_getElem? (l := tables_1_2) (i := 129) rfl)
set_option maxRecDepth 20000 in
theorem mL_11_18 : (Cond.code yX5_carry cX5_carry 6 none) ∈ wsL_law := inr_11 _ (List.mem_of_getElem? (l := wsL_law_r11) (i := 18) rfl)
set_option maxRecDepth 20000 in
theorem tL_11_18 : (Cond.code yX5_carry cX5_carry 6 none) ∈ lw_tbl := tb_2 _ (List.mem_of_getElem? (l := tables_1_2) (i := 130) rfl)
set_option maxRecDepth 20000 in
theorem mL_11_19 : (Cond.methodLink RX5 27 arraycopyName) ∈ wsL_law := inr_11 _ (List.mem_of_getElem? (l := wsL_law_r11) (i := 19) rfl)
set_option maxRecDepth 20000 in
theorem tL_11_19 : (Cond.methodLink RX5 27 arraycopyName) ∈ lw_tbl := tb_2 _ (List.mem_of_getElem? (l := tables_1_2) (i := 131) rfl)
set_option maxRecDepth 20000 in
theorem mL_11_20 : (Cond.native arraycopyName) ∈ wsL_law := inr_11 _ (List.mem_of_getElem? (l := wsL_law_r11) (i := 20) rfl)
set_option maxRecDepth 20000 in
theorem tL_11_20 : (Cond.native arraycopyName) ∈ lw_tbl := tb_2 _ (List.mem_of_getElem? (l := tables_1_2) (i := 133) rfl)
set_option maxRecDepth 20000 in
theorem mL_11_21 : (Cond.static arraycopyName) ∈ wsL_law := inr_11 _ (List.mem_of_getElem? (l := wsL_law_r11) (i := 21) rfl)
set_option maxRecDepth 20000 in
theorem tL_11_21 : (Cond.static arraycopyName) ∈ lw_tbl := tb_2 _ (List.mem_of_getElem? (l := tables_1_2) (i := 132) rfl)
set_option maxRecDepth 20000 in
theorem mL_11_22 : (Cond.initialized "java/lang/System") ∈ wsL_law := inr_11 _ (List.mem_of_getElem? (l := wsL_law_r11) (i := 22) rfl)
set_option maxRecDepth 20000 in
theorem tL_11_22 : (Cond.initialized "java/lang/System") ∈ lw_tbl := tb_1 _ (List.mem_of_getElem? (l := tables_1_1) (i := 13) rfl)
set_option maxRecDepth 20000 in
theorem mL_11_23 : (Cond.methodLink RL 36 yX10_copy) ∈ wsL_law := inr_11 _ (List.mem_of_getElem? (l := wsL_law_r11) (i := 23) rfl)
set_option maxRecDepth 20000 in
theorem tL_11_23 : (Cond.methodLink RL 36 yX10_copy) ∈ lw_tbl := tb_5 _ (List.mem_of_getElem? (l := tables_1_5) (i := 28) rfl)
set_option maxRecDepth 20000 in
theorem tin_11 : ∀ w ∈ wsL_law_r11, w ∈ lw_tbl := List.forall_mem_cons.mpr ⟨tL_11_0, List.forall_mem_cons.mpr ⟨tL_11_1, List.forall_mem_cons.mpr ⟨tL_11_2, List.forall_mem_cons.mpr ⟨tL_11_3, List.forall_mem_cons.mpr ⟨tL_11_4, List.forall_mem_cons.mpr ⟨tL_11_5, List.forall_mem_cons.mpr ⟨tL_11_6, List.forall_mem_cons.mpr ⟨tL_11_7, List.forall_mem_cons.mpr ⟨tL_11_8, List.forall_mem_cons.mpr ⟨tL_11_9, List.forall_mem_cons.mpr ⟨tL_11_10, List.forall_mem_cons.mpr ⟨tL_11_11, List.forall_mem_cons.mpr ⟨tL_11_12, List.forall_mem_cons.mpr ⟨tL_11_13, List.forall_mem_cons.mpr ⟨tL_11_14, List.forall_mem_cons.mpr ⟨tL_11_15, List.forall_mem_cons.mpr ⟨tL_11_16, List.forall_mem_cons.mpr ⟨tL_11_17, List.forall_mem_cons.mpr ⟨tL_11_18, List.forall_mem_cons.mpr ⟨tL_11_19, List.forall_mem_cons.mpr ⟨tL_11_20, List.forall_mem_cons.mpr ⟨tL_11_21, List.forall_mem_cons.mpr ⟨tL_11_22, List.forall_mem_cons.mpr ⟨tL_11_23, List.forall_mem_nil _⟩⟩⟩⟩⟩⟩⟩⟩⟩⟩⟩⟩⟩⟩⟩⟩⟩⟩⟩⟩⟩⟩⟩⟩
set_option maxRecDepth 20000 in
theorem mL_12_0 : (Cond.instanceMethod yX10_copy) ∈ wsL_law := inr_12 _ (List.mem_of_getElem? (l := wsL_law_r12) (i := 0) rfl)
set_option maxRecDepth 20000 in
theorem tL_12_0 : (Cond.instanceMethod yX10_copy) ∈ lw_tbl := tb_5 _ (List.mem_of_getElem? (l := tables_1_5) (i := 29) rfl)
set_option maxRecDepth 20000 in
theorem mL_12_1 : (Cond.selects RX10 yX10_copy yX10_copy) ∈ wsL_law := inr_12 _ (List.mem_of_getElem? (l := wsL_law_r12) (i := 1) rfl)
set_option maxRecDepth 20000 in
theorem tL_12_1 : (Cond.selects RX10 yX10_copy yX10_copy) ∈ lw_tbl := tb_5 _ (List.mem_of_getElem? (l := tables_1_5) (i := 30) rfl)
set_option maxRecDepth 20000 in
theorem mL_12_2 : (Cond.code yX10_copy cX10_copy 7 (some .int)) ∈ wsL_law := inr_12 _ (List.mem_of_getElem? (l := wsL_law_r12) (i := 2) rfl)
set_option maxRecDepth 20000 in
theorem tL_12_2 : (Cond.code yX10_copy cX10_copy 7 (some .int)) ∈ lw_tbl := tb_5 _ (List.mem_of_getElem? (l := tables_1_5) (i := 31) rfl)
set_option maxRecDepth 20000 in
theorem mL_12_3 : (Cond.methodLink RL 37 yX9_word) ∈ wsL_law := inr_12 _ (List.mem_of_getElem? (l := wsL_law_r12) (i := 3) rfl)
set_option maxRecDepth 20000 in
theorem tL_12_3 : (Cond.methodLink RL 37 yX9_word) ∈ lw_tbl := tb_2 _ (List.mem_of_getElem? (l := tables_1_2) (i := 134) rfl)
set_option maxRecDepth 20000 in
theorem mL_12_4 : (Cond.instanceMethod yX9_word) ∈ wsL_law := inr_12 _ (List.mem_of_getElem? (l := wsL_law_r12) (i := 4) rfl)
set_option maxRecDepth 20000 in
theorem tL_12_4 : (Cond.instanceMethod yX9_word) ∈ lw_tbl := tb_2 _ (List.mem_of_getElem? (l := tables_1_2) (i := 135) rfl)
set_option maxRecDepth 20000 in
theorem mL_12_5 : (Cond.selects RX9 yX9_word yX9_word) ∈ wsL_law := inr_12 _ (List.mem_of_getElem? (l := wsL_law_r12) (i := 5) rfl)
set_option maxRecDepth 20000 in
theorem tL_12_5 : (Cond.selects RX9 yX9_word yX9_word) ∈ lw_tbl := tb_2 _ (List.mem_of_getElem? (l := tables_1_2) (i := 136) rfl)
set_option maxRecDepth 20000 in
theorem mL_12_6 : (Cond.code yX9_word cX9_word 2 (some .int)) ∈ wsL_law := inr_12 _ (List.mem_of_getElem? (l := wsL_law_r12) (i := 6) rfl)
set_option maxRecDepth 20000 in
theorem tL_12_6 : (Cond.code yX9_word cX9_word 2 (some .int)) ∈ lw_tbl := tb_2 _ (List.mem_of_getElem? (l := tables_1_2) (i := 137) rfl)
set_option maxRecDepth 20000 in
theorem mL_12_7 : (Cond.fieldLink RX9 130 "GhostSigns$Sheets" "rows" "[[B") ∈ wsL_law := inr_12 _ (List.mem_of_getElem? (l := wsL_law_r12) (i := 7) rfl)
set_option maxRecDepth 20000 in
theorem tL_12_7 : (Cond.fieldLink RX9 130 "GhostSigns$Sheets" "rows" "[[B") ∈ lw_tbl := tb_1 _ (List.mem_of_getElem? (l := tables_1_1) (i := 36) rfl)
set_option maxRecDepth 20000 in
theorem mL_12_8 : (Cond.fieldLink RX9 134 "GhostSigns$Sheets" "sizes" "[I") ∈ wsL_law := inr_12 _ (List.mem_of_getElem? (l := wsL_law_r12) (i := 8) rfl)
set_option maxRecDepth 20000 in
theorem tL_12_8 : (Cond.fieldLink RX9 134 "GhostSigns$Sheets" "sizes" "[I") ∈ lw_tbl := tb_1 _ (List.mem_of_getElem? (l := tables_1_1) (i := 38) rfl)
set_option maxRecDepth 20000 in
theorem mL_12_9 : (Cond.methodLink RX9 123 yX8_isFull) ∈ wsL_law := inr_12 _ (List.mem_of_getElem? (l := wsL_law_r12) (i := 9) rfl)
set_option maxRecDepth 20000 in
theorem tL_12_9 : (Cond.methodLink RX9 123 yX8_isFull) ∈ lw_tbl := tb_2 _ (List.mem_of_getElem? (l := tables_1_2) (i := 138) rfl)
set_option maxRecDepth 20000 in
theorem mL_12_10 : (Cond.instanceMethod yX8_isFull) ∈ wsL_law := inr_12 _ (List.mem_of_getElem? (l := wsL_law_r12) (i := 10) rfl)
set_option maxRecDepth 20000 in
theorem tL_12_10 : (Cond.instanceMethod yX8_isFull) ∈ lw_tbl := tb_2 _ (List.mem_of_getElem? (l := tables_1_2) (i := 139) rfl)
set_option maxRecDepth 20000 in
theorem mL_12_11 : (Cond.selects RX8 yX8_isFull yX8_isFull) ∈ wsL_law := inr_12 _ (List.mem_of_getElem? (l := wsL_law_r12) (i := 11) rfl)
set_option maxRecDepth 20000 in
theorem tL_12_11 : (Cond.selects RX8 yX8_isFull yX8_isFull) ∈ lw_tbl := tb_2 _ (List.mem_of_getElem? (l := tables_1_2) (i := 140) rfl)
set_option maxRecDepth 20000 in
theorem mL_12_12 : (Cond.code yX8_isFull cX8_isFull 1 (some .boolean)) ∈ wsL_law := inr_12 _ (List.mem_of_getElem? (l := wsL_law_r12) (i := 12) rfl)
set_option maxRecDepth 20000 in
theorem tL_12_12 : (Cond.code yX8_isFull cX8_isFull 1 (some .boolean)) ∈ lw_tbl := tb_2 _ (List.mem_of_getElem? (l := tables_1_2) (i := 141) rfl)
set_option maxRecDepth 20000 in
theorem mL_12_13 : (Cond.fieldLink RX8 46 "GhostSigns$Words" "ever" "I") ∈ wsL_law := inr_12 _ (List.mem_of_getElem? (l := wsL_law_r12) (i := 13) rfl)
set_option maxRecDepth 20000 in
theorem tL_12_13 : (Cond.fieldLink RX8 46 "GhostSigns$Words" "ever" "I") ∈ lw_tbl := tb_1 _ (List.mem_of_getElem? (l := tables_1_1) (i := 68) rfl)
set_option maxRecDepth 20000 in
theorem mL_12_14 : (Cond.methodLink RX9 127 yX9_makesWord) ∈ wsL_law := inr_12 _ (List.mem_of_getElem? (l := wsL_law_r12) (i := 14) rfl)
set_option maxRecDepth 20000 in
theorem tL_12_14 : (Cond.methodLink RX9 127 yX9_makesWord) ∈ lw_tbl := tb_2 _ (List.mem_of_getElem? (l := tables_1_2) (i := 142) rfl)
set_option maxRecDepth 20000 in
theorem mL_12_15 : (Cond.instanceMethod yX9_makesWord) ∈ wsL_law := inr_12 _ (List.mem_of_getElem? (l := wsL_law_r12) (i := 15) rfl)
set_option maxRecDepth 20000 in
theorem tL_12_15 : (Cond.instanceMethod yX9_makesWord) ∈ lw_tbl := tb_2 _ (List.mem_of_getElem? (l := tables_1_2) (i := 144) rfl)
set_option maxRecDepth 20000 in
theorem mL_12_16 : (Cond.selects RX9 yX9_makesWord yX9_makesWord) ∈ wsL_law := inr_12 _ (List.mem_of_getElem? (l := wsL_law_r12) (i := 16) rfl)
set_option maxRecDepth 20000 in
theorem tL_12_16 : (Cond.selects RX9 yX9_makesWord yX9_makesWord) ∈ lw_tbl := List.mem_append_left _ (List.mem_of_getElem? (l := k2_sels lw_privs) (i := 1) rfl)
set_option maxRecDepth 20000 in
theorem mL_12_17 : (Cond.code yX9_makesWord cX9_makesWord 3 (some .boolean)) ∈ wsL_law := inr_12 _ (List.mem_of_getElem? (l := wsL_law_r12) (i := 17) rfl)
set_option maxRecDepth 20000 in
theorem tL_12_17 : (Cond.code yX9_makesWord cX9_makesWord 3 (some .boolean)) ∈ lw_tbl := tb_2 _ (List.mem_of_getElem? (l := tables_1_2) (i := 145) rfl)
set_option maxRecDepth 20000 in
theorem mL_12_18 : (Cond.methodLink RX9 372 yX8_lettersIn) ∈ wsL_law := inr_12 _ (List.mem_of_getElem? (l := wsL_law_r12) (i := 18) rfl)
set_option maxRecDepth 20000 in
theorem tL_12_18 : (Cond.methodLink RX9 372 yX8_lettersIn) ∈ lw_tbl := tb_2 _ (List.mem_of_getElem? (l := tables_1_2) (i := 146) rfl)
set_option maxRecDepth 20000 in
theorem mL_12_19 : (Cond.static yX8_lettersIn) ∈ wsL_law := inr_12 _ (List.mem_of_getElem? (l := wsL_law_r12) (i := 19) rfl)
set_option maxRecDepth 20000 in
theorem tL_12_19 : (Cond.static yX8_lettersIn) ∈ lw_tbl := tb_2 _ (List.mem_of_getElem? (l := tables_1_2) (i := 147) rfl)
set_option maxRecDepth 20000 in
theorem mL_12_20 : (Cond.code yX8_lettersIn cX8_lettersIn 4 (some .int)) ∈ wsL_law := inr_12 _ (List.mem_of_getElem? (l := wsL_law_r12) (i := 20) rfl)
set_option maxRecDepth 20000 in
theorem tL_12_20 : (Cond.code yX8_lettersIn cX8_lettersIn 4 (some .int)) ∈ lw_tbl := tb_2 _ (List.mem_of_getElem? (l := tables_1_2) (i := 148) rfl)
set_option maxRecDepth 20000 in
theorem mL_12_21 : (Cond.methodLink RX8 42 yX8_isLetter) ∈ wsL_law := inr_12 _ (List.mem_of_getElem? (l := wsL_law_r12) (i := 21) rfl)
set_option maxRecDepth 20000 in
theorem tL_12_21 : (Cond.methodLink RX8 42 yX8_isLetter) ∈ lw_tbl := tb_2 _ (List.mem_of_getElem? (l := tables_1_2) (i := 149) rfl)
set_option maxRecDepth 20000 in
theorem mL_12_22 : (Cond.methodLink RX9 137 yX8_add) ∈ wsL_law := inr_12 _ (List.mem_of_getElem? (l := wsL_law_r12) (i := 22) rfl)
set_option maxRecDepth 20000 in
theorem tL_12_22 : (Cond.methodLink RX9 137 yX8_add) ∈ lw_tbl := tb_2 _ (List.mem_of_getElem? (l := tables_1_2) (i := 150) rfl)
set_option maxRecDepth 20000 in
theorem mL_12_23 : (Cond.instanceMethod yX8_add) ∈ wsL_law := inr_12 _ (List.mem_of_getElem? (l := wsL_law_r12) (i := 23) rfl)
set_option maxRecDepth 20000 in
theorem tL_12_23 : (Cond.instanceMethod yX8_add) ∈ lw_tbl := tb_2 _ (List.mem_of_getElem? (l := tables_1_2) (i := 151) rfl)
set_option maxRecDepth 20000 in
theorem tin_12 : ∀ w ∈ wsL_law_r12, w ∈ lw_tbl := List.forall_mem_cons.mpr ⟨tL_12_0, List.forall_mem_cons.mpr ⟨tL_12_1, List.forall_mem_cons.mpr ⟨tL_12_2, List.forall_mem_cons.mpr ⟨tL_12_3, List.forall_mem_cons.mpr ⟨tL_12_4, List.forall_mem_cons.mpr ⟨tL_12_5, List.forall_mem_cons.mpr ⟨tL_12_6, List.forall_mem_cons.mpr ⟨tL_12_7, List.forall_mem_cons.mpr ⟨tL_12_8, List.forall_mem_cons.mpr ⟨tL_12_9, List.forall_mem_cons.mpr ⟨tL_12_10, List.forall_mem_cons.mpr ⟨tL_12_11, List.forall_mem_cons.mpr ⟨tL_12_12, List.forall_mem_cons.mpr ⟨tL_12_13, List.forall_mem_cons.mpr ⟨tL_12_14, List.forall_mem_cons.mpr ⟨tL_12_15, List.forall_mem_cons.mpr ⟨tL_12_16, List.forall_mem_cons.mpr ⟨tL_12_17, List.forall_mem_cons.mpr ⟨tL_12_18, List.forall_mem_cons.mpr ⟨tL_12_19, List.forall_mem_cons.mpr ⟨tL_12_20, List.forall_mem_cons.mpr ⟨tL_12_21, List.forall_mem_cons.mpr ⟨tL_12_22, List.forall_mem_cons.mpr ⟨tL_12_23, List.forall_mem_nil _⟩⟩⟩⟩⟩⟩⟩⟩⟩⟩⟩⟩⟩⟩⟩⟩⟩⟩⟩⟩⟩⟩⟩⟩
set_option maxRecDepth 20000 in
theorem mL_13_0 : (Cond.selects RX8 yX8_add yX8_add) ∈ wsL_law := inr_13 _ (List.mem_of_getElem? (l := wsL_law_r13) (i := 0) rfl)
set_option maxRecDepth 20000 in
theorem tL_13_0 : (Cond.selects RX8 yX8_add yX8_add) ∈ lw_tbl := tb_2 _ (List.mem_of_getElem? (l := tables_1_2) (i := 152) rfl)
set_option maxRecDepth 20000 in
theorem mL_13_1 : (Cond.code yX8_add cX8_add 8 (some .int)) ∈ wsL_law := inr_13 _ (List.mem_of_getElem? (l := wsL_law_r13) (i := 1) rfl)
set_option maxRecDepth 20000 in
theorem tL_13_1 : (Cond.code yX8_add cX8_add 8 (some .int)) ∈ lw_tbl := tb_2 _ (List.mem_of_getElem? (l := tables_1_2) (i := 153) rfl)
set_option maxRecDepth 20000 in
theorem mL_13_2 : (Cond.methodLink RX8 53 yX8_settle) ∈ wsL_law := inr_13 _ (List.mem_of_getElem? (l := wsL_law_r13) (i := 2) rfl)
set_option maxRecDepth 20000 in
theorem tL_13_2 : (Cond.methodLink RX8 53 yX8_settle) ∈ lw_tbl := tb_2 _ (List.mem_of_getElem? (l := tables_1_2) (i := 154) rfl)
set_option maxRecDepth 20000 in
theorem mL_13_3 : (Cond.instanceMethod yX8_settle) ∈ wsL_law := inr_13 _ (List.mem_of_getElem? (l := wsL_law_r13) (i := 3) rfl)
set_option maxRecDepth 20000 in
theorem tL_13_3 : (Cond.instanceMethod yX8_settle) ∈ lw_tbl := tb_2 _ (List.mem_of_getElem? (l := tables_1_2) (i := 155) rfl)
set_option maxRecDepth 20000 in
theorem mL_13_4 : (Cond.selects RX8 yX8_settle yX8_settle) ∈ wsL_law := inr_13 _ (List.mem_of_getElem? (l := wsL_law_r13) (i := 4) rfl)
set_option maxRecDepth 20000 in
theorem tL_13_4 : (Cond.selects RX8 yX8_settle yX8_settle) ∈ lw_tbl := tb_2 _ (List.mem_of_getElem? (l := tables_1_2) (i := 156) rfl)
set_option maxRecDepth 20000 in
theorem mL_13_5 : (Cond.code yX8_settle cX8_settle 5 none) ∈ wsL_law := inr_13 _ (List.mem_of_getElem? (l := wsL_law_r13) (i := 5) rfl)
set_option maxRecDepth 20000 in
theorem tL_13_5 : (Cond.code yX8_settle cX8_settle 5 none) ∈ lw_tbl := tb_2 _ (List.mem_of_getElem? (l := tables_1_2) (i := 157) rfl)
set_option maxRecDepth 20000 in
theorem mL_13_6 : (Cond.methodLink RL 40 yX10_word) ∈ wsL_law := inr_13 _ (List.mem_of_getElem? (l := wsL_law_r13) (i := 6) rfl)
set_option maxRecDepth 20000 in
theorem tL_13_6 : (Cond.methodLink RL 40 yX10_word) ∈ lw_tbl := tb_5 _ (List.mem_of_getElem? (l := tables_1_5) (i := 32) rfl)
set_option maxRecDepth 20000 in
theorem mL_13_7 : (Cond.instanceMethod yX10_word) ∈ wsL_law := inr_13 _ (List.mem_of_getElem? (l := wsL_law_r13) (i := 7) rfl)
set_option maxRecDepth 20000 in
theorem tL_13_7 : (Cond.instanceMethod yX10_word) ∈ lw_tbl := tb_5 _ (List.mem_of_getElem? (l := tables_1_5) (i := 33) rfl)
set_option maxRecDepth 20000 in
theorem mL_13_8 : (Cond.selects RX10 yX10_word yX10_word) ∈ wsL_law := inr_13 _ (List.mem_of_getElem? (l := wsL_law_r13) (i := 8) rfl)
set_option maxRecDepth 20000 in
theorem tL_13_8 : (Cond.selects RX10 yX10_word yX10_word) ∈ lw_tbl := tb_5 _ (List.mem_of_getElem? (l := tables_1_5) (i := 34) rfl)
set_option maxRecDepth 20000 in
theorem mL_13_9 : (Cond.code yX10_word cX10_word 2 (some .int)) ∈ wsL_law := inr_13 _ (List.mem_of_getElem? (l := wsL_law_r13) (i := 9) rfl)
set_option maxRecDepth 20000 in
theorem tL_13_9 : (Cond.code yX10_word cX10_word 2 (some .int)) ∈ lw_tbl := tb_5 _ (List.mem_of_getElem? (l := tables_1_5) (i := 35) rfl)
set_option maxRecDepth 20000 in
theorem mL_13_10 : (Cond.fieldLink RX10 141 "GhostSignsModel" "words" "I") ∈ wsL_law := inr_13 _ (List.mem_of_getElem? (l := wsL_law_r13) (i := 10) rfl)
set_option maxRecDepth 20000 in
theorem tL_13_10 : (Cond.fieldLink RX10 141 "GhostSignsModel" "words" "I") ∈ lw_tbl := tb_4 _ (List.mem_of_getElem? (l := tables_1_4) (i := 109) rfl)
set_option maxRecDepth 20000 in
theorem mL_13_11 : (Cond.methodLink RX10 144 yX10_put) ∈ wsL_law := inr_13 _ (List.mem_of_getElem? (l := wsL_law_r13) (i := 11) rfl)
set_option maxRecDepth 20000 in
theorem tL_13_11 : (Cond.methodLink RX10 144 yX10_put) ∈ lw_tbl := tb_5 _ (List.mem_of_getElem? (l := tables_1_5) (i := 36) rfl)
set_option maxRecDepth 20000 in
theorem mL_13_12 : (Cond.instanceMethod yX10_put) ∈ wsL_law := inr_13 _ (List.mem_of_getElem? (l := wsL_law_r13) (i := 12) rfl)
set_option maxRecDepth 20000 in
theorem tL_13_12 : (Cond.instanceMethod yX10_put) ∈ lw_tbl := tb_5 _ (List.mem_of_getElem? (l := tables_1_5) (i := 38) rfl)
set_option maxRecDepth 20000 in
theorem mL_13_13 : (Cond.selects RX10 yX10_put yX10_put) ∈ wsL_law := inr_13 _ (List.mem_of_getElem? (l := wsL_law_r13) (i := 13) rfl)
set_option maxRecDepth 20000 in
theorem tL_13_13 : (Cond.selects RX10 yX10_put yX10_put) ∈ lw_tbl := List.mem_append_left _ (List.mem_of_getElem? (l := k2_sels lw_privs) (i := 19) rfl)
set_option maxRecDepth 20000 in
theorem mL_13_14 : (Cond.code yX10_put cX10_put 10 (some .int)) ∈ wsL_law := inr_13 _ (List.mem_of_getElem? (l := wsL_law_r13) (i := 14) rfl)
set_option maxRecDepth 20000 in
theorem tL_13_14 : (Cond.code yX10_put cX10_put 10 (some .int)) ∈ lw_tbl := tb_5 _ (List.mem_of_getElem? (l := tables_1_5) (i := 39) rfl)
set_option maxRecDepth 20000 in
theorem mL_13_15 : (Cond.methodLink RX10 138 yX10_lettersOn) ∈ wsL_law := inr_13 _ (List.mem_of_getElem? (l := wsL_law_r13) (i := 15) rfl)
set_option maxRecDepth 20000 in
theorem tL_13_15 : (Cond.methodLink RX10 138 yX10_lettersOn) ∈ lw_tbl := tb_5 _ (List.mem_of_getElem? (l := tables_1_5) (i := 40) rfl)
set_option maxRecDepth 20000 in
theorem mL_13_16 : (Cond.instanceMethod yX10_lettersOn) ∈ wsL_law := inr_13 _ (List.mem_of_getElem? (l := wsL_law_r13) (i := 16) rfl)
set_option maxRecDepth 20000 in
theorem tL_13_16 : (Cond.instanceMethod yX10_lettersOn) ∈ lw_tbl := tb_5 _ (List.mem_of_getElem? (l := tables_1_5) (i := 42) rfl)
set_option maxRecDepth 20000 in
theorem mL_13_17 : (Cond.selects RX10 yX10_lettersOn yX10_lettersOn) ∈ wsL_law := inr_13 _ (List.mem_of_getElem? (l := wsL_law_r13) (i := 17) rfl)
set_option maxRecDepth 20000 in
theorem tL_13_17 : (Cond.selects RX10 yX10_lettersOn yX10_lettersOn) ∈ lw_tbl := List.mem_append_left _ (List.mem_of_getElem? (l := k2_sels lw_privs) (i := 20) rfl)
set_option maxRecDepth 20000 in
theorem mL_13_18 : (Cond.code yX10_lettersOn cX10_lettersOn 4 (some .int)) ∈ wsL_law := inr_13 _ (List.mem_of_getElem? (l := wsL_law_r13) (i := 18) rfl)
set_option maxRecDepth 20000 in
theorem tL_13_18 : (Cond.code yX10_lettersOn cX10_lettersOn 4 (some .int)) ∈ lw_tbl := tb_5 _ (List.mem_of_getElem? (l := tables_1_5) (i := 43) rfl)
set_option maxRecDepth 20000 in
theorem mL_13_19 : (Cond.methodLink RL 41 yX9_firm) ∈ wsL_law := inr_13 _ (List.mem_of_getElem? (l := wsL_law_r13) (i := 19) rfl)
set_option maxRecDepth 20000 in
theorem tL_13_19 : (Cond.methodLink RL 41 yX9_firm) ∈ lw_tbl := tb_2 _ (List.mem_of_getElem? (l := tables_1_2) (i := 158) rfl)
set_option maxRecDepth 20000 in
theorem mL_13_20 : (Cond.instanceMethod yX9_firm) ∈ wsL_law := inr_13 _ (List.mem_of_getElem? (l := wsL_law_r13) (i := 20) rfl)
set_option maxRecDepth 20000 in
theorem tL_13_20 : (Cond.instanceMethod yX9_firm) ∈ lw_tbl := tb_2 _ (List.mem_of_getElem? (l := tables_1_2) (i := 159) rfl)
set_option maxRecDepth 20000 in
theorem mL_13_21 : (Cond.selects RX9 yX9_firm yX9_firm) ∈ wsL_law := inr_13 _ (List.mem_of_getElem? (l := wsL_law_r13) (i := 21) rfl)
set_option maxRecDepth 20000 in
theorem tL_13_21 : (Cond.selects RX9 yX9_firm yX9_firm) ∈ lw_tbl := tb_2 _ (List.mem_of_getElem? (l := tables_1_2) (i := 160) rfl)
set_option maxRecDepth 20000 in
theorem mL_13_22 : (Cond.code yX9_firm cX9_firm 8 (some .int)) ∈ wsL_law := inr_13 _ (List.mem_of_getElem? (l := wsL_law_r13) (i := 22) rfl)
set_option maxRecDepth 20000 in
theorem tL_13_22 : (Cond.code yX9_firm cX9_firm 8 (some .int)) ∈ lw_tbl := tb_2 _ (List.mem_of_getElem? (l := tables_1_2) (i := 161) rfl)
set_option maxRecDepth 20000 in
theorem mL_13_23 : (Cond.fieldLink RX9 146 "GhostSigns$Words" "struck" "[Z") ∈ wsL_law := inr_13 _ (List.mem_of_getElem? (l := wsL_law_r13) (i := 23) rfl)
set_option maxRecDepth 20000 in
theorem tL_13_23 : (Cond.fieldLink RX9 146 "GhostSigns$Words" "struck" "[Z") ∈ lw_tbl := tb_1 _ (List.mem_of_getElem? (l := tables_1_1) (i := 67) rfl)
set_option maxRecDepth 20000 in
theorem tin_13 : ∀ w ∈ wsL_law_r13, w ∈ lw_tbl := List.forall_mem_cons.mpr ⟨tL_13_0, List.forall_mem_cons.mpr ⟨tL_13_1, List.forall_mem_cons.mpr ⟨tL_13_2, List.forall_mem_cons.mpr ⟨tL_13_3, List.forall_mem_cons.mpr ⟨tL_13_4, List.forall_mem_cons.mpr ⟨tL_13_5, List.forall_mem_cons.mpr ⟨tL_13_6, List.forall_mem_cons.mpr ⟨tL_13_7, List.forall_mem_cons.mpr ⟨tL_13_8, List.forall_mem_cons.mpr ⟨tL_13_9, List.forall_mem_cons.mpr ⟨tL_13_10, List.forall_mem_cons.mpr ⟨tL_13_11, List.forall_mem_cons.mpr ⟨tL_13_12, List.forall_mem_cons.mpr ⟨tL_13_13, List.forall_mem_cons.mpr ⟨tL_13_14, List.forall_mem_cons.mpr ⟨tL_13_15, List.forall_mem_cons.mpr ⟨tL_13_16, List.forall_mem_cons.mpr ⟨tL_13_17, List.forall_mem_cons.mpr ⟨tL_13_18, List.forall_mem_cons.mpr ⟨tL_13_19, List.forall_mem_cons.mpr ⟨tL_13_20, List.forall_mem_cons.mpr ⟨tL_13_21, List.forall_mem_cons.mpr ⟨tL_13_22, List.forall_mem_cons.mpr ⟨tL_13_23, List.forall_mem_nil _⟩⟩⟩⟩⟩⟩⟩⟩⟩⟩⟩⟩⟩⟩⟩⟩⟩⟩⟩⟩⟩⟩⟩⟩
set_option maxRecDepth 20000 in
theorem mL_14_0 : (Cond.methodLink RX9 141 yX6_isNumber) ∈ wsL_law := inr_14 _ (List.mem_of_getElem? (l := wsL_law_r14) (i := 0) rfl)
set_option maxRecDepth 20000 in
theorem tL_14_0 : (Cond.methodLink RX9 141 yX6_isNumber) ∈ lw_tbl := tb_2 _ (List.mem_of_getElem? (l := tables_1_2) (i := 162) rfl)
set_option maxRecDepth 20000 in
theorem mL_14_1 : (Cond.static yX6_isNumber) ∈ wsL_law := inr_14 _ (List.mem_of_getElem? (l := wsL_law_r14) (i := 1) rfl)
set_option maxRecDepth 20000 in
theorem tL_14_1 : (Cond.static yX6_isNumber) ∈ lw_tbl := tb_2 _ (List.mem_of_getElem? (l := tables_1_2) (i := 163) rfl)
set_option maxRecDepth 20000 in
theorem mL_14_2 : (Cond.code yX6_isNumber cX6_isNumber 1 (some .boolean)) ∈ wsL_law := inr_14 _ (List.mem_of_getElem? (l := wsL_law_r14) (i := 2) rfl)
set_option maxRecDepth 20000 in
theorem tL_14_2 : (Cond.code yX6_isNumber cX6_isNumber 1 (some .boolean)) ∈ lw_tbl := tb_2 _ (List.mem_of_getElem? (l := tables_1_2) (i := 164) rfl)
set_option maxRecDepth 20000 in
theorem mL_14_3 : (Cond.methodLink RX9 142 yX8_isNumber) ∈ wsL_law := inr_14 _ (List.mem_of_getElem? (l := wsL_law_r14) (i := 3) rfl)
set_option maxRecDepth 20000 in
theorem tL_14_3 : (Cond.methodLink RX9 142 yX8_isNumber) ∈ lw_tbl := tb_2 _ (List.mem_of_getElem? (l := tables_1_2) (i := 165) rfl)
set_option maxRecDepth 20000 in
theorem mL_14_4 : (Cond.instanceMethod yX8_isNumber) ∈ wsL_law := inr_14 _ (List.mem_of_getElem? (l := wsL_law_r14) (i := 4) rfl)
set_option maxRecDepth 20000 in
theorem tL_14_4 : (Cond.instanceMethod yX8_isNumber) ∈ lw_tbl := tb_2 _ (List.mem_of_getElem? (l := tables_1_2) (i := 166) rfl)
set_option maxRecDepth 20000 in
theorem mL_14_5 : (Cond.selects RX8 yX8_isNumber yX8_isNumber) ∈ wsL_law := inr_14 _ (List.mem_of_getElem? (l := wsL_law_r14) (i := 5) rfl)
set_option maxRecDepth 20000 in
theorem tL_14_5 : (Cond.selects RX8 yX8_isNumber yX8_isNumber) ∈ lw_tbl := tb_2 _ (List.mem_of_getElem? (l := tables_1_2) (i := 167) rfl)
set_option maxRecDepth 20000 in
theorem mL_14_6 : (Cond.code yX8_isNumber cX8_isNumber 2 (some .boolean)) ∈ wsL_law := inr_14 _ (List.mem_of_getElem? (l := wsL_law_r14) (i := 6) rfl)
set_option maxRecDepth 20000 in
theorem tL_14_6 : (Cond.code yX8_isNumber cX8_isNumber 2 (some .boolean)) ∈ lw_tbl := tb_2 _ (List.mem_of_getElem? (l := tables_1_2) (i := 168) rfl)
set_option maxRecDepth 20000 in
theorem mL_14_7 : (Cond.methodLink RX9 143 yX6_isYear) ∈ wsL_law := inr_14 _ (List.mem_of_getElem? (l := wsL_law_r14) (i := 7) rfl)
set_option maxRecDepth 20000 in
theorem tL_14_7 : (Cond.methodLink RX9 143 yX6_isYear) ∈ lw_tbl := tb_2 _ (List.mem_of_getElem? (l := tables_1_2) (i := 169) rfl)
set_option maxRecDepth 20000 in
theorem mL_14_8 : (Cond.static yX6_isYear) ∈ wsL_law := inr_14 _ (List.mem_of_getElem? (l := wsL_law_r14) (i := 8) rfl)
set_option maxRecDepth 20000 in
theorem tL_14_8 : (Cond.static yX6_isYear) ∈ lw_tbl := tb_2 _ (List.mem_of_getElem? (l := tables_1_2) (i := 170) rfl)
set_option maxRecDepth 20000 in
theorem mL_14_9 : (Cond.code yX6_isYear cX6_isYear 1 (some .boolean)) ∈ wsL_law := inr_14 _ (List.mem_of_getElem? (l := wsL_law_r14) (i := 9) rfl)
set_option maxRecDepth 20000 in
theorem tL_14_9 : (Cond.code yX6_isYear cX6_isYear 1 (some .boolean)) ∈ lw_tbl := tb_2 _ (List.mem_of_getElem? (l := tables_1_2) (i := 171) rfl)
set_option maxRecDepth 20000 in
theorem mL_14_10 : (Cond.methodLink RX9 150 yX8_isOf) ∈ wsL_law := inr_14 _ (List.mem_of_getElem? (l := wsL_law_r14) (i := 10) rfl)
set_option maxRecDepth 20000 in
theorem tL_14_10 : (Cond.methodLink RX9 150 yX8_isOf) ∈ lw_tbl := tb_2 _ (List.mem_of_getElem? (l := tables_1_2) (i := 172) rfl)
set_option maxRecDepth 20000 in
theorem mL_14_11 : (Cond.instanceMethod yX8_isOf) ∈ wsL_law := inr_14 _ (List.mem_of_getElem? (l := wsL_law_r14) (i := 11) rfl)
set_option maxRecDepth 20000 in
theorem tL_14_11 : (Cond.instanceMethod yX8_isOf) ∈ lw_tbl := tb_2 _ (List.mem_of_getElem? (l := tables_1_2) (i := 173) rfl)
set_option maxRecDepth 20000 in
theorem mL_14_12 : (Cond.selects RX8 yX8_isOf yX8_isOf) ∈ wsL_law := inr_14 _ (List.mem_of_getElem? (l := wsL_law_r14) (i := 12) rfl)
set_option maxRecDepth 20000 in
theorem tL_14_12 : (Cond.selects RX8 yX8_isOf yX8_isOf) ∈ lw_tbl := tb_2 _ (List.mem_of_getElem? (l := tables_1_2) (i := 174) rfl)
set_option maxRecDepth 20000 in
theorem mL_14_13 : (Cond.code yX8_isOf cX8_isOf 3 (some .boolean)) ∈ wsL_law := inr_14 _ (List.mem_of_getElem? (l := wsL_law_r14) (i := 13) rfl)
set_option maxRecDepth 20000 in
theorem tL_14_13 : (Cond.code yX8_isOf cX8_isOf 3 (some .boolean)) ∈ lw_tbl := tb_2 _ (List.mem_of_getElem? (l := tables_1_2) (i := 175) rfl)
set_option maxRecDepth 20000 in
theorem mL_14_14 : (Cond.methodLink RX9 154 yX8_settle) ∈ wsL_law := inr_14 _ (List.mem_of_getElem? (l := wsL_law_r14) (i := 14) rfl)
set_option maxRecDepth 20000 in
theorem tL_14_14 : (Cond.methodLink RX9 154 yX8_settle) ∈ lw_tbl := tb_2 _ (List.mem_of_getElem? (l := tables_1_2) (i := 176) rfl)
set_option maxRecDepth 20000 in
theorem mL_14_15 : (Cond.methodLink RL 44 yX10_firm) ∈ wsL_law := inr_14 _ (List.mem_of_getElem? (l := wsL_law_r14) (i := 15) rfl)
set_option maxRecDepth 20000 in
theorem tL_14_15 : (Cond.methodLink RL 44 yX10_firm) ∈ lw_tbl := tb_5 _ (List.mem_of_getElem? (l := tables_1_5) (i := 44) rfl)
set_option maxRecDepth 20000 in
theorem mL_14_16 : (Cond.instanceMethod yX10_firm) ∈ wsL_law := inr_14 _ (List.mem_of_getElem? (l := wsL_law_r14) (i := 16) rfl)
set_option maxRecDepth 20000 in
theorem tL_14_16 : (Cond.instanceMethod yX10_firm) ∈ lw_tbl := tb_5 _ (List.mem_of_getElem? (l := tables_1_5) (i := 45) rfl)
set_option maxRecDepth 20000 in
theorem mL_14_17 : (Cond.selects RX10 yX10_firm yX10_firm) ∈ wsL_law := inr_14 _ (List.mem_of_getElem? (l := wsL_law_r14) (i := 17) rfl)
set_option maxRecDepth 20000 in
theorem tL_14_17 : (Cond.selects RX10 yX10_firm yX10_firm) ∈ lw_tbl := tb_5 _ (List.mem_of_getElem? (l := tables_1_5) (i := 46) rfl)
set_option maxRecDepth 20000 in
theorem mL_14_18 : (Cond.code yX10_firm cX10_firm 6 (some .int)) ∈ wsL_law := inr_14 _ (List.mem_of_getElem? (l := wsL_law_r14) (i := 18) rfl)
set_option maxRecDepth 20000 in
theorem tL_14_18 : (Cond.code yX10_firm cX10_firm 6 (some .int)) ∈ lw_tbl := tb_5 _ (List.mem_of_getElem? (l := tables_1_5) (i := 47) rfl)
set_option maxRecDepth 20000 in
theorem mL_14_19 : (Cond.methodLink RX10 148 yX10_isHouse) ∈ wsL_law := inr_14 _ (List.mem_of_getElem? (l := wsL_law_r14) (i := 19) rfl)
set_option maxRecDepth 20000 in
theorem tL_14_19 : (Cond.methodLink RX10 148 yX10_isHouse) ∈ lw_tbl := tb_5 _ (List.mem_of_getElem? (l := tables_1_5) (i := 48) rfl)
set_option maxRecDepth 20000 in
theorem mL_14_20 : (Cond.static yX10_isHouse) ∈ wsL_law := inr_14 _ (List.mem_of_getElem? (l := wsL_law_r14) (i := 20) rfl)
set_option maxRecDepth 20000 in
theorem tL_14_20 : (Cond.static yX10_isHouse) ∈ lw_tbl := tb_5 _ (List.mem_of_getElem? (l := tables_1_5) (i := 49) rfl)
set_option maxRecDepth 20000 in
theorem mL_14_21 : (Cond.code yX10_isHouse cX10_isHouse 1 (some .boolean)) ∈ wsL_law := inr_14 _ (List.mem_of_getElem? (l := wsL_law_r14) (i := 21) rfl)
set_option maxRecDepth 20000 in
theorem tL_14_21 : (Cond.code yX10_isHouse cX10_isHouse 1 (some .boolean)) ∈ lw_tbl := tb_5 _ (List.mem_of_getElem? (l := tables_1_5) (i := 50) rfl)
set_option maxRecDepth 20000 in
theorem mL_14_22 : (Cond.methodLink RX10 151 yX10_isYear) ∈ wsL_law := inr_14 _ (List.mem_of_getElem? (l := wsL_law_r14) (i := 22) rfl)
set_option maxRecDepth 20000 in
theorem tL_14_22 : (Cond.methodLink RX10 151 yX10_isYear) ∈ lw_tbl := tb_5 _ (List.mem_of_getElem? (l := tables_1_5) (i := 51) rfl)
set_option maxRecDepth 20000 in
theorem mL_14_23 : (Cond.static yX10_isYear) ∈ wsL_law := inr_14 _ (List.mem_of_getElem? (l := wsL_law_r14) (i := 23) rfl)
set_option maxRecDepth 20000 in
theorem tL_14_23 : (Cond.static yX10_isYear) ∈ lw_tbl := tb_5 _ (List.mem_of_getElem? (l := tables_1_5) (i := 52) rfl)
set_option maxRecDepth 20000 in
theorem tin_14 : ∀ w ∈ wsL_law_r14, w ∈ lw_tbl := List.forall_mem_cons.mpr ⟨tL_14_0, List.forall_mem_cons.mpr ⟨tL_14_1, List.forall_mem_cons.mpr ⟨tL_14_2, List.forall_mem_cons.mpr ⟨tL_14_3, List.forall_mem_cons.mpr ⟨tL_14_4, List.forall_mem_cons.mpr ⟨tL_14_5, List.forall_mem_cons.mpr ⟨tL_14_6, List.forall_mem_cons.mpr ⟨tL_14_7, List.forall_mem_cons.mpr ⟨tL_14_8, List.forall_mem_cons.mpr ⟨tL_14_9, List.forall_mem_cons.mpr ⟨tL_14_10, List.forall_mem_cons.mpr ⟨tL_14_11, List.forall_mem_cons.mpr ⟨tL_14_12, List.forall_mem_cons.mpr ⟨tL_14_13, List.forall_mem_cons.mpr ⟨tL_14_14, List.forall_mem_cons.mpr ⟨tL_14_15, List.forall_mem_cons.mpr ⟨tL_14_16, List.forall_mem_cons.mpr ⟨tL_14_17, List.forall_mem_cons.mpr ⟨tL_14_18, List.forall_mem_cons.mpr ⟨tL_14_19, List.forall_mem_cons.mpr ⟨tL_14_20, List.forall_mem_cons.mpr ⟨tL_14_21, List.forall_mem_cons.mpr ⟨tL_14_22, List.forall_mem_cons.mpr ⟨tL_14_23, List.forall_mem_nil _⟩⟩⟩⟩⟩⟩⟩⟩⟩⟩⟩⟩⟩⟩⟩⟩⟩⟩⟩⟩⟩⟩⟩⟩
