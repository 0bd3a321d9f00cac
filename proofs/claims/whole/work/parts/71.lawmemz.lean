set_option maxRecDepth 20000 in
theorem all_0 {P : Nat → Prop} : ∀ k, k < 0 → P k := fun k h => absurd h (Nat.not_lt_zero k)
set_option maxRecDepth 20000 in
theorem all_s {P : Nat → Prop} {n : Nat} (h : ∀ k, k < n → P k) (g : P n) : ∀ k, k < n + 1 → P k := fun k hk => (Nat.lt_succ_iff_lt_or_eq.mp hk).elim (h k) (fun e => e ▸ g)
set_option maxRecDepth 20000 in
theorem ws_in {C : String} {T : u_T} {N : Nat} (h : ∀ k, k < N → u_lay C T k ∈ lw_tbl) : ∀ w ∈ u_ws C T N, w ∈ lw_tbl := fun w hw => by
  obtain ⟨k, hk, rfl⟩ := List.mem_map.mp hw
  exact h k (List.mem_range.mp hk)
set_option maxRecDepth 20000 in
theorem tF_X9_0 : u_lay RX9 TX9 0 ∈ lw_tbl := tb_2 _ (List.mem_of_getElem? (l := tables_1_2) (i := 38) rfl)
set_option maxRecDepth 20000 in
theorem tF_X9_1 : u_lay RX9 TX9 1 ∈ lw_tbl := tb_2 _ (List.mem_of_getElem? (l := tables_1_2) (i := 40) rfl)
set_option maxRecDepth 20000 in
theorem tF_X9_2 : u_lay RX9 TX9 2 ∈ lw_tbl := tb_2 _ (List.mem_of_getElem? (l := tables_1_2) (i := 42) rfl)
set_option maxRecDepth 20000 in
theorem tF_X9_3 : u_lay RX9 TX9 3 ∈ lw_tbl := tb_2 _ (List.mem_of_getElem? (l := tables_1_2) (i := 44) rfl)
set_option maxRecDepth 20000 in
theorem tF_X9_4 : u_lay RX9 TX9 4 ∈ lw_tbl := tb_2 _ (List.mem_of_getElem? (l := tables_1_2) (i := 46) rfl)
set_option maxRecDepth 20000 in
theorem tF_X9_5 : u_lay RX9 TX9 5 ∈ lw_tbl := tb_2 _ (List.mem_of_getElem? (l := tables_1_2) (i := 48) rfl)
set_option maxRecDepth 20000 in
theorem tF_X9_6 : u_lay RX9 TX9 6 ∈ lw_tbl := tb_2 _ (List.mem_of_getElem? (l := tables_1_2) (i := 50) rfl)
set_option maxRecDepth 20000 in
theorem tF_X9_7 : u_lay RX9 TX9 7 ∈ lw_tbl := tb_2 _ (List.mem_of_getElem? (l := tables_1_2) (i := 52) rfl)
set_option maxRecDepth 20000 in
theorem tF_X9_8 : u_lay RX9 TX9 8 ∈ lw_tbl := tb_2 _ (List.mem_of_getElem? (l := tables_1_2) (i := 54) rfl)
set_option maxRecDepth 20000 in
theorem tF_X9_9 : u_lay RX9 TX9 9 ∈ lw_tbl := tb_2 _ (List.mem_of_getElem? (l := tables_1_2) (i := 56) rfl)
set_option maxRecDepth 20000 in
theorem tF_X9_10 : u_lay RX9 TX9 10 ∈ lw_tbl := tb_2 _ (List.mem_of_getElem? (l := tables_1_2) (i := 58) rfl)
set_option maxRecDepth 20000 in
theorem tF_X9_11 : u_lay RX9 TX9 11 ∈ lw_tbl := tb_2 _ (List.mem_of_getElem? (l := tables_1_2) (i := 60) rfl)
set_option maxRecDepth 20000 in
theorem tF_X9_12 : u_lay RX9 TX9 12 ∈ lw_tbl := tb_2 _ (List.mem_of_getElem? (l := tables_1_2) (i := 62) rfl)
set_option maxRecDepth 20000 in
theorem tF_X9_13 : u_lay RX9 TX9 13 ∈ lw_tbl := tb_2 _ (List.mem_of_getElem? (l := tables_1_2) (i := 64) rfl)
set_option maxRecDepth 20000 in
theorem tin_wsX90 : ∀ w ∈ wsX90, w ∈ lw_tbl := ws_in (all_s (all_s (all_s (all_s (all_s (all_s (all_s (all_s (all_s (all_s (all_s (all_s (all_s (all_s (all_0) tF_X9_0) tF_X9_1) tF_X9_2) tF_X9_3) tF_X9_4) tF_X9_5) tF_X9_6) tF_X9_7) tF_X9_8) tF_X9_9) tF_X9_10) tF_X9_11) tF_X9_12) tF_X9_13)
set_option maxRecDepth 20000 in
theorem tF_X10_0 : u_lay RX10 TX10 0 ∈ lw_tbl := tb_4 _ (List.mem_of_getElem? (l := tables_1_4) (i := 146) rfl)
set_option maxRecDepth 20000 in
theorem tF_X10_1 : u_lay RX10 TX10 1 ∈ lw_tbl := tb_4 _ (List.mem_of_getElem? (l := tables_1_4) (i := 148) rfl)
set_option maxRecDepth 20000 in
theorem tF_X10_2 : u_lay RX10 TX10 2 ∈ lw_tbl := tb_4 _ (List.mem_of_getElem? (l := tables_1_4) (i := 150) rfl)
set_option maxRecDepth 20000 in
theorem tF_X10_3 : u_lay RX10 TX10 3 ∈ lw_tbl := tb_4 _ (List.mem_of_getElem? (l := tables_1_4) (i := 152) rfl)
set_option maxRecDepth 20000 in
theorem tF_X10_4 : u_lay RX10 TX10 4 ∈ lw_tbl := tb_4 _ (List.mem_of_getElem? (l := tables_1_4) (i := 154) rfl)
set_option maxRecDepth 20000 in
theorem tF_X10_5 : u_lay RX10 TX10 5 ∈ lw_tbl := tb_4 _ (List.mem_of_getElem? (l := tables_1_4) (i := 156) rfl)
set_option maxRecDepth 20000 in
theorem tF_X10_6 : u_lay RX10 TX10 6 ∈ lw_tbl := tb_4 _ (List.mem_of_getElem? (l := tables_1_4) (i := 158) rfl)
set_option maxRecDepth 20000 in
theorem tF_X10_7 : u_lay RX10 TX10 7 ∈ lw_tbl := tb_4 _ (List.mem_of_getElem? (l := tables_1_4) (i := 160) rfl)
set_option maxRecDepth 20000 in
theorem tF_X10_8 : u_lay RX10 TX10 8 ∈ lw_tbl := tb_4 _ (List.mem_of_getElem? (l := tables_1_4) (i := 162) rfl)
set_option maxRecDepth 20000 in
theorem tF_X10_9 : u_lay RX10 TX10 9 ∈ lw_tbl := tb_4 _ (List.mem_of_getElem? (l := tables_1_4) (i := 164) rfl)
set_option maxRecDepth 20000 in
theorem tF_X10_10 : u_lay RX10 TX10 10 ∈ lw_tbl := tb_4 _ (List.mem_of_getElem? (l := tables_1_4) (i := 166) rfl)
set_option maxRecDepth 20000 in
theorem tF_X10_11 : u_lay RX10 TX10 11 ∈ lw_tbl := tb_4 _ (List.mem_of_getElem? (l := tables_1_4) (i := 168) rfl)
set_option maxRecDepth 20000 in
theorem tF_X10_12 : u_lay RX10 TX10 12 ∈ lw_tbl := tb_4 _ (List.mem_of_getElem? (l := tables_1_4) (i := 170) rfl)
set_option maxRecDepth 20000 in
theorem tF_X10_13 : u_lay RX10 TX10 13 ∈ lw_tbl := tb_4 _ (List.mem_of_getElem? (l := tables_1_4) (i := 172) rfl)
set_option maxRecDepth 20000 in
theorem tF_X10_14 : u_lay RX10 TX10 14 ∈ lw_tbl := tb_4 _ (List.mem_of_getElem? (l := tables_1_4) (i := 174) rfl)
set_option maxRecDepth 20000 in
theorem tF_X10_15 : u_lay RX10 TX10 15 ∈ lw_tbl := tb_4 _ (List.mem_of_getElem? (l := tables_1_4) (i := 176) rfl)
set_option maxRecDepth 20000 in
theorem tF_X10_16 : u_lay RX10 TX10 16 ∈ lw_tbl := tb_4 _ (List.mem_of_getElem? (l := tables_1_4) (i := 178) rfl)
set_option maxRecDepth 20000 in
theorem tF_X10_17 : u_lay RX10 TX10 17 ∈ lw_tbl := tb_4 _ (List.mem_of_getElem? (l := tables_1_4) (i := 180) rfl)
set_option maxRecDepth 20000 in
theorem tF_X10_18 : u_lay RX10 TX10 18 ∈ lw_tbl := tb_4 _ (List.mem_of_getElem? (l := tables_1_4) (i := 182) rfl)
set_option maxRecDepth 20000 in
theorem tF_X10_19 : u_lay RX10 TX10 19 ∈ lw_tbl := tb_4 _ (List.mem_of_getElem? (l := tables_1_4) (i := 184) rfl)
set_option maxRecDepth 20000 in
theorem tF_X10_20 : u_lay RX10 TX10 20 ∈ lw_tbl := tb_4 _ (List.mem_of_getElem? (l := tables_1_4) (i := 186) rfl)
set_option maxRecDepth 20000 in
theorem tF_X10_21 : u_lay RX10 TX10 21 ∈ lw_tbl := tb_4 _ (List.mem_of_getElem? (l := tables_1_4) (i := 188) rfl)
set_option maxRecDepth 20000 in
theorem tF_X10_22 : u_lay RX10 TX10 22 ∈ lw_tbl := tb_4 _ (List.mem_of_getElem? (l := tables_1_4) (i := 190) rfl)
set_option maxRecDepth 20000 in
theorem tF_X10_23 : u_lay RX10 TX10 23 ∈ lw_tbl := tb_4 _ (List.mem_of_getElem? (l := tables_1_4) (i := 192) rfl)
set_option maxRecDepth 20000 in
theorem tF_X10_24 : u_lay RX10 TX10 24 ∈ lw_tbl := tb_4 _ (List.mem_of_getElem? (l := tables_1_4) (i := 194) rfl)
set_option maxRecDepth 20000 in
theorem tF_X10_25 : u_lay RX10 TX10 25 ∈ lw_tbl := tb_4 _ (List.mem_of_getElem? (l := tables_1_4) (i := 196) rfl)
set_option maxRecDepth 20000 in
theorem tF_X10_26 : u_lay RX10 TX10 26 ∈ lw_tbl := tb_4 _ (List.mem_of_getElem? (l := tables_1_4) (i := 198) rfl)
set_option maxRecDepth 20000 in
theorem tF_X10_27 : u_lay RX10 TX10 27 ∈ lw_tbl := tb_4 _ (List.mem_of_getElem? (l := tables_1_4) (i := 200) rfl)
set_option maxRecDepth 20000 in
theorem tF_X10_28 : u_lay RX10 TX10 28 ∈ lw_tbl := tb_4 _ (List.mem_of_getElem? (l := tables_1_4) (i := 202) rfl)
set_option maxRecDepth 20000 in
theorem tF_X10_29 : u_lay RX10 TX10 29 ∈ lw_tbl := tb_4 _ (List.mem_of_getElem? (l := tables_1_4) (i := 204) rfl)
set_option maxRecDepth 20000 in
theorem tF_X10_30 : u_lay RX10 TX10 30 ∈ lw_tbl := tb_4 _ (List.mem_of_getElem? (l := tables_1_4) (i := 206) rfl)
set_option maxRecDepth 20000 in
theorem tF_X10_31 : u_lay RX10 TX10 31 ∈ lw_tbl := tb_4 _ (List.mem_of_getElem? (l := tables_1_4) (i := 208) rfl)
set_option maxRecDepth 20000 in
theorem tF_X10_32 : u_lay RX10 TX10 32 ∈ lw_tbl := tb_4 _ (List.mem_of_getElem? (l := tables_1_4) (i := 210) rfl)
set_option maxRecDepth 20000 in
theorem tF_X10_33 : u_lay RX10 TX10 33 ∈ lw_tbl := tb_4 _ (List.mem_of_getElem? (l := tables_1_4) (i := 212) rfl)
set_option maxRecDepth 20000 in
theorem tF_X10_34 : u_lay RX10 TX10 34 ∈ lw_tbl := tb_4 _ (List.mem_of_getElem? (l := tables_1_4) (i := 214) rfl)
set_option maxRecDepth 20000 in
theorem tF_X10_35 : u_lay RX10 TX10 35 ∈ lw_tbl := tb_4 _ (List.mem_of_getElem? (l := tables_1_4) (i := 216) rfl)
set_option maxRecDepth 20000 in
theorem tF_X10_36 : u_lay RX10 TX10 36 ∈ lw_tbl := tb_4 _ (List.mem_of_getElem? (l := tables_1_4) (i := 218) rfl)
set_option maxRecDepth 20000 in
theorem tF_X10_37 : u_lay RX10 TX10 37 ∈ lw_tbl := tb_4 _ (List.mem_of_getElem? (l := tables_1_4) (i := 220) rfl)
set_option maxRecDepth 20000 in
theorem tF_X10_38 : u_lay RX10 TX10 38 ∈ lw_tbl := tb_4 _ (List.mem_of_getElem? (l := tables_1_4) (i := 222) rfl)
set_option maxRecDepth 20000 in
theorem tF_X10_39 : u_lay RX10 TX10 39 ∈ lw_tbl := tb_4 _ (List.mem_of_getElem? (l := tables_1_4) (i := 224) rfl)
set_option maxRecDepth 20000 in
theorem tF_X10_40 : u_lay RX10 TX10 40 ∈ lw_tbl := tb_4 _ (List.mem_of_getElem? (l := tables_1_4) (i := 226) rfl)
set_option maxRecDepth 20000 in
theorem tF_X10_41 : u_lay RX10 TX10 41 ∈ lw_tbl := tb_4 _ (List.mem_of_getElem? (l := tables_1_4) (i := 228) rfl)
set_option maxRecDepth 20000 in
theorem tF_X10_42 : u_lay RX10 TX10 42 ∈ lw_tbl := tb_4 _ (List.mem_of_getElem? (l := tables_1_4) (i := 230) rfl)
set_option maxRecDepth 20000 in
theorem tF_X10_43 : u_lay RX10 TX10 43 ∈ lw_tbl := tb_4 _ (List.mem_of_getElem? (l := tables_1_4) (i := 232) rfl)
set_option maxRecDepth 20000 in
theorem tin_wsX100 : ∀ w ∈ wsX100, w ∈ lw_tbl := ws_in (all_s (all_s (all_s (all_s (all_s (all_s (all_s (all_s (all_s (all_s (all_s (all_s (all_s (all_s (all_s (all_s (all_s (all_s (all_s (all_s (all_s (all_s (all_s (all_s (all_s (all_s (all_s (all_s (all_s (all_s (all_s (all_s (all_s (all_s (all_s (all_s (all_s (all_s (all_s (all_s (all_s (all_s (all_s (all_s (all_0) tF_X10_0) tF_X10_1) tF_X10_2) tF_X10_3) tF_X10_4) tF_X10_5) tF_X10_6) tF_X10_7) tF_X10_8) tF_X10_9) tF_X10_10) tF_X10_11) tF_X10_12) tF_X10_13) tF_X10_14) tF_X10_15) tF_X10_16) tF_X10_17) tF_X10_18) tF_X10_19) tF_X10_20) tF_X10_21) tF_X10_22) tF_X10_23) tF_X10_24) tF_X10_25) tF_X10_26) tF_X10_27) tF_X10_28) tF_X10_29) tF_X10_30) tF_X10_31) tF_X10_32) tF_X10_33) tF_X10_34) tF_X10_35) tF_X10_36) tF_X10_37) tF_X10_38) tF_X10_39) tF_X10_40) tF_X10_41) tF_X10_42) tF_X10_43)
set_option maxRecDepth 20000 in
theorem tF_X5_0 : u_lay RX5 TX5 0 ∈ lw_tbl := tb_1 _ (List.mem_of_getElem? (l := tables_1_1) (i := 39) rfl)
set_option maxRecDepth 20000 in
theorem tF_X5_1 : u_lay RX5 TX5 1 ∈ lw_tbl := tb_1 _ (List.mem_of_getElem? (l := tables_1_1) (i := 41) rfl)
set_option maxRecDepth 20000 in
theorem tin_wsX50 : ∀ w ∈ wsX50, w ∈ lw_tbl := ws_in (all_s (all_s (all_0) tF_X5_0) tF_X5_1)
set_option maxRecDepth 20000 in
theorem tF_X8_0 : u_lay RX8 TX8 0 ∈ lw_tbl := tb_1 _ (List.mem_of_getElem? (l := tables_1_1) (i := 70) rfl)
set_option maxRecDepth 20000 in
theorem tF_X8_1 : u_lay RX8 TX8 1 ∈ lw_tbl := tb_1 _ (List.mem_of_getElem? (l := tables_1_1) (i := 72) rfl)
set_option maxRecDepth 20000 in
theorem tF_X8_2 : u_lay RX8 TX8 2 ∈ lw_tbl := tb_1 _ (List.mem_of_getElem? (l := tables_1_1) (i := 74) rfl)
set_option maxRecDepth 20000 in
theorem tF_X8_3 : u_lay RX8 TX8 3 ∈ lw_tbl := tb_1 _ (List.mem_of_getElem? (l := tables_1_1) (i := 76) rfl)
set_option maxRecDepth 20000 in
theorem tF_X8_4 : u_lay RX8 TX8 4 ∈ lw_tbl := tb_1 _ (List.mem_of_getElem? (l := tables_1_1) (i := 78) rfl)
set_option maxRecDepth 20000 in
theorem tF_X8_5 : u_lay RX8 TX8 5 ∈ lw_tbl := tb_1 _ (List.mem_of_getElem? (l := tables_1_1) (i := 80) rfl)
set_option maxRecDepth 20000 in
theorem tF_X8_6 : u_lay RX8 TX8 6 ∈ lw_tbl := tb_1 _ (List.mem_of_getElem? (l := tables_1_1) (i := 82) rfl)
set_option maxRecDepth 20000 in
theorem tF_X8_7 : u_lay RX8 TX8 7 ∈ lw_tbl := tb_1 _ (List.mem_of_getElem? (l := tables_1_1) (i := 84) rfl)
set_option maxRecDepth 20000 in
theorem tF_X8_8 : u_lay RX8 TX8 8 ∈ lw_tbl := tb_1 _ (List.mem_of_getElem? (l := tables_1_1) (i := 86) rfl)
set_option maxRecDepth 20000 in
theorem tF_X8_9 : u_lay RX8 TX8 9 ∈ lw_tbl := tb_1 _ (List.mem_of_getElem? (l := tables_1_1) (i := 88) rfl)
set_option maxRecDepth 20000 in
theorem tin_wsX80 : ∀ w ∈ wsX80, w ∈ lw_tbl := ws_in (all_s (all_s (all_s (all_s (all_s (all_s (all_s (all_s (all_s (all_s (all_0) tF_X8_0) tF_X8_1) tF_X8_2) tF_X8_3) tF_X8_4) tF_X8_5) tF_X8_6) tF_X8_7) tF_X8_8) tF_X8_9)
set_option maxRecDepth 20000 in
theorem tF_X2_0 : u_lay RX2 TX2 0 ∈ lw_tbl := tb_1 _ (List.mem_of_getElem? (l := tables_1_1) (i := 111) rfl)
set_option maxRecDepth 20000 in
theorem tF_X2_1 : u_lay RX2 TX2 1 ∈ lw_tbl := tb_1 _ (List.mem_of_getElem? (l := tables_1_1) (i := 113) rfl)
set_option maxRecDepth 20000 in
theorem tF_X2_2 : u_lay RX2 TX2 2 ∈ lw_tbl := tb_1 _ (List.mem_of_getElem? (l := tables_1_1) (i := 115) rfl)
set_option maxRecDepth 20000 in
theorem tF_X2_3 : u_lay RX2 TX2 3 ∈ lw_tbl := tb_1 _ (List.mem_of_getElem? (l := tables_1_1) (i := 117) rfl)
set_option maxRecDepth 20000 in
theorem tF_X2_4 : u_lay RX2 TX2 4 ∈ lw_tbl := tb_1 _ (List.mem_of_getElem? (l := tables_1_1) (i := 119) rfl)
set_option maxRecDepth 20000 in
theorem tin_wsX20 : ∀ w ∈ wsX20, w ∈ lw_tbl := ws_in (all_s (all_s (all_s (all_s (all_s (all_0) tF_X2_0) tF_X2_1) tF_X2_2) tF_X2_3) tF_X2_4)
set_option maxRecDepth 20000 in
theorem tF_X6_0 : u_lay RX6 TX6 0 ∈ lw_tbl := tb_1 _ (List.mem_of_getElem? (l := tables_1_1) (i := 137) rfl)
set_option maxRecDepth 20000 in
theorem tF_X6_1 : u_lay RX6 TX6 1 ∈ lw_tbl := tb_1 _ (List.mem_of_getElem? (l := tables_1_1) (i := 139) rfl)
set_option maxRecDepth 20000 in
theorem tF_X6_2 : u_lay RX6 TX6 2 ∈ lw_tbl := tb_1 _ (List.mem_of_getElem? (l := tables_1_1) (i := 141) rfl)
set_option maxRecDepth 20000 in
theorem tF_X6_3 : u_lay RX6 TX6 3 ∈ lw_tbl := tb_1 _ (List.mem_of_getElem? (l := tables_1_1) (i := 143) rfl)
set_option maxRecDepth 20000 in
theorem tF_X6_4 : u_lay RX6 TX6 4 ∈ lw_tbl := tb_1 _ (List.mem_of_getElem? (l := tables_1_1) (i := 145) rfl)
set_option maxRecDepth 20000 in
theorem tF_X6_5 : u_lay RX6 TX6 5 ∈ lw_tbl := tb_1 _ (List.mem_of_getElem? (l := tables_1_1) (i := 147) rfl)
set_option maxRecDepth 20000 in
theorem tin_wsX60 : ∀ w ∈ wsX60, w ∈ lw_tbl := ws_in (all_s (all_s (all_s (all_s (all_s (all_s (all_0) tF_X6_0) tF_X6_1) tF_X6_2) tF_X6_3) tF_X6_4) tF_X6_5)
set_option maxRecDepth 20000 in
theorem tF_X1_0 : u_lay RX1 TX1 0 ∈ lw_tbl := tb_1 _ (List.mem_of_getElem? (l := tables_1_1) (i := 162) rfl)
set_option maxRecDepth 20000 in
theorem tF_X1_1 : u_lay RX1 TX1 1 ∈ lw_tbl := tb_1 _ (List.mem_of_getElem? (l := tables_1_1) (i := 164) rfl)
set_option maxRecDepth 20000 in
theorem tF_X1_2 : u_lay RX1 TX1 2 ∈ lw_tbl := tb_1 _ (List.mem_of_getElem? (l := tables_1_1) (i := 166) rfl)
set_option maxRecDepth 20000 in
theorem tF_X1_3 : u_lay RX1 TX1 3 ∈ lw_tbl := tb_1 _ (List.mem_of_getElem? (l := tables_1_1) (i := 168) rfl)
set_option maxRecDepth 20000 in
theorem tF_X1_4 : u_lay RX1 TX1 4 ∈ lw_tbl := tb_1 _ (List.mem_of_getElem? (l := tables_1_1) (i := 170) rfl)
set_option maxRecDepth 20000 in
theorem tin_wsX10 : ∀ w ∈ wsX10, w ∈ lw_tbl := ws_in (all_s (all_s (all_s (all_s (all_s (all_0) tF_X1_0) tF_X1_1) tF_X1_2) tF_X1_3) tF_X1_4)
set_option maxRecDepth 20000 in
theorem tF_X0_0 : u_lay RX0 TX0 0 ∈ lw_tbl := tb_1 _ (List.mem_of_getElem? (l := tables_1_1) (i := 183) rfl)
set_option maxRecDepth 20000 in
theorem tF_X0_1 : u_lay RX0 TX0 1 ∈ lw_tbl := tb_1 _ (List.mem_of_getElem? (l := tables_1_1) (i := 185) rfl)
set_option maxRecDepth 20000 in
theorem tF_X0_2 : u_lay RX0 TX0 2 ∈ lw_tbl := tb_1 _ (List.mem_of_getElem? (l := tables_1_1) (i := 187) rfl)
set_option maxRecDepth 20000 in
theorem tin_wsX00 : ∀ w ∈ wsX00, w ∈ lw_tbl := ws_in (all_s (all_s (all_s (all_0) tF_X0_0) tF_X0_1) tF_X0_2)
set_option maxRecDepth 20000 in
theorem tF_X7_0 : u_lay RX7 TX7 0 ∈ lw_tbl := tb_1 _ (List.mem_of_getElem? (l := tables_1_1) (i := 202) rfl)
set_option maxRecDepth 20000 in
theorem tF_X7_1 : u_lay RX7 TX7 1 ∈ lw_tbl := tb_1 _ (List.mem_of_getElem? (l := tables_1_1) (i := 204) rfl)
set_option maxRecDepth 20000 in
theorem tF_X7_2 : u_lay RX7 TX7 2 ∈ lw_tbl := tb_1 _ (List.mem_of_getElem? (l := tables_1_1) (i := 206) rfl)
set_option maxRecDepth 20000 in
theorem tF_X7_3 : u_lay RX7 TX7 3 ∈ lw_tbl := tb_1 _ (List.mem_of_getElem? (l := tables_1_1) (i := 208) rfl)
set_option maxRecDepth 20000 in
theorem tin_wsX70 : ∀ w ∈ wsX70, w ∈ lw_tbl := ws_in (all_s (all_s (all_s (all_s (all_0) tF_X7_0) tF_X7_1) tF_X7_2) tF_X7_3)
set_option maxRecDepth 20000 in
theorem tF_X4_0 : u_lay RX4 TX4 0 ∈ lw_tbl := tb_1 _ (List.mem_of_getElem? (l := tables_1_1) (i := 230) rfl)
set_option maxRecDepth 20000 in
theorem tF_X4_1 : u_lay RX4 TX4 1 ∈ lw_tbl := tb_1 _ (List.mem_of_getElem? (l := tables_1_1) (i := 232) rfl)
set_option maxRecDepth 20000 in
theorem tF_X4_2 : u_lay RX4 TX4 2 ∈ lw_tbl := tb_1 _ (List.mem_of_getElem? (l := tables_1_1) (i := 234) rfl)
set_option maxRecDepth 20000 in
theorem tF_X4_3 : u_lay RX4 TX4 3 ∈ lw_tbl := tb_1 _ (List.mem_of_getElem? (l := tables_1_1) (i := 236) rfl)
set_option maxRecDepth 20000 in
theorem tF_X4_4 : u_lay RX4 TX4 4 ∈ lw_tbl := tb_1 _ (List.mem_of_getElem? (l := tables_1_1) (i := 238) rfl)
set_option maxRecDepth 20000 in
theorem tin_wsX40 : ∀ w ∈ wsX40, w ∈ lw_tbl := ws_in (all_s (all_s (all_s (all_s (all_s (all_0) tF_X4_0) tF_X4_1) tF_X4_2) tF_X4_3) tF_X4_4)
set_option maxRecDepth 20000 in
theorem tF_X3_0 : u_lay RX3 TX3 0 ∈ lw_tbl := tb_2 _ (List.mem_of_getElem? (l := tables_1_2) (i := 15) rfl)
set_option maxRecDepth 20000 in
theorem tF_X3_1 : u_lay RX3 TX3 1 ∈ lw_tbl := tb_2 _ (List.mem_of_getElem? (l := tables_1_2) (i := 17) rfl)
set_option maxRecDepth 20000 in
theorem tF_X3_2 : u_lay RX3 TX3 2 ∈ lw_tbl := tb_2 _ (List.mem_of_getElem? (l := tables_1_2) (i := 19) rfl)
set_option maxRecDepth 20000 in
theorem tF_X3_3 : u_lay RX3 TX3 3 ∈ lw_tbl := tb_2 _ (List.mem_of_getElem? (l := tables_1_2) (i := 21) rfl)
set_option maxRecDepth 20000 in
theorem tin_wsX30 : ∀ w ∈ wsX30, w ∈ lw_tbl := ws_in (all_s (all_s (all_s (all_s (all_0) tF_X3_0) tF_X3_1) tF_X3_2) tF_X3_3)
set_option maxRecDepth 20000 in
theorem wsL_law_in : ∀ w ∈ wsL_law, w ∈ lw_tbl := List.forall_mem_append.mpr ⟨List.forall_mem_append.mpr ⟨List.forall_mem_append.mpr ⟨List.forall_mem_append.mpr ⟨List.forall_mem_append.mpr ⟨List.forall_mem_append.mpr ⟨List.forall_mem_append.mpr ⟨List.forall_mem_append.mpr ⟨List.forall_mem_append.mpr ⟨List.forall_mem_append.mpr ⟨List.forall_mem_append.mpr ⟨List.forall_mem_append.mpr ⟨List.forall_mem_append.mpr ⟨tin_1, List.forall_mem_append.mpr ⟨tin_2, List.forall_mem_append.mpr ⟨tin_3, List.forall_mem_append.mpr ⟨tin_4, List.forall_mem_append.mpr ⟨tin_5, List.forall_mem_append.mpr ⟨tin_6, List.forall_mem_append.mpr ⟨tin_7, List.forall_mem_append.mpr ⟨tin_8, List.forall_mem_append.mpr ⟨tin_9, List.forall_mem_append.mpr ⟨tin_10, List.forall_mem_append.mpr ⟨tin_11, List.forall_mem_append.mpr ⟨tin_12, List.forall_mem_append.mpr ⟨tin_13, List.forall_mem_append.mpr ⟨tin_14, List.forall_mem_append.mpr ⟨tin_15, List.forall_mem_append.mpr ⟨tin_16, List.forall_mem_append.mpr ⟨tin_17, List.forall_mem_append.mpr ⟨tin_18, List.forall_mem_append.mpr ⟨tin_19, List.forall_mem_append.mpr ⟨tin_20, List.forall_mem_append.mpr ⟨tin_21, List.forall_mem_append.mpr ⟨tin_22, List.forall_mem_append.mpr ⟨tin_23, List.forall_mem_append.mpr ⟨tin_24, List.forall_mem_append.mpr ⟨tin_25, List.forall_mem_append.mpr ⟨tin_26, List.forall_mem_append.mpr ⟨tin_27, List.forall_mem_append.mpr ⟨tin_28, List.forall_mem_append.mpr ⟨tin_29, List.forall_mem_append.mpr ⟨tin_30, List.forall_mem_append.mpr ⟨tin_31, List.forall_mem_append.mpr ⟨tin_32, List.forall_mem_append.mpr ⟨tin_33, List.forall_mem_append.mpr ⟨tin_34, List.forall_mem_append.mpr ⟨tin_35, List.forall_mem_append.mpr ⟨tin_36, List.forall_mem_append.mpr ⟨tin_37, List.forall_mem_append.mpr ⟨tin_38, List.forall_mem_append.mpr ⟨tin_39, List.forall_mem_append.mpr ⟨tin_40, List.forall_mem_append.mpr ⟨tin_41, tin_42⟩⟩⟩⟩⟩⟩⟩⟩⟩⟩⟩⟩⟩⟩⟩⟩⟩⟩⟩⟩⟩⟩⟩⟩⟩⟩⟩⟩⟩⟩⟩⟩⟩⟩⟩⟩⟩⟩⟩⟩⟩, tin_wsX90⟩, tin_wsX100⟩, tin_wsX50⟩, tin_wsX80⟩, tin_wsX20⟩, tin_wsX60⟩, tin_wsX10⟩, tin_wsX00⟩, tin_wsX70⟩, tin_wsX40⟩, tin_wsX30⟩, List.forall_mem_nil _⟩
set_option maxRecDepth 20000 in
theorem inlX0 : ∀ w ∈ wsX00, w ∈ wsL_law := inl_wsX00
set_option maxRecDepth 20000 in
theorem inX0 : ∀ w ∈ wsX00, w ∈ lw_tbl := fun w h => wsL_law_in w (inlX0 w h)
set_option maxRecDepth 20000 in
theorem inlX1 : ∀ w ∈ wsX10, w ∈ wsL_law := inl_wsX10
set_option maxRecDepth 20000 in
theorem inX1 : ∀ w ∈ wsX10, w ∈ lw_tbl := fun w h => wsL_law_in w (inlX1 w h)
set_option maxRecDepth 20000 in
theorem inlX2 : ∀ w ∈ wsX20, w ∈ wsL_law := inl_wsX20
set_option maxRecDepth 20000 in
theorem inX2 : ∀ w ∈ wsX20, w ∈ lw_tbl := fun w h => wsL_law_in w (inlX2 w h)
set_option maxRecDepth 20000 in
theorem inlX3 : ∀ w ∈ wsX30, w ∈ wsL_law := inl_wsX30
set_option maxRecDepth 20000 in
theorem inX3 : ∀ w ∈ wsX30, w ∈ lw_tbl := fun w h => wsL_law_in w (inlX3 w h)
set_option maxRecDepth 20000 in
theorem inlX4 : ∀ w ∈ wsX40, w ∈ wsL_law := inl_wsX40
set_option maxRecDepth 20000 in
theorem inX4 : ∀ w ∈ wsX40, w ∈ lw_tbl := fun w h => wsL_law_in w (inlX4 w h)
set_option maxRecDepth 20000 in
theorem inlX5 : ∀ w ∈ wsX50, w ∈ wsL_law := inl_wsX50
set_option maxRecDepth 20000 in
theorem inX5 : ∀ w ∈ wsX50, w ∈ lw_tbl := fun w h => wsL_law_in w (inlX5 w h)
set_option maxRecDepth 20000 in
theorem inlX6 : ∀ w ∈ wsX60, w ∈ wsL_law := inl_wsX60
set_option maxRecDepth 20000 in
theorem inX6 : ∀ w ∈ wsX60, w ∈ lw_tbl := fun w h => wsL_law_in w (inlX6 w h)
set_option maxRecDepth 20000 in
theorem inlX7 : ∀ w ∈ wsX70, w ∈ wsL_law := inl_wsX70
set_option maxRecDepth 20000 in
theorem inX7 : ∀ w ∈ wsX70, w ∈ lw_tbl := fun w h => wsL_law_in w (inlX7 w h)
set_option maxRecDepth 20000 in
theorem inlX8 : ∀ w ∈ wsX80, w ∈ wsL_law := inl_wsX80
set_option maxRecDepth 20000 in
theorem inX8 : ∀ w ∈ wsX80, w ∈ lw_tbl := fun w h => wsL_law_in w (inlX8 w h)
set_option maxRecDepth 20000 in
theorem inlX9 : ∀ w ∈ wsX90, w ∈ wsL_law := inl_wsX90
set_option maxRecDepth 20000 in
theorem inX9 : ∀ w ∈ wsX90, w ∈ lw_tbl := fun w h => wsL_law_in w (inlX9 w h)
set_option maxRecDepth 20000 in
theorem inlX10 : ∀ w ∈ wsX100, w ∈ wsL_law := inl_wsX100
set_option maxRecDepth 20000 in
theorem inX10 : ∀ w ∈ wsX100, w ∈ lw_tbl := fun w h => wsL_law_in w (inlX10 w h)
set_option maxRecDepth 20000 in
theorem inJ6 : ∀ w ∈ wsJ60, w ∈ lw_tbl := by decide +kernel
set_option maxRecDepth 20000 in
theorem inJ9 : ∀ w ∈ wsJ90, w ∈ lw_tbl := by decide +kernel
set_option maxRecDepth 20000 in
theorem inJ10 : ∀ w ∈ wsJ100, w ∈ lw_tbl := by decide +kernel
set_option maxRecDepth 20000 in
theorem inJ7 : ∀ w ∈ wsJ70, w ∈ lw_tbl := by decide +kernel
