set_option maxRecDepth 20000 in
theorem nX_0 : Cond.methodLinkNest RX9 18 yX8_init RX9 ∈ lw_tbl := tb_1 _ (List.mem_of_getElem? (l := tables_1_1) (i := 48) rfl)
set_option maxRecDepth 20000 in
theorem nX_1 : Cond.methodLinkNest RX9 29 yX2_init RX9 ∈ lw_tbl := tb_1 _ (List.mem_of_getElem? (l := tables_1_1) (i := 95) rfl)
set_option maxRecDepth 20000 in
theorem nX_2 : Cond.methodLinkNest RX9 32 yX6_init RX9 ∈ lw_tbl := tb_1 _ (List.mem_of_getElem? (l := tables_1_1) (i := 124) rfl)
set_option maxRecDepth 20000 in
theorem nX_3 : Cond.methodLinkNest RX9 39 yX1_init RX9 ∈ lw_tbl := tb_1 _ (List.mem_of_getElem? (l := tables_1_1) (i := 152) rfl)
set_option maxRecDepth 20000 in
theorem nX_4 : Cond.methodLinkNest RX9 46 yX0_init RX9 ∈ lw_tbl := tb_1 _ (List.mem_of_getElem? (l := tables_1_1) (i := 175) rfl)
set_option maxRecDepth 20000 in
theorem nX_5 : Cond.methodLinkNest RX9 53 yX7_init RX9 ∈ lw_tbl := tb_1 _ (List.mem_of_getElem? (l := tables_1_1) (i := 192) rfl)
set_option maxRecDepth 20000 in
theorem nX_6 : Cond.methodLinkNest RX9 60 yX4_init RX9 ∈ lw_tbl := tb_1 _ (List.mem_of_getElem? (l := tables_1_1) (i := 213) rfl)
set_option maxRecDepth 20000 in
theorem nX_7 : Cond.methodLinkNest RX9 70 yX3_init RX9 ∈ lw_tbl := tb_2 _ (List.mem_of_getElem? (l := tables_1_2) (i := 3) rfl)
theorem nX_all : ∀ q ∈ nestX, Cond.methodLinkNest RX9 q.1 q.2 RX9 ∈ lw_tbl := List.forall_mem_cons.mpr ⟨nX_0, List.forall_mem_cons.mpr ⟨nX_1, List.forall_mem_cons.mpr ⟨nX_2, List.forall_mem_cons.mpr ⟨nX_3, List.forall_mem_cons.mpr ⟨nX_4, List.forall_mem_cons.mpr ⟨nX_5, List.forall_mem_cons.mpr ⟨nX_6, List.forall_mem_cons.mpr ⟨nX_7, List.forall_mem_nil _⟩⟩⟩⟩⟩⟩⟩⟩
set_option maxHeartbeats 8000000 in
set_option maxRecDepth 100000 in
theorem lw_K {s : State} {b : Nat} (hts : ∀ w ∈ lw_tbl, w.before #[Value.ref b] s = true) : ∃ (D : va_G) (cs : Nat → ClassId), va_K D vwCl (tyX cs) s ∧ uAO s := by
  obtain ⟨c0, iS0, hKn0⟩ := u_known (C := RX0) (T := TX0) (N := 3) (n := 3) hts inX0 (hts (.instantiable RX0 3) (tL_2_9))
  obtain ⟨c1, iS1, hKn1⟩ := u_known (C := RX1) (T := TX1) (N := 5) (n := 5) hts inX1 (hts (.instantiable RX1 5) (tL_2_5))
  obtain ⟨c2, iS2, hKn2⟩ := u_known (C := RX2) (T := TX2) (N := 5) (n := 5) hts inX2 (hts (.instantiable RX2 5) (tL_1_22))
  obtain ⟨c3, iS3, hKn3⟩ := u_known (C := RX3) (T := TX3) (N := 4) (n := 4) hts inX3 (hts (.instantiable RX3 4) (tL_2_22))
  obtain ⟨c4, iS4, hKn4⟩ := u_known (C := RX4) (T := TX4) (N := 5) (n := 5) hts inX4 (hts (.instantiable RX4 5) (tL_2_17))
  obtain ⟨c5, iS5, hKn5⟩ := u_known (C := RX5) (T := TX5) (N := 2) (n := 2) hts inX5 (hts (.instantiable RX5 2) (tL_1_13))
  obtain ⟨c6, iS6, hKn6⟩ := u_known (C := RX6) (T := TX6) (N := 6) (n := 6) hts inX6 (hts (.instantiable RX6 6) (tL_2_1))
  obtain ⟨c7, iS7, hKn7⟩ := u_known (C := RX7) (T := TX7) (N := 4) (n := 4) hts inX7 (hts (.instantiable RX7 4) (tL_2_13))
  obtain ⟨c8, iS8, hKn8⟩ := u_known (C := RX8) (T := TX8) (N := 10) (n := 10) hts inX8 (hts (.instantiable RX8 10) (tL_1_17))
  obtain ⟨c9, iS9, hKn9⟩ := u_known (C := RX9) (T := TX9) (N := 14) (n := 14) hts inX9 (hts (.instantiable RX9 14) (tL_1_1))
  obtain ⟨c10, iS10, hKn10⟩ := u_known (C := RX10) (T := TX10) (N := 44) (n := 44) hts inX10 (hts (.instantiable RX10 44) (tL_1_4))
  obtain ⟨a0, p0, r0⟩ := lw_arr (hts (.arrayClass .int) (tL_3_1)) (fun C h => by cases h)
  obtain ⟨a1, p1, r1⟩ := lw_arr (hts (.arrayClass .byte) (tL_3_9)) (fun C h => by cases h)
  obtain ⟨a2, p2, r2⟩ := lw_arr (hts (.arrayClass .boolean) (tL_4_4)) (fun C h => by cases h)
  have o3 := hts (.arrayOver (.object "GhostSigns$Line")) (tb_1 _ (List.mem_of_getElem? (l := tables_1_1) (i := 93) rfl))
  have o4 := hts (.arrayOver (.array .byte)) (tb_1 _ (List.mem_of_getElem? (l := tables_1_1) (i := 31) rfl))
  have o5 := hts (.arrayOver (.array .int)) (tb_1 _ (List.mem_of_getElem? (l := tables_1_1) (i := 100) rfl))
  obtain ⟨a3, p3, r3⟩ := lw_arrO o3
  obtain ⟨a4, p4, r4⟩ := lw_arrA o4
  obtain ⟨a5, p5, r5⟩ := lw_arrA o5
  refine ⟨(fun k => ([c0, c1, c2, c3, c4, c5, c6, c7, c8, c9, c10] : List ClassId).getD k c0, fun k => ([iS0, iS1, iS2, iS3, iS4, iS5, iS6, iS7, iS8, iS9, iS10] : List (Nat → Nat)).getD k iS0), fun k => ([a0, a1, a2, a3, a4, a5] : List ClassId).getD k a0, ⟨?_, ?_⟩, va_AOA.of o4, va_AOA.of o5, va_AO.of o3, ?_⟩
  · intro k q hq
    match k, hq with
    | 0, hq => cases hq; exact hKn0
    | 1, hq => cases hq; exact hKn1
    | 2, hq => cases hq; exact hKn2
    | 3, hq => cases hq; exact hKn3
    | 4, hq => cases hq; exact hKn4
    | 5, hq => cases hq; exact hKn5
    | 6, hq => cases hq; exact hKn6
    | 7, hq => cases hq; exact hKn7
    | 8, hq => cases hq; exact hKn8
    | 9, hq => cases hq; exact hKn9
    | 10, hq => cases hq; exact hKn10
    | k + 11, hq => simp [vwCl] at hq
  · intro k q hq
    match k, hq with
    | 0, hq => cases hq; exact ⟨p0, r0⟩
    | 1, hq => cases hq; exact ⟨p1, r1⟩
    | 2, hq => cases hq; exact ⟨p2, r2⟩
    | 3, hq => cases hq; exact ⟨p3, r3⟩
    | 4, hq => cases hq; exact ⟨p4, r4⟩
    | 5, hq => cases hq; exact ⟨p5, r5⟩
    | k + 6, hq => simp [tyX] at hq
  · intro q hq
    exact va_Nw.of rfl (A := #[Value.ref b]) (hts _ (nX_all q hq))
set_option maxHeartbeats 8000000 in
set_option maxRecDepth 100000 in
/-- THE LAW, from its entry -/
theorem whole_start {p : Program} {e : Env} {s : State} {m : MethodId} {below : List Frame} {meth : Method} {c : Code} (l : Launch) {b L : Nat} {xs : Nat → Int32} (hL : L ≤ 3072) (C0 : lw_At p s m meth c b L xs) : W p l e room_1 s m #[Value.ref b] below meth c s.heap [] 0 0 (lw_Z below #[Value.ref b] s) (entryFrame m ([Value.ref b] : List Value).toArray 4) := by
  obtain ⟨hx, hb, hr, hml, hown0, hts0, hX, hbl, hlocks, hgv⟩ := id C0
  have hown : s.vm.findClass RL = some m.cls := hown0
  have hts : ∀ w ∈ wsL_law, w.before #[Value.ref b] s = true := fun w h => hts0 w (wsL_law_in w h)
  have hA : ∀ q : Nat, s.heap.size ≤ q → (fun q : Nat => s.heap.size ≤ q) q := fun _ h => h
  obtain ⟨D, cs, hK, hAO⟩ := lw_K hts0
  have hS : va_S (fun q : Nat => s.heap.size ≤ q) s.heap s.heap [] := va_S.rf
  have hP : va_P D vwCl [] s.heap := fun k q h => by simp at h
  have hD : va_D (fun q : Nat => s.heap.size ≤ q) [] := ⟨fun i j p q h => by simp at h, fun k q h => by simp at h⟩
  have hl := lv_entry ([.ref b]) (n := 4) (Nat.le_of_ble_eq_true rfl)
  rw [lg_entry_eq]
  generalize (lg_sl ([.ref b]) ++ List.replicate (4 - (lg_sl ([.ref b])).length) Slot.unset).toArray = ls at hl ⊢
  have hl : lv_has ls 4 [(0, .ref b)] := hl
  refine u_made (rest := []) (fsd := [.null, .null, .null, .null, .null, .null, .null, .null, .null, .null, .null, .null, .int 0, .int 0]) ⟨hx, hb, hml, hown, hts⟩ hK hAO hA hP hD hS (c_X9_init l D cs) (by decide) (ci := 9) (C := RX9) (T := TX9) (N := 14) rfl inlX9 tyX9 tyX9_ok (fun j hj => by rcases (show j = 0 ∨ j = 1 ∨ j = 2 ∨ j = 3 ∨ j = 4 ∨ j = 5 ∨ j = 6 ∨ j = 7 ∨ j = 8 ∨ j = 9 ∨ j = 10 ∨ j = 11 ∨ j = 12 ∨ j = 13 by omega) with rfl | rfl | rfl | rfl | rfl | rfl | rfl | rfl | rfl | rfl | rfl | rfl | rfl | rfl <;> rfl) (by decide +kernel) (by decide +kernel) (by decide +kernel) (cwI 0 hts gL_law_X9_init rfl rfl rfl (hts (.initialized RX9) (mL_1_2)) (hts (.methodLink RL 9 yX9_init) (mL_1_6)) (hts (.instanceMethod yX9_init) (mL_1_7)) rfl (by decide +kernel) ⟨Nat.le_of_ble_eq_true rfl, Nat.le_of_ble_eq_true rfl⟩) hl ⟨Nat.le_of_ble_eq_true rfl, Nat.le_of_ble_eq_true rfl⟩ ⟨Nat.le_of_ble_eq_true rfl, Nat.le_of_ble_eq_true rfl⟩ (Nat.le_of_ble_eq_true rfl) dL_law_0 dL_law_3 dL_law_4 (fun ad H locs hP hD hS => ?_)
  refine lv_astore_n (lv' := [(1, .ref (ad 0)), (0, .ref b)]) hx hb dL_law_7 rfl hl (by decide) rfl (fun ls hl => ?_)
  have hP : va_P D vwCl (uw 99 ad (enX ad cs) sX0) H := hP
  have hD : va_D (fun q : Nat => s.heap.size ≤ q) (uw 99 ad (enX ad cs) sX0) := hD
  refine W.widen (k := 99) (n := 2112) (Nat.le_of_ble_eq_true rfl) (Nat.le_of_ble_eq_true rfl) ?_
  refine u_made (rest := []) (fsd := [.int 0, .null, .int 0, .null, .null, .null, .null, .int 0, .null, .null, .null, .null, .null, .null, .null, .null, .null, .int 0, .null, .null, .null, .null, .null, .null, .int 0, .null, .int 0, .null, .null, .null, .int 0, .int 0, .int 0, .null, .null, .null, .null, .int 0, .null, .null, .int 0, .null, .null, .null]) ⟨hx, hb, hml, hown, hts⟩ hK hAO hA hP hD hS (c_X10_init l D cs) (by decide) (ci := 10) (C := RX10) (T := TX10) (N := 44) rfl inlX10 tyX10 tyX10_ok (fun j hj => by rcases (show j = 0 ∨ j = 1 ∨ j = 2 ∨ j = 3 ∨ j = 4 ∨ j = 5 ∨ j = 6 ∨ j = 7 ∨ j = 8 ∨ j = 9 ∨ j = 10 ∨ j = 11 ∨ j = 12 ∨ j = 13 ∨ j = 14 ∨ j = 15 ∨ j = 16 ∨ j = 17 ∨ j = 18 ∨ j = 19 ∨ j = 20 ∨ j = 21 ∨ j = 22 ∨ j = 23 ∨ j = 24 ∨ j = 25 ∨ j = 26 ∨ j = 27 ∨ j = 28 ∨ j = 29 ∨ j = 30 ∨ j = 31 ∨ j = 32 ∨ j = 33 ∨ j = 34 ∨ j = 35 ∨ j = 36 ∨ j = 37 ∨ j = 38 ∨ j = 39 ∨ j = 40 ∨ j = 41 ∨ j = 42 ∨ j = 43 by omega) with rfl | rfl | rfl | rfl | rfl | rfl | rfl | rfl | rfl | rfl | rfl | rfl | rfl | rfl | rfl | rfl | rfl | rfl | rfl | rfl | rfl | rfl | rfl | rfl | rfl | rfl | rfl | rfl | rfl | rfl | rfl | rfl | rfl | rfl | rfl | rfl | rfl | rfl | rfl | rfl | rfl | rfl | rfl | rfl <;> rfl) (by decide +kernel) (by decide +kernel) (by decide +kernel) (cwI 0 hts gL_law_X10_init rfl rfl rfl (hts (.initialized RX10) (mL_1_5)) (hts (.methodLink RL 12 yX10_init) (mL_6_1)) (hts (.instanceMethod yX10_init) (mL_6_2)) rfl (by decide +kernel) ⟨Nat.le_of_ble_eq_true rfl, Nat.le_of_ble_eq_true rfl⟩) hl ⟨Nat.le_of_ble_eq_true rfl, Nat.le_of_ble_eq_true rfl⟩ ⟨Nat.le_of_ble_eq_true rfl, Nat.le_of_ble_eq_true rfl⟩ (Nat.le_of_ble_eq_true rfl) dL_law_8 dL_law_11 dL_law_12 (fun adM H locs hP hD hS => ?_)
  refine lv_astore_n (lv' := [(2, .ref (adM 0)), (1, .ref (ad 0)), (0, .ref b)]) hx hb dL_law_15 rfl hl (by decide) rfl (fun ls hl => ?_)
  refine W.widen (k := 133) (n := 3502) (Nat.le_of_ble_eq_true rfl) (Nat.le_of_ble_eq_true rfl) ?_
  refine lv_iconst (v := 0) hx hb dL_law_16 (by decide) ?_
  refine lv_istore_n (lv' := [(3, .int 0), (2, .ref (adM 0)), (1, .ref (ad 0)), (0, .ref b)]) hx hb dL_law_17 rfl hl (by decide) rfl (fun ls hl => ?_)
  have hDX := uw_J (va_D_l hD)
  have hDM := uw_J (va_D_r hD)
  rw [← nI_0] at hl
  exact law_loop (cs := cs) ⟨⟨⟨hx, hb, hml, hown, hts⟩, hK, hDX.1, hDX.2, hA, Nat.le_of_ble_eq_true rfl, Nat.le_of_ble_eq_true rfl⟩, ⟨⟨hx, hb, hml, hown, hts⟩, hK.sub [0, 1, 2] rfl, hDM.1, hDM.2, hA, Nat.le_of_ble_eq_true rfl, Nat.le_of_ble_eq_true rfl⟩, va_D_x hD, hX, hbl, hL⟩ hr hlocks L 0 (Nat.zero_le _) (by omega) sX0 sM0 H locs ls rel_init ⟨va_P_l hP, va_P_r hP, hS⟩ (lv_sub hl [3, 2, 1, 0] rfl)
