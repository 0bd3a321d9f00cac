set_option maxHeartbeats 4000000 in
set_option maxRecDepth 100000 in
theorem law_loop {p : Program} {l : Launch} {e : Env} {s : State} {m : MethodId} {below : List Frame} {meth : Method} {c : Code} {D : va_G} {ad adM : Nat → Nat} {cs : Nat → ClassId} {b L : Nat} {xs : Nat → Int32} (C : lC p s m c D ad adM cs b L xs) (hr : meth.sig.returnType = ret) (hlocks : meth.locks = false) :
    ∀ (n i : Nat), i ≤ L → L ≤ i + 6 * n → ∀ (x y : St) (H : Heap) (locs : List Loc) (ls : Array Slot), Rel x y → uL D ad adM cs s x y H locs → lv_has ls 4 [(0, .ref b), (1, .ref (ad 0)), (2, .ref (adM 0)), (3, .int (nI i))] → W p l e room_1 s m #[.ref b] below meth c H locs 133 3502 (lw_Z below #[Value.ref b] s) (F0 m 18 ls []) := by
  have hx := C.1.1.1
  have hb := C.1.1.2.1
  obtain ⟨hX, hbl, hL⟩ := C.2.2.2
  have hbA : ¬ (fun q : Nat => s.heap.size ≤ q) b := Nat.not_le.mpr hbl
  intro n
  induction n with
  | zero =>
    intro i hi hn x y H locs ls hR G hl
    refine lv_iload_n hx hb dL_law_18 rfl (lv_at hl 3 rfl) ?_
    refine lv_aload_n hx hb dL_law_19 rfl (lv_at hl 0 rfl) ?_
    refine va_slen hx hb hX hbl hbA G.2.2 dL_law_20 ?_
    refine lv_bipush (v := 6) hx hb dL_law_21 (by decide) ?_
    refine lv_isub hx hb dL_law_23 ?_
    refine lv_icmp_gt (tgt := 1580) hx hb dL_law_24 (by decide) (fun q => ?_) (fun q => ?_)
    · refine lv_iconst (v := 1) hx hb dL_law_1580 (by decide) ?_
      refine va_forget (fun q hq => G.2.2.2.2 q hq) ?_
      refine W.widen (k := 600000) (n := 7302249) (by omega) (by omega) ?_
      exact lw_ret hx hb hr hlocks dL_law_1581
    · exact absurd (lw_over hL (by omega)) q
  | succ n ih =>
    intro i hi hn x y H locs ls hR G hl
    refine lv_iload_n hx hb dL_law_18 rfl (lv_at hl 3 rfl) ?_
    refine lv_aload_n hx hb dL_law_19 rfl (lv_at hl 0 rfl) ?_
    refine va_slen hx hb hX hbl hbA G.2.2 dL_law_20 ?_
    refine lv_bipush (v := 6) hx hb dL_law_21 (by decide) ?_
    refine lv_isub hx hb dL_law_23 ?_
    refine lv_icmp_gt (tgt := 1580) hx hb dL_law_24 (by decide) (fun q => ?_) (fun q => ?_)
    · refine lv_iconst (v := 1) hx hb dL_law_1580 (by decide) ?_
      refine va_forget (fun q hq => G.2.2.2.2 q hq) ?_
      refine W.widen (k := 600000) (n := 7302249) (by omega) (by omega) ?_
      exact lw_ret hx hb hr hlocks dL_law_1581
    · have hle : i + 6 ≤ L := lw_under hL hi q
      have hnx : ∀ (x y : St) (H : Heap) (locs : List Loc) (ls : Array Slot), Rel x y → uL D ad adM cs s x y H locs → lv_has ls 4 [(0, .ref b), (1, .ref (ad 0)), (2, .ref (adM 0)), (3, .int (nI i))] → W p l e room_1 s m #[.ref b] below meth c H locs 133 3502 (lw_Z below #[Value.ref b] s) (F0 m 1574 ls []) := by
        intro x y H locs ls hR G hl
        refine lv_iinc (v := nI (i + 6)) (lv' := [(3, .int (nI (i + 6))), (0, .ref b), (1, .ref (ad 0)), (2, .ref (adM 0))]) hx hb dL_law_1574 hl (k := 3) rfl (by rw [← nI_add]; rfl) (by decide) rfl (fun ls hl => ?_)
        refine lv_goto (tgt := 18) hx hb dL_law_1577 (by decide) ?_
        exact ih (i + 6) hle (by omega) x y H locs ls hR G (lv_sub hl [1, 2, 3, 0] rfl)
      refine lv_aload_n hx hb dL_law_27 rfl (lv_at hl 0 rfl) ?_
      refine lv_iload_n hx hb dL_law_28 rfl (lv_at hl 3 rfl) ?_
      refine va_sld hx hb hX hbl hbA G.2.2 (vp_in_nI (by omega) (by omega)) dL_law_29 ?_
      refine lv_bipush (v := 63) hx hb dL_law_30 (by decide) ?_
      refine lv_iand hx hb dL_law_32 ?_
      obtain ⟨v, ev⟩ : ∃ v, v = (xs (nI i).toNatClampNeg &&& 63) := ⟨_, rfl⟩
      refine u_nmi ev ?_
      by_cases q0 : v = 0
      · refine lv_tableIn (off := 171) (tgt := 204) hx hb dL_law_33 (by rw [q0]; decide) (by rw [q0]; decide) (by rw [q0]; decide) (by decide) ?_
        exact law_c0 C hle hnx x y H locs ls hR G hl
      by_cases q1 : v = 1
      · refine lv_tableIn (off := 204) (tgt := 237) hx hb dL_law_33 (by rw [q1]; decide) (by rw [q1]; decide) (by rw [q1]; decide) (by decide) ?_
        exact law_c1 C hle hnx x y H locs ls hR G hl
      by_cases q2 : v = 2
      · refine lv_tableIn (off := 237) (tgt := 270) hx hb dL_law_33 (by rw [q2]; decide) (by rw [q2]; decide) (by rw [q2]; decide) (by decide) ?_
        exact law_c2 C hle hnx x y H locs ls hR G hl
      by_cases q3 : v = 3
      · refine lv_tableIn (off := 280) (tgt := 313) hx hb dL_law_33 (by rw [q3]; decide) (by rw [q3]; decide) (by rw [q3]; decide) (by decide) ?_
        exact law_c3 C hle hnx x y H locs ls hR G hl
      by_cases q4 : v = 4
      · refine lv_tableIn (off := 303) (tgt := 336) hx hb dL_law_33 (by rw [q4]; decide) (by rw [q4]; decide) (by rw [q4]; decide) (by decide) ?_
        exact law_c4 C hle hnx x y H locs ls hR G hl
      by_cases q5 : v = 5
      · refine lv_tableIn (off := 366) (tgt := 399) hx hb dL_law_33 (by rw [q5]; decide) (by rw [q5]; decide) (by rw [q5]; decide) (by decide) ?_
        exact law_c5 C hle hnx x y H locs ls hR G hl
      by_cases q6 : v = 6
      · refine lv_tableIn (off := 389) (tgt := 422) hx hb dL_law_33 (by rw [q6]; decide) (by rw [q6]; decide) (by rw [q6]; decide) (by decide) ?_
        exact law_c6 C hle hnx x y H locs ls hR G hl
      by_cases q7 : v = 7
      · refine lv_tableIn (off := 452) (tgt := 485) hx hb dL_law_33 (by rw [q7]; decide) (by rw [q7]; decide) (by rw [q7]; decide) (by decide) ?_
        exact law_c7 C hle hnx x y H locs ls hR G hl
      by_cases q8 : v = 8
      · refine lv_tableIn (off := 485) (tgt := 518) hx hb dL_law_33 (by rw [q8]; decide) (by rw [q8]; decide) (by rw [q8]; decide) (by decide) ?_
        exact law_c8 C hle hnx x y H locs ls hR G hl
      by_cases q9 : v = 9
      · refine lv_tableIn (off := 508) (tgt := 541) hx hb dL_law_33 (by rw [q9]; decide) (by rw [q9]; decide) (by rw [q9]; decide) (by decide) ?_
        exact law_c9 C hle hnx x y H locs ls hR G hl
      by_cases q10 : v = 10
      · refine lv_tableIn (off := 541) (tgt := 574) hx hb dL_law_33 (by rw [q10]; decide) (by rw [q10]; decide) (by rw [q10]; decide) (by decide) ?_
        exact law_c10 C hle hnx x y H locs ls hR G hl
      by_cases q11 : v = 11
      · refine lv_tableIn (off := 574) (tgt := 607) hx hb dL_law_33 (by rw [q11]; decide) (by rw [q11]; decide) (by rw [q11]; decide) (by decide) ?_
        exact law_c11 C hle hnx x y H locs ls hR G hl
      by_cases q12 : v = 12
      · refine lv_tableIn (off := 587) (tgt := 620) hx hb dL_law_33 (by rw [q12]; decide) (by rw [q12]; decide) (by rw [q12]; decide) (by decide) ?_
        exact law_c12 C hle hnx x y H locs ls hR G hl
      by_cases q13 : v = 13
      · refine lv_tableIn (off := 640) (tgt := 673) hx hb dL_law_33 (by rw [q13]; decide) (by rw [q13]; decide) (by rw [q13]; decide) (by decide) ?_
        exact law_c13 C hle hnx x y H locs ls hR G hl
      by_cases q14 : v = 14
      · refine lv_tableIn (off := 683) (tgt := 716) hx hb dL_law_33 (by rw [q14]; decide) (by rw [q14]; decide) (by rw [q14]; decide) (by decide) ?_
        exact law_c14 C hle hnx x y H locs ls hR G hl
      by_cases q15 : v = 15
      · refine lv_tableIn (off := 736) (tgt := 769) hx hb dL_law_33 (by rw [q15]; decide) (by rw [q15]; decide) (by rw [q15]; decide) (by decide) ?_
        exact law_c15 C hle hnx x y H locs ls hR G hl
      by_cases q16 : v = 16
      · refine lv_tableIn (off := 769) (tgt := 802) hx hb dL_law_33 (by rw [q16]; decide) (by rw [q16]; decide) (by rw [q16]; decide) (by decide) ?_
        exact law_c16 C hle hnx x y H locs ls hR G hl
      by_cases q17 : v = 17
      · refine lv_tableIn (off := 802) (tgt := 835) hx hb dL_law_33 (by rw [q17]; decide) (by rw [q17]; decide) (by rw [q17]; decide) (by decide) ?_
        exact law_c17 C hle hnx x y H locs ls hR G hl
      by_cases q18 : v = 18
      · refine lv_tableIn (off := 855) (tgt := 888) hx hb dL_law_33 (by rw [q18]; decide) (by rw [q18]; decide) (by rw [q18]; decide) (by decide) ?_
        exact law_c18 C hle hnx x y H locs ls hR G hl
      by_cases q19 : v = 19
      · refine lv_tableIn (off := 878) (tgt := 911) hx hb dL_law_33 (by rw [q19]; decide) (by rw [q19]; decide) (by rw [q19]; decide) (by decide) ?_
        exact law_c19 C hle hnx x y H locs ls hR G hl
      by_cases q20 : v = 20
      · refine lv_tableIn (off := 921) (tgt := 954) hx hb dL_law_33 (by rw [q20]; decide) (by rw [q20]; decide) (by rw [q20]; decide) (by decide) ?_
        exact law_c20 C hle hnx x y H locs ls hR G hl
      by_cases q21 : v = 21
      · refine lv_tableIn (off := 944) (tgt := 977) hx hb dL_law_33 (by rw [q21]; decide) (by rw [q21]; decide) (by rw [q21]; decide) (by decide) ?_
        exact law_c21 C hle hnx x y H locs ls hR G hl
      by_cases q22 : v = 22
      · refine lv_tableIn (off := 997) (tgt := 1030) hx hb dL_law_33 (by rw [q22]; decide) (by rw [q22]; decide) (by rw [q22]; decide) (by decide) ?_
        exact law_c22 C hle hnx x y H locs ls hR G hl
      by_cases q23 : v = 23
      · refine lv_tableIn (off := 1040) (tgt := 1073) hx hb dL_law_33 (by rw [q23]; decide) (by rw [q23]; decide) (by rw [q23]; decide) (by decide) ?_
        exact law_c23 C hle hnx x y H locs ls hR G hl
      by_cases q24 : v = 24
      · refine lv_tableIn (off := 1083) (tgt := 1116) hx hb dL_law_33 (by rw [q24]; decide) (by rw [q24]; decide) (by rw [q24]; decide) (by decide) ?_
        exact law_c24 C hle hnx x y H locs ls hR G hl
      by_cases q25 : v = 25
      · refine lv_tableIn (off := 1116) (tgt := 1149) hx hb dL_law_33 (by rw [q25]; decide) (by rw [q25]; decide) (by rw [q25]; decide) (by decide) ?_
        exact law_c25 C hle hnx x y H locs ls hR G hl
      by_cases q26 : v = 26
      · refine lv_tableIn (off := 1165) (tgt := 1198) hx hb dL_law_33 (by rw [q26]; decide) (by rw [q26]; decide) (by rw [q26]; decide) (by decide) ?_
        exact law_c26 C hle hnx x y H locs ls hR G hl
      by_cases q27 : v = 27
      · refine lv_tableIn (off := 1188) (tgt := 1221) hx hb dL_law_33 (by rw [q27]; decide) (by rw [q27]; decide) (by rw [q27]; decide) (by decide) ?_
        exact law_c27 C hle hnx x y H locs ls hR G hl
      by_cases q28 : v = 28
      · refine lv_tableIn (off := 1241) (tgt := 1274) hx hb dL_law_33 (by rw [q28]; decide) (by rw [q28]; decide) (by rw [q28]; decide) (by decide) ?_
        exact law_c28 C hle hnx x y H locs ls hR G hl
      by_cases q29 : v = 29
      · refine lv_tableIn (off := 1284) (tgt := 1317) hx hb dL_law_33 (by rw [q29]; decide) (by rw [q29]; decide) (by rw [q29]; decide) (by decide) ?_
        exact law_c29 C hle hnx x y H locs ls hR G hl
      by_cases q30 : v = 30
      · refine lv_tableIn (off := 1317) (tgt := 1350) hx hb dL_law_33 (by rw [q30]; decide) (by rw [q30]; decide) (by rw [q30]; decide) (by decide) ?_
        exact law_c30 C hle hnx x y H locs ls hR G hl
      by_cases q31 : v = 31
      · refine lv_tableIn (off := 1350) (tgt := 1383) hx hb dL_law_33 (by rw [q31]; decide) (by rw [q31]; decide) (by rw [q31]; decide) (by decide) ?_
        exact law_c31 C hle hnx x y H locs ls hR G hl
      by_cases q32 : v = 32
      · refine lv_tableIn (off := 1373) (tgt := 1406) hx hb dL_law_33 (by rw [q32]; decide) (by rw [q32]; decide) (by rw [q32]; decide) (by decide) ?_
        exact law_c32 C hle hnx x y H locs ls hR G hl
      by_cases q33 : v = 33
      · refine lv_tableIn (off := 1432) (tgt := 1465) hx hb dL_law_33 (by rw [q33]; decide) (by rw [q33]; decide) (by rw [q33]; decide) (by decide) ?_
        exact law_c33 C hle hnx x y H locs ls hR G hl
      by_cases q34 : v = 34
      · refine lv_tableIn (off := 1455) (tgt := 1488) hx hb dL_law_33 (by rw [q34]; decide) (by rw [q34]; decide) (by rw [q34]; decide) (by decide) ?_
        exact law_c34 C hle hnx x y H locs ls hR G hl
      by_cases q35 : v = 35
      · refine lv_tableIn (off := 1468) (tgt := 1501) hx hb dL_law_33 (by rw [q35]; decide) (by rw [q35]; decide) (by rw [q35]; decide) (by decide) ?_
        exact law_c35 C hle hnx x y H locs ls hR G hl
      by_cases q36 : v = 36
      · refine lv_tableIn (off := 1491) (tgt := 1524) hx hb dL_law_33 (by rw [q36]; decide) (by rw [q36]; decide) (by rw [q36]; decide) (by decide) ?_
        exact law_c36 C hle hnx x y H locs ls hR G hl
      by_cases q37 : v = 37
      · refine lv_tableIn (off := 1504) (tgt := 1537) hx hb dL_law_33 (by rw [q37]; decide) (by rw [q37]; decide) (by rw [q37]; decide) (by decide) ?_
        exact law_c37 C hle hnx x y H locs ls hR G hl
      by_cases q38 : v = 38
      · refine lv_tableIn (off := 1527) (tgt := 1560) hx hb dL_law_33 (by rw [q38]; decide) (by rw [q38]; decide) (by rw [q38]; decide) (by decide) ?_
        exact law_c38 C hle hnx x y H locs ls hR G hl
      refine lv_tableOut (tgt := 1574) hx hb dL_law_33 (by have n0 := lv_neT q0 (a := 0) (by decide); have n1 := lv_neT q1 (a := 1) (by decide); have n2 := lv_neT q2 (a := 2) (by decide); have n3 := lv_neT q3 (a := 3) (by decide); have n4 := lv_neT q4 (a := 4) (by decide); have n5 := lv_neT q5 (a := 5) (by decide); have n6 := lv_neT q6 (a := 6) (by decide); have n7 := lv_neT q7 (a := 7) (by decide); have n8 := lv_neT q8 (a := 8) (by decide); have n9 := lv_neT q9 (a := 9) (by decide); have n10 := lv_neT q10 (a := 10) (by decide); have n11 := lv_neT q11 (a := 11) (by decide); have n12 := lv_neT q12 (a := 12) (by decide); have n13 := lv_neT q13 (a := 13) (by decide); have n14 := lv_neT q14 (a := 14) (by decide); have n15 := lv_neT q15 (a := 15) (by decide); have n16 := lv_neT q16 (a := 16) (by decide); have n17 := lv_neT q17 (a := 17) (by decide); have n18 := lv_neT q18 (a := 18) (by decide); have n19 := lv_neT q19 (a := 19) (by decide); have n20 := lv_neT q20 (a := 20) (by decide); have n21 := lv_neT q21 (a := 21) (by decide); have n22 := lv_neT q22 (a := 22) (by decide); have n23 := lv_neT q23 (a := 23) (by decide); have n24 := lv_neT q24 (a := 24) (by decide); have n25 := lv_neT q25 (a := 25) (by decide); have n26 := lv_neT q26 (a := 26) (by decide); have n27 := lv_neT q27 (a := 27) (by decide); have n28 := lv_neT q28 (a := 28) (by decide); have n29 := lv_neT q29 (a := 29) (by decide); have n30 := lv_neT q30 (a := 30) (by decide); have n31 := lv_neT q31 (a := 31) (by decide); have n32 := lv_neT q32 (a := 32) (by decide); have n33 := lv_neT q33 (a := 33) (by decide); have n34 := lv_neT q34 (a := 34) (by decide); have n35 := lv_neT q35 (a := 35) (by decide); have n36 := lv_neT q36 (a := 36) (by decide); have n37 := lv_neT q37 (a := 37) (by decide); have n38 := lv_neT q38 (a := 38) (by decide); omega) (by decide) ?_
      exact hnx x y H locs ls hR G hl

