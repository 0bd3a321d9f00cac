set_option maxHeartbeats 4000000 in
set_option maxRecDepth 100000 in
theorem law_c5 {p : Program} {l : Launch} {e : Env} {s : State} {m : MethodId} {below : List Frame} {meth : Method} {c : Code} {D : va_G} {ad adM : Nat → Nat} {cs : Nat → ClassId} {b L : Nat} {xs : Nat → Int32} {i : Nat} (C : lC p s m c D ad adM cs b L xs) (hi : i + 6 ≤ L) (hnext : ∀ (x y : St) (H : Heap) (locs : List Loc) (ls : Array Slot), Rel x y → uL D ad adM cs s x y H locs → lv_has ls 4 [(0, .ref b), (1, .ref (ad 0)), (2, .ref (adM 0)), (3, .int (nI i))] → W p l e room_1 s m #[.ref b] below meth c H locs 133 3502 (lw_Z below #[Value.ref b] s) (F0 m 1574 ls [])) :
    ∀ (x y : St) (H : Heap) (locs : List Loc) (ls : Array Slot), Rel x y → uL D ad adM cs s x y H locs → lv_has ls 4 [(0, .ref b), (1, .ref (ad 0)), (2, .ref (adM 0)), (3, .int (nI i))] → W p l e room_1 s m #[.ref b] below meth c H locs 133 3502 (lw_Z below #[Value.ref b] s) (F0 m 399 ls []) := by
  intro x y H locs ls hR G hl
  have hx := C.1.1.1
  have hb := C.1.1.2.1
  obtain ⟨hX, hbl, hL⟩ := C.2.2.2
  have hbA : ¬ (fun q : Nat => s.heap.size ≤ q) b := Nat.not_le.mpr hbl
  obtain ⟨r, x', y', e1, e2, hR'⟩ := op_word hR (xs (nI i + 1).toNatClampNeg)
  refine lv_aload_n hx hb dL_law_399 rfl (lv_at hl 1 rfl) ?_
  refine lv_aload_n hx hb dL_law_400 rfl (lv_at hl 0 rfl) ?_
  refine lv_iload_n hx hb dL_law_401 rfl (lv_at hl 3 rfl) ?_
  refine lv_iconst (v := 1) hx hb dL_law_402 (by decide) ?_
  refine lv_iadd hx hb dL_law_403 ?_
  refine va_sld hx hb hX hbl hbA G.2.2 (lw_in (j := 1) (by decide) (by omega) hL) dL_law_404 ?_
  refine law_Xi (As := [.int (xs (nI i + 1).toNatClampNeg)]) (rest := []) C G (c_X9_word l D ad cs C.1.2.2.1 x (xs (nI i + 1).toNatClampNeg) r x' e1) (cwV 1 C.1.1.2.2.2.2 gL_law_X9_word rfl rfl rfl (by decide +kernel) ⟨Nat.le_of_ble_eq_true rfl, Nat.le_of_ble_eq_true rfl⟩) rfl hl rfl (Nat.le_of_ble_eq_true rfl) dL_law_405 (fun H locs G => ?_)
  refine lv_aload_n hx hb dL_law_408 rfl (lv_at hl 2 rfl) ?_
  refine lv_aload_n hx hb dL_law_409 rfl (lv_at hl 0 rfl) ?_
  refine lv_iload_n hx hb dL_law_410 rfl (lv_at hl 3 rfl) ?_
  refine lv_iconst (v := 1) hx hb dL_law_411 (by decide) ?_
  refine lv_iadd hx hb dL_law_412 ?_
  refine va_sld hx hb hX hbl hbA G.2.2 (lw_in (j := 1) (by decide) (by omega) hL) dL_law_413 ?_
  refine law_Mi (As := [.int (xs (nI i + 1).toNatClampNeg)]) (rest := [.int r]) C G (c_X10_word l D adM cs C.2.1.2.2.1 y (xs (nI i + 1).toNatClampNeg) r y' e2) (cwV 1 C.1.1.2.2.2.2 gL_law_X10_word rfl rfl rfl (by decide +kernel) ⟨Nat.le_of_ble_eq_true rfl, Nat.le_of_ble_eq_true rfl⟩) rfl hl rfl (Nat.le_of_ble_eq_true rfl) dL_law_414 (fun H locs G => ?_)
  refine lv_icmp_eq (tgt := 1574) hx hb dL_law_417 (by decide) (fun _ => ?_) (fun q => absurd rfl q)
  exact hnext x' y' H locs ls hR' G hl
set_option maxHeartbeats 4000000 in
set_option maxRecDepth 100000 in
theorem law_c6 {p : Program} {l : Launch} {e : Env} {s : State} {m : MethodId} {below : List Frame} {meth : Method} {c : Code} {D : va_G} {ad adM : Nat → Nat} {cs : Nat → ClassId} {b L : Nat} {xs : Nat → Int32} {i : Nat} (C : lC p s m c D ad adM cs b L xs) (hi : i + 6 ≤ L) (hnext : ∀ (x y : St) (H : Heap) (locs : List Loc) (ls : Array Slot), Rel x y → uL D ad adM cs s x y H locs → lv_has ls 4 [(0, .ref b), (1, .ref (ad 0)), (2, .ref (adM 0)), (3, .int (nI i))] → W p l e room_1 s m #[.ref b] below meth c H locs 133 3502 (lw_Z below #[Value.ref b] s) (F0 m 1574 ls [])) :
    ∀ (x y : St) (H : Heap) (locs : List Loc) (ls : Array Slot), Rel x y → uL D ad adM cs s x y H locs → lv_has ls 4 [(0, .ref b), (1, .ref (ad 0)), (2, .ref (adM 0)), (3, .int (nI i))] → W p l e room_1 s m #[.ref b] below meth c H locs 133 3502 (lw_Z below #[Value.ref b] s) (F0 m 422 ls []) := by
  intro x y H locs ls hR G hl
  have hx := C.1.1.1
  have hb := C.1.1.2.1
  obtain ⟨hX, hbl, hL⟩ := C.2.2.2
  have hbA : ¬ (fun q : Nat => s.heap.size ≤ q) b := Nat.not_le.mpr hbl
  obtain ⟨r, x', y', e1, e2, hR'⟩ := op_firm hR (xs (nI i + 1).toNatClampNeg) (xs (nI i + 2).toNatClampNeg) (xs (nI i + 3).toNatClampNeg) (xs (nI i + 4).toNatClampNeg) (xs (nI i + 5).toNatClampNeg)
  refine lv_aload_n hx hb dL_law_422 rfl (lv_at hl 1 rfl) ?_
  refine lv_aload_n hx hb dL_law_423 rfl (lv_at hl 0 rfl) ?_
  refine lv_iload_n hx hb dL_law_424 rfl (lv_at hl 3 rfl) ?_
  refine lv_iconst (v := 1) hx hb dL_law_425 (by decide) ?_
  refine lv_iadd hx hb dL_law_426 ?_
  refine va_sld hx hb hX hbl hbA G.2.2 (lw_in (j := 1) (by decide) (by omega) hL) dL_law_427 ?_
  refine lv_aload_n hx hb dL_law_428 rfl (lv_at hl 0 rfl) ?_
  refine lv_iload_n hx hb dL_law_429 rfl (lv_at hl 3 rfl) ?_
  refine lv_iconst (v := 2) hx hb dL_law_430 (by decide) ?_
  refine lv_iadd hx hb dL_law_431 ?_
  refine va_sld hx hb hX hbl hbA G.2.2 (lw_in (j := 2) (by decide) (by omega) hL) dL_law_432 ?_
  refine lv_aload_n hx hb dL_law_433 rfl (lv_at hl 0 rfl) ?_
  refine lv_iload_n hx hb dL_law_434 rfl (lv_at hl 3 rfl) ?_
  refine lv_iconst (v := 3) hx hb dL_law_435 (by decide) ?_
  refine lv_iadd hx hb dL_law_436 ?_
  refine va_sld hx hb hX hbl hbA G.2.2 (lw_in (j := 3) (by decide) (by omega) hL) dL_law_437 ?_
  refine lv_aload_n hx hb dL_law_438 rfl (lv_at hl 0 rfl) ?_
  refine lv_iload_n hx hb dL_law_439 rfl (lv_at hl 3 rfl) ?_
  refine lv_iconst (v := 4) hx hb dL_law_440 (by decide) ?_
  refine lv_iadd hx hb dL_law_441 ?_
  refine va_sld hx hb hX hbl hbA G.2.2 (lw_in (j := 4) (by decide) (by omega) hL) dL_law_442 ?_
  refine lv_aload_n hx hb dL_law_443 rfl (lv_at hl 0 rfl) ?_
  refine lv_iload_n hx hb dL_law_444 rfl (lv_at hl 3 rfl) ?_
  refine lv_iconst (v := 5) hx hb dL_law_445 (by decide) ?_
  refine lv_iadd hx hb dL_law_446 ?_
  refine va_sld hx hb hX hbl hbA G.2.2 (lw_in (j := 5) (by decide) (by omega) hL) dL_law_447 ?_
  refine law_Xi (As := [.int (xs (nI i + 1).toNatClampNeg), .int (xs (nI i + 2).toNatClampNeg), .int (xs (nI i + 3).toNatClampNeg), .int (xs (nI i + 4).toNatClampNeg), .int (xs (nI i + 5).toNatClampNeg)]) (rest := []) C G (c_X9_firm l D ad cs C.1.2.2.1 x (xs (nI i + 1).toNatClampNeg) (xs (nI i + 2).toNatClampNeg) (xs (nI i + 3).toNatClampNeg) (xs (nI i + 4).toNatClampNeg) (xs (nI i + 5).toNatClampNeg) r x' e1) (cwV 5 C.1.1.2.2.2.2 gL_law_X9_firm rfl rfl rfl (by decide +kernel) ⟨Nat.le_of_ble_eq_true rfl, Nat.le_of_ble_eq_true rfl⟩) rfl hl rfl (Nat.le_of_ble_eq_true rfl) dL_law_448 (fun H locs G => ?_)
  refine lv_aload_n hx hb dL_law_451 rfl (lv_at hl 2 rfl) ?_
  refine lv_aload_n hx hb dL_law_452 rfl (lv_at hl 0 rfl) ?_
  refine lv_iload_n hx hb dL_law_453 rfl (lv_at hl 3 rfl) ?_
  refine lv_iconst (v := 1) hx hb dL_law_454 (by decide) ?_
  refine lv_iadd hx hb dL_law_455 ?_
  refine va_sld hx hb hX hbl hbA G.2.2 (lw_in (j := 1) (by decide) (by omega) hL) dL_law_456 ?_
  refine lv_aload_n hx hb dL_law_457 rfl (lv_at hl 0 rfl) ?_
  refine lv_iload_n hx hb dL_law_458 rfl (lv_at hl 3 rfl) ?_
  refine lv_iconst (v := 2) hx hb dL_law_459 (by decide) ?_
  refine lv_iadd hx hb dL_law_460 ?_
  refine va_sld hx hb hX hbl hbA G.2.2 (lw_in (j := 2) (by decide) (by omega) hL) dL_law_461 ?_
  refine lv_aload_n hx hb dL_law_462 rfl (lv_at hl 0 rfl) ?_
  refine lv_iload_n hx hb dL_law_463 rfl (lv_at hl 3 rfl) ?_
  refine lv_iconst (v := 3) hx hb dL_law_464 (by decide) ?_
  refine lv_iadd hx hb dL_law_465 ?_
  refine va_sld hx hb hX hbl hbA G.2.2 (lw_in (j := 3) (by decide) (by omega) hL) dL_law_466 ?_
  refine lv_aload_n hx hb dL_law_467 rfl (lv_at hl 0 rfl) ?_
  refine lv_iload_n hx hb dL_law_468 rfl (lv_at hl 3 rfl) ?_
  refine lv_iconst (v := 4) hx hb dL_law_469 (by decide) ?_
  refine lv_iadd hx hb dL_law_470 ?_
  refine va_sld hx hb hX hbl hbA G.2.2 (lw_in (j := 4) (by decide) (by omega) hL) dL_law_471 ?_
  refine lv_aload_n hx hb dL_law_472 rfl (lv_at hl 0 rfl) ?_
  refine lv_iload_n hx hb dL_law_473 rfl (lv_at hl 3 rfl) ?_
  refine lv_iconst (v := 5) hx hb dL_law_474 (by decide) ?_
  refine lv_iadd hx hb dL_law_475 ?_
  refine va_sld hx hb hX hbl hbA G.2.2 (lw_in (j := 5) (by decide) (by omega) hL) dL_law_476 ?_
  refine law_Mi (As := [.int (xs (nI i + 1).toNatClampNeg), .int (xs (nI i + 2).toNatClampNeg), .int (xs (nI i + 3).toNatClampNeg), .int (xs (nI i + 4).toNatClampNeg), .int (xs (nI i + 5).toNatClampNeg)]) (rest := [.int r]) C G (c_X10_firm l D adM cs C.2.1.2.2.1 y (xs (nI i + 1).toNatClampNeg) (xs (nI i + 2).toNatClampNeg) (xs (nI i + 3).toNatClampNeg) (xs (nI i + 4).toNatClampNeg) (xs (nI i + 5).toNatClampNeg) r y' e2) (cwV 5 C.1.1.2.2.2.2 gL_law_X10_firm rfl rfl rfl (by decide +kernel) ⟨Nat.le_of_ble_eq_true rfl, Nat.le_of_ble_eq_true rfl⟩) rfl hl rfl (Nat.le_of_ble_eq_true rfl) dL_law_477 (fun H locs G => ?_)
  refine lv_icmp_eq (tgt := 1574) hx hb dL_law_480 (by decide) (fun _ => ?_) (fun q => absurd rfl q)
  exact hnext x' y' H locs ls hR' G hl
set_option maxHeartbeats 4000000 in
set_option maxRecDepth 100000 in
theorem law_c7 {p : Program} {l : Launch} {e : Env} {s : State} {m : MethodId} {below : List Frame} {meth : Method} {c : Code} {D : va_G} {ad adM : Nat → Nat} {cs : Nat → ClassId} {b L : Nat} {xs : Nat → Int32} {i : Nat} (C : lC p s m c D ad adM cs b L xs) (hi : i + 6 ≤ L) (hnext : ∀ (x y : St) (H : Heap) (locs : List Loc) (ls : Array Slot), Rel x y → uL D ad adM cs s x y H locs → lv_has ls 4 [(0, .ref b), (1, .ref (ad 0)), (2, .ref (adM 0)), (3, .int (nI i))] → W p l e room_1 s m #[.ref b] below meth c H locs 133 3502 (lw_Z below #[Value.ref b] s) (F0 m 1574 ls [])) :
    ∀ (x y : St) (H : Heap) (locs : List Loc) (ls : Array Slot), Rel x y → uL D ad adM cs s x y H locs → lv_has ls 4 [(0, .ref b), (1, .ref (ad 0)), (2, .ref (adM 0)), (3, .int (nI i))] → W p l e room_1 s m #[.ref b] below meth c H locs 133 3502 (lw_Z below #[Value.ref b] s) (F0 m 485 ls []) := by
  intro x y H locs ls hR G hl
  have hx := C.1.1.1
  have hb := C.1.1.2.1
  obtain ⟨hX, hbl, hL⟩ := C.2.2.2
  have hbA : ¬ (fun q : Nat => s.heap.size ≤ q) b := Nat.not_le.mpr hbl
  obtain ⟨r, x', y', e1, e2, hR'⟩ := op_slogan hR (xs (nI i + 1).toNatClampNeg) (xs (nI i + 2).toNatClampNeg)
  refine lv_aload_n hx hb dL_law_485 rfl (lv_at hl 1 rfl) ?_
  refine lv_aload_n hx hb dL_law_486 rfl (lv_at hl 0 rfl) ?_
  refine lv_iload_n hx hb dL_law_487 rfl (lv_at hl 3 rfl) ?_
  refine lv_iconst (v := 1) hx hb dL_law_488 (by decide) ?_
  refine lv_iadd hx hb dL_law_489 ?_
  refine va_sld hx hb hX hbl hbA G.2.2 (lw_in (j := 1) (by decide) (by omega) hL) dL_law_490 ?_
  refine lv_aload_n hx hb dL_law_491 rfl (lv_at hl 0 rfl) ?_
  refine lv_iload_n hx hb dL_law_492 rfl (lv_at hl 3 rfl) ?_
  refine lv_iconst (v := 2) hx hb dL_law_493 (by decide) ?_
  refine lv_iadd hx hb dL_law_494 ?_
  refine va_sld hx hb hX hbl hbA G.2.2 (lw_in (j := 2) (by decide) (by omega) hL) dL_law_495 ?_
  refine law_Xi (As := [.int (xs (nI i + 1).toNatClampNeg), .int (xs (nI i + 2).toNatClampNeg)]) (rest := []) C G (c_X9_slogan l D ad cs C.1.2.2.1 x (xs (nI i + 1).toNatClampNeg) (xs (nI i + 2).toNatClampNeg) r x' e1) (cwV 2 C.1.1.2.2.2.2 gL_law_X9_slogan rfl rfl rfl (by decide +kernel) ⟨Nat.le_of_ble_eq_true rfl, Nat.le_of_ble_eq_true rfl⟩) rfl hl rfl (Nat.le_of_ble_eq_true rfl) dL_law_496 (fun H locs G => ?_)
  refine lv_aload_n hx hb dL_law_499 rfl (lv_at hl 2 rfl) ?_
  refine lv_aload_n hx hb dL_law_500 rfl (lv_at hl 0 rfl) ?_
  refine lv_iload_n hx hb dL_law_501 rfl (lv_at hl 3 rfl) ?_
  refine lv_iconst (v := 1) hx hb dL_law_502 (by decide) ?_
  refine lv_iadd hx hb dL_law_503 ?_
  refine va_sld hx hb hX hbl hbA G.2.2 (lw_in (j := 1) (by decide) (by omega) hL) dL_law_504 ?_
  refine lv_aload_n hx hb dL_law_505 rfl (lv_at hl 0 rfl) ?_
  refine lv_iload_n hx hb dL_law_506 rfl (lv_at hl 3 rfl) ?_
  refine lv_iconst (v := 2) hx hb dL_law_507 (by decide) ?_
  refine lv_iadd hx hb dL_law_508 ?_
  refine va_sld hx hb hX hbl hbA G.2.2 (lw_in (j := 2) (by decide) (by omega) hL) dL_law_509 ?_
  refine law_Mi (As := [.int (xs (nI i + 1).toNatClampNeg), .int (xs (nI i + 2).toNatClampNeg)]) (rest := [.int r]) C G (c_X10_slogan l D adM cs C.2.1.2.2.1 y (xs (nI i + 1).toNatClampNeg) (xs (nI i + 2).toNatClampNeg) r y' e2) (cwV 2 C.1.1.2.2.2.2 gL_law_X10_slogan rfl rfl rfl (by decide +kernel) ⟨Nat.le_of_ble_eq_true rfl, Nat.le_of_ble_eq_true rfl⟩) rfl hl rfl (Nat.le_of_ble_eq_true rfl) dL_law_510 (fun H locs G => ?_)
  refine lv_icmp_eq (tgt := 1574) hx hb dL_law_513 (by decide) (fun _ => ?_) (fun q => absurd rfl q)
  exact hnext x' y' H locs ls hR' G hl
set_option maxHeartbeats 4000000 in
set_option maxRecDepth 100000 in
theorem law_c8 {p : Program} {l : Launch} {e : Env} {s : State} {m : MethodId} {below : List Frame} {meth : Method} {c : Code} {D : va_G} {ad adM : Nat → Nat} {cs : Nat → ClassId} {b L : Nat} {xs : Nat → Int32} {i : Nat} (C : lC p s m c D ad adM cs b L xs) (hi : i + 6 ≤ L) (hnext : ∀ (x y : St) (H : Heap) (locs : List Loc) (ls : Array Slot), Rel x y → uL D ad adM cs s x y H locs → lv_has ls 4 [(0, .ref b), (1, .ref (ad 0)), (2, .ref (adM 0)), (3, .int (nI i))] → W p l e room_1 s m #[.ref b] below meth c H locs 133 3502 (lw_Z below #[Value.ref b] s) (F0 m 1574 ls [])) :
    ∀ (x y : St) (H : Heap) (locs : List Loc) (ls : Array Slot), Rel x y → uL D ad adM cs s x y H locs → lv_has ls 4 [(0, .ref b), (1, .ref (ad 0)), (2, .ref (adM 0)), (3, .int (nI i))] → W p l e room_1 s m #[.ref b] below meth c H locs 133 3502 (lw_Z below #[Value.ref b] s) (F0 m 518 ls []) := by
  intro x y H locs ls hR G hl
  have hx := C.1.1.1
  have hb := C.1.1.2.1
  obtain ⟨hX, hbl, hL⟩ := C.2.2.2
  have hbA : ¬ (fun q : Nat => s.heap.size ≤ q) b := Nat.not_le.mpr hbl
  obtain ⟨r, x', y', e1, e2, hR'⟩ := op_strike hR (xs (nI i + 1).toNatClampNeg)
  refine lv_aload_n hx hb dL_law_518 rfl (lv_at hl 1 rfl) ?_
  refine lv_aload_n hx hb dL_law_519 rfl (lv_at hl 0 rfl) ?_
  refine lv_iload_n hx hb dL_law_520 rfl (lv_at hl 3 rfl) ?_
  refine lv_iconst (v := 1) hx hb dL_law_521 (by decide) ?_
  refine lv_iadd hx hb dL_law_522 ?_
  refine va_sld hx hb hX hbl hbA G.2.2 (lw_in (j := 1) (by decide) (by omega) hL) dL_law_523 ?_
  refine law_Xi (As := [.int (xs (nI i + 1).toNatClampNeg)]) (rest := []) C G (c_X9_strike l D ad cs C.1.2.2.1 x (xs (nI i + 1).toNatClampNeg) r x' e1) (cwV 1 C.1.1.2.2.2.2 gL_law_X9_strike rfl rfl rfl (by decide +kernel) ⟨Nat.le_of_ble_eq_true rfl, Nat.le_of_ble_eq_true rfl⟩) rfl hl rfl (Nat.le_of_ble_eq_true rfl) dL_law_524 (fun H locs G => ?_)
  refine lv_aload_n hx hb dL_law_527 rfl (lv_at hl 2 rfl) ?_
  refine lv_aload_n hx hb dL_law_528 rfl (lv_at hl 0 rfl) ?_
  refine lv_iload_n hx hb dL_law_529 rfl (lv_at hl 3 rfl) ?_
  refine lv_iconst (v := 1) hx hb dL_law_530 (by decide) ?_
  refine lv_iadd hx hb dL_law_531 ?_
  refine va_sld hx hb hX hbl hbA G.2.2 (lw_in (j := 1) (by decide) (by omega) hL) dL_law_532 ?_
  refine law_Mi (As := [.int (xs (nI i + 1).toNatClampNeg)]) (rest := [.int r]) C G (c_X10_strike l D adM cs C.2.1.2.2.1 y (xs (nI i + 1).toNatClampNeg) r y' e2) (cwV 1 C.1.1.2.2.2.2 gL_law_X10_strike rfl rfl rfl (by decide +kernel) ⟨Nat.le_of_ble_eq_true rfl, Nat.le_of_ble_eq_true rfl⟩) rfl hl rfl (Nat.le_of_ble_eq_true rfl) dL_law_533 (fun H locs G => ?_)
  refine lv_icmp_eq (tgt := 1574) hx hb dL_law_536 (by decide) (fun _ => ?_) (fun q => absurd rfl q)
  exact hnext x' y' H locs ls hR' G hl
set_option maxHeartbeats 4000000 in
set_option maxRecDepth 100000 in
theorem law_c9 {p : Program} {l : Launch} {e : Env} {s : State} {m : MethodId} {below : List Frame} {meth : Method} {c : Code} {D : va_G} {ad adM : Nat → Nat} {cs : Nat → ClassId} {b L : Nat} {xs : Nat → Int32} {i : Nat} (C : lC p s m c D ad adM cs b L xs) (hi : i + 6 ≤ L) (hnext : ∀ (x y : St) (H : Heap) (locs : List Loc) (ls : Array Slot), Rel x y → uL D ad adM cs s x y H locs → lv_has ls 4 [(0, .ref b), (1, .ref (ad 0)), (2, .ref (adM 0)), (3, .int (nI i))] → W p l e room_1 s m #[.ref b] below meth c H locs 133 3502 (lw_Z below #[Value.ref b] s) (F0 m 1574 ls [])) :
    ∀ (x y : St) (H : Heap) (locs : List Loc) (ls : Array Slot), Rel x y → uL D ad adM cs s x y H locs → lv_has ls 4 [(0, .ref b), (1, .ref (ad 0)), (2, .ref (adM 0)), (3, .int (nI i))] → W p l e room_1 s m #[.ref b] below meth c H locs 133 3502 (lw_Z below #[Value.ref b] s) (F0 m 541 ls []) := by
  intro x y H locs ls hR G hl
  have hx := C.1.1.1
  have hb := C.1.1.2.1
  obtain ⟨hX, hbl, hL⟩ := C.2.2.2
  have hbA : ¬ (fun q : Nat => s.heap.size ≤ q) b := Nat.not_le.mpr hbl
  obtain ⟨r, x', y', e1, e2, hR'⟩ := op_told hR (xs (nI i + 1).toNatClampNeg) (xs (nI i + 2).toNatClampNeg)
  refine lv_aload_n hx hb dL_law_541 rfl (lv_at hl 1 rfl) ?_
  refine lv_aload_n hx hb dL_law_542 rfl (lv_at hl 0 rfl) ?_
  refine lv_iload_n hx hb dL_law_543 rfl (lv_at hl 3 rfl) ?_
  refine lv_iconst (v := 1) hx hb dL_law_544 (by decide) ?_
  refine lv_iadd hx hb dL_law_545 ?_
  refine va_sld hx hb hX hbl hbA G.2.2 (lw_in (j := 1) (by decide) (by omega) hL) dL_law_546 ?_
  refine lv_aload_n hx hb dL_law_547 rfl (lv_at hl 0 rfl) ?_
  refine lv_iload_n hx hb dL_law_548 rfl (lv_at hl 3 rfl) ?_
  refine lv_iconst (v := 2) hx hb dL_law_549 (by decide) ?_
  refine lv_iadd hx hb dL_law_550 ?_
  refine va_sld hx hb hX hbl hbA G.2.2 (lw_in (j := 2) (by decide) (by omega) hL) dL_law_551 ?_
  refine law_Xi (As := [.int (xs (nI i + 1).toNatClampNeg), .int (xs (nI i + 2).toNatClampNeg)]) (rest := []) C G (c_X9_told l D ad cs C.1.2.2.1 x (xs (nI i + 1).toNatClampNeg) (xs (nI i + 2).toNatClampNeg) r x' e1) (cwV 2 C.1.1.2.2.2.2 gL_law_X9_told rfl rfl rfl (by decide +kernel) ⟨Nat.le_of_ble_eq_true rfl, Nat.le_of_ble_eq_true rfl⟩) rfl hl rfl (Nat.le_of_ble_eq_true rfl) dL_law_552 (fun H locs G => ?_)
  refine lv_aload_n hx hb dL_law_555 rfl (lv_at hl 2 rfl) ?_
  refine lv_aload_n hx hb dL_law_556 rfl (lv_at hl 0 rfl) ?_
  refine lv_iload_n hx hb dL_law_557 rfl (lv_at hl 3 rfl) ?_
  refine lv_iconst (v := 1) hx hb dL_law_558 (by decide) ?_
  refine lv_iadd hx hb dL_law_559 ?_
  refine va_sld hx hb hX hbl hbA G.2.2 (lw_in (j := 1) (by decide) (by omega) hL) dL_law_560 ?_
  refine lv_aload_n hx hb dL_law_561 rfl (lv_at hl 0 rfl) ?_
  refine lv_iload_n hx hb dL_law_562 rfl (lv_at hl 3 rfl) ?_
  refine lv_iconst (v := 2) hx hb dL_law_563 (by decide) ?_
  refine lv_iadd hx hb dL_law_564 ?_
  refine va_sld hx hb hX hbl hbA G.2.2 (lw_in (j := 2) (by decide) (by omega) hL) dL_law_565 ?_
  refine law_Mi (As := [.int (xs (nI i + 1).toNatClampNeg), .int (xs (nI i + 2).toNatClampNeg)]) (rest := [.int r]) C G (c_X10_told l D adM cs C.2.1.2.2.1 y (xs (nI i + 1).toNatClampNeg) (xs (nI i + 2).toNatClampNeg) r y' e2) (cwV 2 C.1.1.2.2.2.2 gL_law_X10_told rfl rfl rfl (by decide +kernel) ⟨Nat.le_of_ble_eq_true rfl, Nat.le_of_ble_eq_true rfl⟩) rfl hl rfl (Nat.le_of_ble_eq_true rfl) dL_law_566 (fun H locs G => ?_)
  refine lv_icmp_eq (tgt := 1574) hx hb dL_law_569 (by decide) (fun _ => ?_) (fun q => absurd rfl q)
  exact hnext x' y' H locs ls hR' G hl
set_option maxHeartbeats 4000000 in
set_option maxRecDepth 100000 in
theorem law_c10 {p : Program} {l : Launch} {e : Env} {s : State} {m : MethodId} {below : List Frame} {meth : Method} {c : Code} {D : va_G} {ad adM : Nat → Nat} {cs : Nat → ClassId} {b L : Nat} {xs : Nat → Int32} {i : Nat} (C : lC p s m c D ad adM cs b L xs) (hi : i + 6 ≤ L) (hnext : ∀ (x y : St) (H : Heap) (locs : List Loc) (ls : Array Slot), Rel x y → uL D ad adM cs s x y H locs → lv_has ls 4 [(0, .ref b), (1, .ref (ad 0)), (2, .ref (adM 0)), (3, .int (nI i))] → W p l e room_1 s m #[.ref b] below meth c H locs 133 3502 (lw_Z below #[Value.ref b] s) (F0 m 1574 ls [])) :
    ∀ (x y : St) (H : Heap) (locs : List Loc) (ls : Array Slot), Rel x y → uL D ad adM cs s x y H locs → lv_has ls 4 [(0, .ref b), (1, .ref (ad 0)), (2, .ref (adM 0)), (3, .int (nI i))] → W p l e room_1 s m #[.ref b] below meth c H locs 133 3502 (lw_Z below #[Value.ref b] s) (F0 m 574 ls []) := by
  intro x y H locs ls hR G hl
  have hx := C.1.1.1
  have hb := C.1.1.2.1
  obtain ⟨hX, hbl, hL⟩ := C.2.2.2
  have hbA : ¬ (fun q : Nat => s.heap.size ≤ q) b := Nat.not_le.mpr hbl
  obtain ⟨r, x', y', e1, e2, hR'⟩ := op_mark hR (xs (nI i + 1).toNatClampNeg) (xs (nI i + 2).toNatClampNeg)
  refine lv_aload_n hx hb dL_law_574 rfl (lv_at hl 1 rfl) ?_
  refine lv_aload_n hx hb dL_law_575 rfl (lv_at hl 0 rfl) ?_
  refine lv_iload_n hx hb dL_law_576 rfl (lv_at hl 3 rfl) ?_
  refine lv_iconst (v := 1) hx hb dL_law_577 (by decide) ?_
  refine lv_iadd hx hb dL_law_578 ?_
  refine va_sld hx hb hX hbl hbA G.2.2 (lw_in (j := 1) (by decide) (by omega) hL) dL_law_579 ?_
  refine lv_aload_n hx hb dL_law_580 rfl (lv_at hl 0 rfl) ?_
  refine lv_iload_n hx hb dL_law_581 rfl (lv_at hl 3 rfl) ?_
  refine lv_iconst (v := 2) hx hb dL_law_582 (by decide) ?_
  refine lv_iadd hx hb dL_law_583 ?_
  refine va_sld hx hb hX hbl hbA G.2.2 (lw_in (j := 2) (by decide) (by omega) hL) dL_law_584 ?_
  refine law_Xi (As := [.int (xs (nI i + 1).toNatClampNeg), .int (xs (nI i + 2).toNatClampNeg)]) (rest := []) C G (c_X9_mark l D ad cs C.1.2.2.1 x (xs (nI i + 1).toNatClampNeg) (xs (nI i + 2).toNatClampNeg) r x' e1) (cwV 2 C.1.1.2.2.2.2 gL_law_X9_mark rfl rfl rfl (by decide +kernel) ⟨Nat.le_of_ble_eq_true rfl, Nat.le_of_ble_eq_true rfl⟩) rfl hl rfl (Nat.le_of_ble_eq_true rfl) dL_law_585 (fun H locs G => ?_)
  refine lv_aload_n hx hb dL_law_588 rfl (lv_at hl 2 rfl) ?_
  refine lv_aload_n hx hb dL_law_589 rfl (lv_at hl 0 rfl) ?_
  refine lv_iload_n hx hb dL_law_590 rfl (lv_at hl 3 rfl) ?_
  refine lv_iconst (v := 1) hx hb dL_law_591 (by decide) ?_
  refine lv_iadd hx hb dL_law_592 ?_
  refine va_sld hx hb hX hbl hbA G.2.2 (lw_in (j := 1) (by decide) (by omega) hL) dL_law_593 ?_
  refine lv_aload_n hx hb dL_law_594 rfl (lv_at hl 0 rfl) ?_
  refine lv_iload_n hx hb dL_law_595 rfl (lv_at hl 3 rfl) ?_
  refine lv_iconst (v := 2) hx hb dL_law_596 (by decide) ?_
  refine lv_iadd hx hb dL_law_597 ?_
  refine va_sld hx hb hX hbl hbA G.2.2 (lw_in (j := 2) (by decide) (by omega) hL) dL_law_598 ?_
  refine law_Mi (As := [.int (xs (nI i + 1).toNatClampNeg), .int (xs (nI i + 2).toNatClampNeg)]) (rest := [.int r]) C G (c_X10_mark l D adM cs C.2.1.2.2.1 y (xs (nI i + 1).toNatClampNeg) (xs (nI i + 2).toNatClampNeg) r y' e2) (cwV 2 C.1.1.2.2.2.2 gL_law_X10_mark rfl rfl rfl (by decide +kernel) ⟨Nat.le_of_ble_eq_true rfl, Nat.le_of_ble_eq_true rfl⟩) rfl hl rfl (Nat.le_of_ble_eq_true rfl) dL_law_599 (fun H locs G => ?_)
  refine lv_icmp_eq (tgt := 1574) hx hb dL_law_602 (by decide) (fun _ => ?_) (fun q => absurd rfl q)
  exact hnext x' y' H locs ls hR' G hl
set_option maxHeartbeats 4000000 in
set_option maxRecDepth 100000 in
theorem law_c11 {p : Program} {l : Launch} {e : Env} {s : State} {m : MethodId} {below : List Frame} {meth : Method} {c : Code} {D : va_G} {ad adM : Nat → Nat} {cs : Nat → ClassId} {b L : Nat} {xs : Nat → Int32} {i : Nat} (C : lC p s m c D ad adM cs b L xs) (hi : i + 6 ≤ L) (hnext : ∀ (x y : St) (H : Heap) (locs : List Loc) (ls : Array Slot), Rel x y → uL D ad adM cs s x y H locs → lv_has ls 4 [(0, .ref b), (1, .ref (ad 0)), (2, .ref (adM 0)), (3, .int (nI i))] → W p l e room_1 s m #[.ref b] below meth c H locs 133 3502 (lw_Z below #[Value.ref b] s) (F0 m 1574 ls [])) :
    ∀ (x y : St) (H : Heap) (locs : List Loc) (ls : Array Slot), Rel x y → uL D ad adM cs s x y H locs → lv_has ls 4 [(0, .ref b), (1, .ref (ad 0)), (2, .ref (adM 0)), (3, .int (nI i))] → W p l e room_1 s m #[.ref b] below meth c H locs 133 3502 (lw_Z below #[Value.ref b] s) (F0 m 607 ls []) := by
  intro x y H locs ls hR G hl
  have hx := C.1.1.1
  have hb := C.1.1.2.1
  obtain ⟨hX, hbl, hL⟩ := C.2.2.2
  have hbA : ¬ (fun q : Nat => s.heap.size ≤ q) b := Nat.not_le.mpr hbl
  obtain ⟨r, x', y', e1, e2, hR'⟩ := op_mean hR 
  refine lv_aload_n hx hb dL_law_607 rfl (lv_at hl 1 rfl) ?_
  refine law_Xi (As := []) (rest := []) C G (c_X9_mean l D ad cs C.1.2.2.1 x r x' e1) (cwV 0 C.1.1.2.2.2.2 gL_law_X9_mean rfl rfl rfl (by decide +kernel) ⟨Nat.le_of_ble_eq_true rfl, Nat.le_of_ble_eq_true rfl⟩) rfl hl rfl (Nat.le_of_ble_eq_true rfl) dL_law_608 (fun H locs G => ?_)
  refine lv_aload_n hx hb dL_law_611 rfl (lv_at hl 2 rfl) ?_
  refine law_Mi (As := []) (rest := [.int r]) C G (c_X10_mean l D adM cs C.2.1.2.2.1 y r y' e2) (cwV 0 C.1.1.2.2.2.2 gL_law_X10_mean rfl rfl rfl (by decide +kernel) ⟨Nat.le_of_ble_eq_true rfl, Nat.le_of_ble_eq_true rfl⟩) rfl hl rfl (Nat.le_of_ble_eq_true rfl) dL_law_612 (fun H locs G => ?_)
  refine lv_icmp_eq (tgt := 1574) hx hb dL_law_615 (by decide) (fun _ => ?_) (fun q => absurd rfl q)
  exact hnext x' y' H locs ls hR' G hl
