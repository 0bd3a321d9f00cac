set_option maxHeartbeats 4000000 in
set_option maxRecDepth 100000 in
theorem law_c0 {p : Program} {l : Launch} {e : Env} {s : State} {m : MethodId} {below : List Frame} {meth : Method} {c : Code} {D : va_G} {ad adM : Nat → Nat} {cs : Nat → ClassId} {b L : Nat} {xs : Nat → Int32} {i : Nat} (C : lC p s m c D ad adM cs b L xs) (hi : i + 6 ≤ L) (hnext : ∀ (x y : St) (H : Heap) (locs : List Loc) (ls : Array Slot), Rel x y → uL D ad adM cs s x y H locs → lv_has ls 4 [(0, .ref b), (1, .ref (ad 0)), (2, .ref (adM 0)), (3, .int (nI i))] → W p l e room_1 s m #[.ref b] below meth c H locs 133 3502 (lw_Z below #[Value.ref b] s) (F0 m 1574 ls [])) :
    ∀ (x y : St) (H : Heap) (locs : List Loc) (ls : Array Slot), Rel x y → uL D ad adM cs s x y H locs → lv_has ls 4 [(0, .ref b), (1, .ref (ad 0)), (2, .ref (adM 0)), (3, .int (nI i))] → W p l e room_1 s m #[.ref b] below meth c H locs 133 3502 (lw_Z below #[Value.ref b] s) (F0 m 204 ls []) := by
  intro x y H locs ls hR G hl
  have hx := C.1.1.1
  have hb := C.1.1.2.1
  obtain ⟨hX, hbl, hL⟩ := C.2.2.2
  have hbA : ¬ (fun q : Nat => s.heap.size ≤ q) b := Nat.not_le.mpr hbl
  obtain ⟨r, x', y', e1, e2, hR'⟩ := op_letter hR (xs (nI i + 1).toNatClampNeg) (xs (nI i + 2).toNatClampNeg)
  refine lv_aload_n hx hb dL_law_204 rfl (lv_at hl 1 rfl) ?_
  refine lv_aload_n hx hb dL_law_205 rfl (lv_at hl 0 rfl) ?_
  refine lv_iload_n hx hb dL_law_206 rfl (lv_at hl 3 rfl) ?_
  refine lv_iconst (v := 1) hx hb dL_law_207 (by decide) ?_
  refine lv_iadd hx hb dL_law_208 ?_
  refine va_sld hx hb hX hbl hbA G.2.2 (lw_in (j := 1) (by decide) (by omega) hL) dL_law_209 ?_
  refine lv_aload_n hx hb dL_law_210 rfl (lv_at hl 0 rfl) ?_
  refine lv_iload_n hx hb dL_law_211 rfl (lv_at hl 3 rfl) ?_
  refine lv_iconst (v := 2) hx hb dL_law_212 (by decide) ?_
  refine lv_iadd hx hb dL_law_213 ?_
  refine va_sld hx hb hX hbl hbA G.2.2 (lw_in (j := 2) (by decide) (by omega) hL) dL_law_214 ?_
  refine law_Xi (As := [.int (xs (nI i + 1).toNatClampNeg), .int (xs (nI i + 2).toNatClampNeg)]) (rest := []) C G (c_X9_letter l D ad cs C.1.2.2.1 x (xs (nI i + 1).toNatClampNeg) (xs (nI i + 2).toNatClampNeg) r x' e1) (cwV 2 C.1.1.2.2.2.2 gL_law_X9_letter rfl rfl rfl (by decide +kernel) ⟨Nat.le_of_ble_eq_true rfl, Nat.le_of_ble_eq_true rfl⟩) rfl hl rfl (Nat.le_of_ble_eq_true rfl) dL_law_215 (fun H locs G => ?_)
  refine lv_aload_n hx hb dL_law_218 rfl (lv_at hl 2 rfl) ?_
  refine lv_aload_n hx hb dL_law_219 rfl (lv_at hl 0 rfl) ?_
  refine lv_iload_n hx hb dL_law_220 rfl (lv_at hl 3 rfl) ?_
  refine lv_iconst (v := 1) hx hb dL_law_221 (by decide) ?_
  refine lv_iadd hx hb dL_law_222 ?_
  refine va_sld hx hb hX hbl hbA G.2.2 (lw_in (j := 1) (by decide) (by omega) hL) dL_law_223 ?_
  refine lv_aload_n hx hb dL_law_224 rfl (lv_at hl 0 rfl) ?_
  refine lv_iload_n hx hb dL_law_225 rfl (lv_at hl 3 rfl) ?_
  refine lv_iconst (v := 2) hx hb dL_law_226 (by decide) ?_
  refine lv_iadd hx hb dL_law_227 ?_
  refine va_sld hx hb hX hbl hbA G.2.2 (lw_in (j := 2) (by decide) (by omega) hL) dL_law_228 ?_
  refine law_Mi (As := [.int (xs (nI i + 1).toNatClampNeg), .int (xs (nI i + 2).toNatClampNeg)]) (rest := [.int r]) C G (c_X10_letter l D adM cs C.2.1.2.2.1 y (xs (nI i + 1).toNatClampNeg) (xs (nI i + 2).toNatClampNeg) r y' e2) (cwV 2 C.1.1.2.2.2.2 gL_law_X10_letter rfl rfl rfl (by decide +kernel) ⟨Nat.le_of_ble_eq_true rfl, Nat.le_of_ble_eq_true rfl⟩) rfl hl rfl (Nat.le_of_ble_eq_true rfl) dL_law_229 (fun H locs G => ?_)
  refine lv_icmp_eq (tgt := 1574) hx hb dL_law_232 (by decide) (fun _ => ?_) (fun q => absurd rfl q)
  exact hnext x' y' H locs ls hR' G hl
set_option maxHeartbeats 4000000 in
set_option maxRecDepth 100000 in
theorem law_c1 {p : Program} {l : Launch} {e : Env} {s : State} {m : MethodId} {below : List Frame} {meth : Method} {c : Code} {D : va_G} {ad adM : Nat → Nat} {cs : Nat → ClassId} {b L : Nat} {xs : Nat → Int32} {i : Nat} (C : lC p s m c D ad adM cs b L xs) (hi : i + 6 ≤ L) (hnext : ∀ (x y : St) (H : Heap) (locs : List Loc) (ls : Array Slot), Rel x y → uL D ad adM cs s x y H locs → lv_has ls 4 [(0, .ref b), (1, .ref (ad 0)), (2, .ref (adM 0)), (3, .int (nI i))] → W p l e room_1 s m #[.ref b] below meth c H locs 133 3502 (lw_Z below #[Value.ref b] s) (F0 m 1574 ls [])) :
    ∀ (x y : St) (H : Heap) (locs : List Loc) (ls : Array Slot), Rel x y → uL D ad adM cs s x y H locs → lv_has ls 4 [(0, .ref b), (1, .ref (ad 0)), (2, .ref (adM 0)), (3, .int (nI i))] → W p l e room_1 s m #[.ref b] below meth c H locs 133 3502 (lw_Z below #[Value.ref b] s) (F0 m 237 ls []) := by
  intro x y H locs ls hR G hl
  have hx := C.1.1.1
  have hb := C.1.1.2.1
  obtain ⟨hX, hbl, hL⟩ := C.2.2.2
  have hbA : ¬ (fun q : Nat => s.heap.size ≤ q) b := Nat.not_le.mpr hbl
  obtain ⟨r, x', y', e1, e2, hR'⟩ := op_sheet hR (xs (nI i + 1).toNatClampNeg) (xs (nI i + 2).toNatClampNeg)
  refine lv_aload_n hx hb dL_law_237 rfl (lv_at hl 1 rfl) ?_
  refine lv_aload_n hx hb dL_law_238 rfl (lv_at hl 0 rfl) ?_
  refine lv_iload_n hx hb dL_law_239 rfl (lv_at hl 3 rfl) ?_
  refine lv_iconst (v := 1) hx hb dL_law_240 (by decide) ?_
  refine lv_iadd hx hb dL_law_241 ?_
  refine va_sld hx hb hX hbl hbA G.2.2 (lw_in (j := 1) (by decide) (by omega) hL) dL_law_242 ?_
  refine lv_aload_n hx hb dL_law_243 rfl (lv_at hl 0 rfl) ?_
  refine lv_iload_n hx hb dL_law_244 rfl (lv_at hl 3 rfl) ?_
  refine lv_iconst (v := 2) hx hb dL_law_245 (by decide) ?_
  refine lv_iadd hx hb dL_law_246 ?_
  refine va_sld hx hb hX hbl hbA G.2.2 (lw_in (j := 2) (by decide) (by omega) hL) dL_law_247 ?_
  refine law_Xi (As := [.int (xs (nI i + 1).toNatClampNeg), .int (xs (nI i + 2).toNatClampNeg)]) (rest := []) C G (c_X9_sheet l D ad cs C.1.2.2.1 x (xs (nI i + 1).toNatClampNeg) (xs (nI i + 2).toNatClampNeg) r x' e1) (cwV 2 C.1.1.2.2.2.2 gL_law_X9_sheet rfl rfl rfl (by decide +kernel) ⟨Nat.le_of_ble_eq_true rfl, Nat.le_of_ble_eq_true rfl⟩) rfl hl rfl (Nat.le_of_ble_eq_true rfl) dL_law_248 (fun H locs G => ?_)
  refine lv_aload_n hx hb dL_law_251 rfl (lv_at hl 2 rfl) ?_
  refine lv_aload_n hx hb dL_law_252 rfl (lv_at hl 0 rfl) ?_
  refine lv_iload_n hx hb dL_law_253 rfl (lv_at hl 3 rfl) ?_
  refine lv_iconst (v := 1) hx hb dL_law_254 (by decide) ?_
  refine lv_iadd hx hb dL_law_255 ?_
  refine va_sld hx hb hX hbl hbA G.2.2 (lw_in (j := 1) (by decide) (by omega) hL) dL_law_256 ?_
  refine lv_aload_n hx hb dL_law_257 rfl (lv_at hl 0 rfl) ?_
  refine lv_iload_n hx hb dL_law_258 rfl (lv_at hl 3 rfl) ?_
  refine lv_iconst (v := 2) hx hb dL_law_259 (by decide) ?_
  refine lv_iadd hx hb dL_law_260 ?_
  refine va_sld hx hb hX hbl hbA G.2.2 (lw_in (j := 2) (by decide) (by omega) hL) dL_law_261 ?_
  refine law_Mi (As := [.int (xs (nI i + 1).toNatClampNeg), .int (xs (nI i + 2).toNatClampNeg)]) (rest := [.int r]) C G (c_X10_sheet l D adM cs C.2.1.2.2.1 y (xs (nI i + 1).toNatClampNeg) (xs (nI i + 2).toNatClampNeg) r y' e2) (cwV 2 C.1.1.2.2.2.2 gL_law_X10_sheet rfl rfl rfl (by decide +kernel) ⟨Nat.le_of_ble_eq_true rfl, Nat.le_of_ble_eq_true rfl⟩) rfl hl rfl (Nat.le_of_ble_eq_true rfl) dL_law_262 (fun H locs G => ?_)
  refine lv_icmp_eq (tgt := 1574) hx hb dL_law_265 (by decide) (fun _ => ?_) (fun q => absurd rfl q)
  exact hnext x' y' H locs ls hR' G hl
set_option maxHeartbeats 4000000 in
set_option maxRecDepth 100000 in
theorem law_c2 {p : Program} {l : Launch} {e : Env} {s : State} {m : MethodId} {below : List Frame} {meth : Method} {c : Code} {D : va_G} {ad adM : Nat → Nat} {cs : Nat → ClassId} {b L : Nat} {xs : Nat → Int32} {i : Nat} (C : lC p s m c D ad adM cs b L xs) (hi : i + 6 ≤ L) (hnext : ∀ (x y : St) (H : Heap) (locs : List Loc) (ls : Array Slot), Rel x y → uL D ad adM cs s x y H locs → lv_has ls 4 [(0, .ref b), (1, .ref (ad 0)), (2, .ref (adM 0)), (3, .int (nI i))] → W p l e room_1 s m #[.ref b] below meth c H locs 133 3502 (lw_Z below #[Value.ref b] s) (F0 m 1574 ls [])) :
    ∀ (x y : St) (H : Heap) (locs : List Loc) (ls : Array Slot), Rel x y → uL D ad adM cs s x y H locs → lv_has ls 4 [(0, .ref b), (1, .ref (ad 0)), (2, .ref (adM 0)), (3, .int (nI i))] → W p l e room_1 s m #[.ref b] below meth c H locs 133 3502 (lw_Z below #[Value.ref b] s) (F0 m 270 ls []) := by
  intro x y H locs ls hR G hl
  have hx := C.1.1.1
  have hb := C.1.1.2.1
  obtain ⟨hX, hbl, hL⟩ := C.2.2.2
  have hbA : ¬ (fun q : Nat => s.heap.size ≤ q) b := Nat.not_le.mpr hbl
  obtain ⟨r, x', y', e1, e2, hR'⟩ := op_lay hR (xs (nI i + 1).toNatClampNeg) (xs (nI i + 2).toNatClampNeg) (xs (nI i + 3).toNatClampNeg)
  refine lv_aload_n hx hb dL_law_270 rfl (lv_at hl 1 rfl) ?_
  refine lv_aload_n hx hb dL_law_271 rfl (lv_at hl 0 rfl) ?_
  refine lv_iload_n hx hb dL_law_272 rfl (lv_at hl 3 rfl) ?_
  refine lv_iconst (v := 1) hx hb dL_law_273 (by decide) ?_
  refine lv_iadd hx hb dL_law_274 ?_
  refine va_sld hx hb hX hbl hbA G.2.2 (lw_in (j := 1) (by decide) (by omega) hL) dL_law_275 ?_
  refine lv_aload_n hx hb dL_law_276 rfl (lv_at hl 0 rfl) ?_
  refine lv_iload_n hx hb dL_law_277 rfl (lv_at hl 3 rfl) ?_
  refine lv_iconst (v := 2) hx hb dL_law_278 (by decide) ?_
  refine lv_iadd hx hb dL_law_279 ?_
  refine va_sld hx hb hX hbl hbA G.2.2 (lw_in (j := 2) (by decide) (by omega) hL) dL_law_280 ?_
  refine lv_aload_n hx hb dL_law_281 rfl (lv_at hl 0 rfl) ?_
  refine lv_iload_n hx hb dL_law_282 rfl (lv_at hl 3 rfl) ?_
  refine lv_iconst (v := 3) hx hb dL_law_283 (by decide) ?_
  refine lv_iadd hx hb dL_law_284 ?_
  refine va_sld hx hb hX hbl hbA G.2.2 (lw_in (j := 3) (by decide) (by omega) hL) dL_law_285 ?_
  refine law_Xi (As := [.int (xs (nI i + 1).toNatClampNeg), .int (xs (nI i + 2).toNatClampNeg), .int (xs (nI i + 3).toNatClampNeg)]) (rest := []) C G (c_X9_lay l D ad cs C.1.2.2.1 x (xs (nI i + 1).toNatClampNeg) (xs (nI i + 2).toNatClampNeg) (xs (nI i + 3).toNatClampNeg) r x' e1) (cwV 3 C.1.1.2.2.2.2 gL_law_X9_lay rfl rfl rfl (by decide +kernel) ⟨Nat.le_of_ble_eq_true rfl, Nat.le_of_ble_eq_true rfl⟩) rfl hl rfl (Nat.le_of_ble_eq_true rfl) dL_law_286 (fun H locs G => ?_)
  refine lv_aload_n hx hb dL_law_289 rfl (lv_at hl 2 rfl) ?_
  refine lv_aload_n hx hb dL_law_290 rfl (lv_at hl 0 rfl) ?_
  refine lv_iload_n hx hb dL_law_291 rfl (lv_at hl 3 rfl) ?_
  refine lv_iconst (v := 1) hx hb dL_law_292 (by decide) ?_
  refine lv_iadd hx hb dL_law_293 ?_
  refine va_sld hx hb hX hbl hbA G.2.2 (lw_in (j := 1) (by decide) (by omega) hL) dL_law_294 ?_
  refine lv_aload_n hx hb dL_law_295 rfl (lv_at hl 0 rfl) ?_
  refine lv_iload_n hx hb dL_law_296 rfl (lv_at hl 3 rfl) ?_
  refine lv_iconst (v := 2) hx hb dL_law_297 (by decide) ?_
  refine lv_iadd hx hb dL_law_298 ?_
  refine va_sld hx hb hX hbl hbA G.2.2 (lw_in (j := 2) (by decide) (by omega) hL) dL_law_299 ?_
  refine lv_aload_n hx hb dL_law_300 rfl (lv_at hl 0 rfl) ?_
  refine lv_iload_n hx hb dL_law_301 rfl (lv_at hl 3 rfl) ?_
  refine lv_iconst (v := 3) hx hb dL_law_302 (by decide) ?_
  refine lv_iadd hx hb dL_law_303 ?_
  refine va_sld hx hb hX hbl hbA G.2.2 (lw_in (j := 3) (by decide) (by omega) hL) dL_law_304 ?_
  refine law_Mi (As := [.int (xs (nI i + 1).toNatClampNeg), .int (xs (nI i + 2).toNatClampNeg), .int (xs (nI i + 3).toNatClampNeg)]) (rest := [.int r]) C G (c_X10_lay l D adM cs C.2.1.2.2.1 y (xs (nI i + 1).toNatClampNeg) (xs (nI i + 2).toNatClampNeg) (xs (nI i + 3).toNatClampNeg) r y' e2) (cwV 3 C.1.1.2.2.2.2 gL_law_X10_lay rfl rfl rfl (by decide +kernel) ⟨Nat.le_of_ble_eq_true rfl, Nat.le_of_ble_eq_true rfl⟩) rfl hl rfl (Nat.le_of_ble_eq_true rfl) dL_law_305 (fun H locs G => ?_)
  refine lv_icmp_eq (tgt := 1574) hx hb dL_law_308 (by decide) (fun _ => ?_) (fun q => absurd rfl q)
  exact hnext x' y' H locs ls hR' G hl
set_option maxHeartbeats 4000000 in
set_option maxRecDepth 100000 in
theorem law_c3 {p : Program} {l : Launch} {e : Env} {s : State} {m : MethodId} {below : List Frame} {meth : Method} {c : Code} {D : va_G} {ad adM : Nat → Nat} {cs : Nat → ClassId} {b L : Nat} {xs : Nat → Int32} {i : Nat} (C : lC p s m c D ad adM cs b L xs) (hi : i + 6 ≤ L) (hnext : ∀ (x y : St) (H : Heap) (locs : List Loc) (ls : Array Slot), Rel x y → uL D ad adM cs s x y H locs → lv_has ls 4 [(0, .ref b), (1, .ref (ad 0)), (2, .ref (adM 0)), (3, .int (nI i))] → W p l e room_1 s m #[.ref b] below meth c H locs 133 3502 (lw_Z below #[Value.ref b] s) (F0 m 1574 ls [])) :
    ∀ (x y : St) (H : Heap) (locs : List Loc) (ls : Array Slot), Rel x y → uL D ad adM cs s x y H locs → lv_has ls 4 [(0, .ref b), (1, .ref (ad 0)), (2, .ref (adM 0)), (3, .int (nI i))] → W p l e room_1 s m #[.ref b] below meth c H locs 133 3502 (lw_Z below #[Value.ref b] s) (F0 m 313 ls []) := by
  intro x y H locs ls hR G hl
  have hx := C.1.1.1
  have hb := C.1.1.2.1
  obtain ⟨hX, hbl, hL⟩ := C.2.2.2
  have hbA : ¬ (fun q : Nat => s.heap.size ≤ q) b := Nat.not_le.mpr hbl
  obtain ⟨r, x', y', e1, e2, hR'⟩ := op_tear hR (xs (nI i + 1).toNatClampNeg)
  refine lv_aload_n hx hb dL_law_313 rfl (lv_at hl 1 rfl) ?_
  refine lv_aload_n hx hb dL_law_314 rfl (lv_at hl 0 rfl) ?_
  refine lv_iload_n hx hb dL_law_315 rfl (lv_at hl 3 rfl) ?_
  refine lv_iconst (v := 1) hx hb dL_law_316 (by decide) ?_
  refine lv_iadd hx hb dL_law_317 ?_
  refine va_sld hx hb hX hbl hbA G.2.2 (lw_in (j := 1) (by decide) (by omega) hL) dL_law_318 ?_
  refine law_Xi (As := [.int (xs (nI i + 1).toNatClampNeg)]) (rest := []) C G (c_X9_tear l D ad cs C.1.2.2.1 x (xs (nI i + 1).toNatClampNeg) r x' e1) (cwV 1 C.1.1.2.2.2.2 gL_law_X9_tear rfl rfl rfl (by decide +kernel) ⟨Nat.le_of_ble_eq_true rfl, Nat.le_of_ble_eq_true rfl⟩) rfl hl rfl (Nat.le_of_ble_eq_true rfl) dL_law_319 (fun H locs G => ?_)
  refine lv_aload_n hx hb dL_law_322 rfl (lv_at hl 2 rfl) ?_
  refine lv_aload_n hx hb dL_law_323 rfl (lv_at hl 0 rfl) ?_
  refine lv_iload_n hx hb dL_law_324 rfl (lv_at hl 3 rfl) ?_
  refine lv_iconst (v := 1) hx hb dL_law_325 (by decide) ?_
  refine lv_iadd hx hb dL_law_326 ?_
  refine va_sld hx hb hX hbl hbA G.2.2 (lw_in (j := 1) (by decide) (by omega) hL) dL_law_327 ?_
  refine law_Mi (As := [.int (xs (nI i + 1).toNatClampNeg)]) (rest := [.int r]) C G (c_X10_tear l D adM cs C.2.1.2.2.1 y (xs (nI i + 1).toNatClampNeg) r y' e2) (cwV 1 C.1.1.2.2.2.2 gL_law_X10_tear rfl rfl rfl (by decide +kernel) ⟨Nat.le_of_ble_eq_true rfl, Nat.le_of_ble_eq_true rfl⟩) rfl hl rfl (Nat.le_of_ble_eq_true rfl) dL_law_328 (fun H locs G => ?_)
  refine lv_icmp_eq (tgt := 1574) hx hb dL_law_331 (by decide) (fun _ => ?_) (fun q => absurd rfl q)
  exact hnext x' y' H locs ls hR' G hl
set_option maxHeartbeats 4000000 in
set_option maxRecDepth 100000 in
theorem law_c4 {p : Program} {l : Launch} {e : Env} {s : State} {m : MethodId} {below : List Frame} {meth : Method} {c : Code} {D : va_G} {ad adM : Nat → Nat} {cs : Nat → ClassId} {b L : Nat} {xs : Nat → Int32} {i : Nat} (C : lC p s m c D ad adM cs b L xs) (hi : i + 6 ≤ L) (hnext : ∀ (x y : St) (H : Heap) (locs : List Loc) (ls : Array Slot), Rel x y → uL D ad adM cs s x y H locs → lv_has ls 4 [(0, .ref b), (1, .ref (ad 0)), (2, .ref (adM 0)), (3, .int (nI i))] → W p l e room_1 s m #[.ref b] below meth c H locs 133 3502 (lw_Z below #[Value.ref b] s) (F0 m 1574 ls [])) :
    ∀ (x y : St) (H : Heap) (locs : List Loc) (ls : Array Slot), Rel x y → uL D ad adM cs s x y H locs → lv_has ls 4 [(0, .ref b), (1, .ref (ad 0)), (2, .ref (adM 0)), (3, .int (nI i))] → W p l e room_1 s m #[.ref b] below meth c H locs 133 3502 (lw_Z below #[Value.ref b] s) (F0 m 336 ls []) := by
  intro x y H locs ls hR G hl
  have hx := C.1.1.1
  have hb := C.1.1.2.1
  obtain ⟨hX, hbl, hL⟩ := C.2.2.2
  have hbA : ¬ (fun q : Nat => s.heap.size ≤ q) b := Nat.not_le.mpr hbl
  obtain ⟨r, x', y', e1, e2, hR'⟩ := op_copy hR (xs (nI i + 1).toNatClampNeg) (xs (nI i + 2).toNatClampNeg) (xs (nI i + 3).toNatClampNeg) (xs (nI i + 4).toNatClampNeg) (xs (nI i + 5).toNatClampNeg)
  refine lv_aload_n hx hb dL_law_336 rfl (lv_at hl 1 rfl) ?_
  refine lv_aload_n hx hb dL_law_337 rfl (lv_at hl 0 rfl) ?_
  refine lv_iload_n hx hb dL_law_338 rfl (lv_at hl 3 rfl) ?_
  refine lv_iconst (v := 1) hx hb dL_law_339 (by decide) ?_
  refine lv_iadd hx hb dL_law_340 ?_
  refine va_sld hx hb hX hbl hbA G.2.2 (lw_in (j := 1) (by decide) (by omega) hL) dL_law_341 ?_
  refine lv_aload_n hx hb dL_law_342 rfl (lv_at hl 0 rfl) ?_
  refine lv_iload_n hx hb dL_law_343 rfl (lv_at hl 3 rfl) ?_
  refine lv_iconst (v := 2) hx hb dL_law_344 (by decide) ?_
  refine lv_iadd hx hb dL_law_345 ?_
  refine va_sld hx hb hX hbl hbA G.2.2 (lw_in (j := 2) (by decide) (by omega) hL) dL_law_346 ?_
  refine lv_aload_n hx hb dL_law_347 rfl (lv_at hl 0 rfl) ?_
  refine lv_iload_n hx hb dL_law_348 rfl (lv_at hl 3 rfl) ?_
  refine lv_iconst (v := 3) hx hb dL_law_349 (by decide) ?_
  refine lv_iadd hx hb dL_law_350 ?_
  refine va_sld hx hb hX hbl hbA G.2.2 (lw_in (j := 3) (by decide) (by omega) hL) dL_law_351 ?_
  refine lv_aload_n hx hb dL_law_352 rfl (lv_at hl 0 rfl) ?_
  refine lv_iload_n hx hb dL_law_353 rfl (lv_at hl 3 rfl) ?_
  refine lv_iconst (v := 4) hx hb dL_law_354 (by decide) ?_
  refine lv_iadd hx hb dL_law_355 ?_
  refine va_sld hx hb hX hbl hbA G.2.2 (lw_in (j := 4) (by decide) (by omega) hL) dL_law_356 ?_
  refine lv_aload_n hx hb dL_law_357 rfl (lv_at hl 0 rfl) ?_
  refine lv_iload_n hx hb dL_law_358 rfl (lv_at hl 3 rfl) ?_
  refine lv_iconst (v := 5) hx hb dL_law_359 (by decide) ?_
  refine lv_iadd hx hb dL_law_360 ?_
  refine va_sld hx hb hX hbl hbA G.2.2 (lw_in (j := 5) (by decide) (by omega) hL) dL_law_361 ?_
  refine law_Xi (As := [.int (xs (nI i + 1).toNatClampNeg), .int (xs (nI i + 2).toNatClampNeg), .int (xs (nI i + 3).toNatClampNeg), .int (xs (nI i + 4).toNatClampNeg), .int (xs (nI i + 5).toNatClampNeg)]) (rest := []) C G (c_X9_copy l D ad cs C.1.2.2.1 x (xs (nI i + 1).toNatClampNeg) (xs (nI i + 2).toNatClampNeg) (xs (nI i + 3).toNatClampNeg) (xs (nI i + 4).toNatClampNeg) (xs (nI i + 5).toNatClampNeg) r x' e1) (cwV 5 C.1.1.2.2.2.2 gL_law_X9_copy rfl rfl rfl (by decide +kernel) ⟨Nat.le_of_ble_eq_true rfl, Nat.le_of_ble_eq_true rfl⟩) rfl hl rfl (Nat.le_of_ble_eq_true rfl) dL_law_362 (fun H locs G => ?_)
  refine lv_aload_n hx hb dL_law_365 rfl (lv_at hl 2 rfl) ?_
  refine lv_aload_n hx hb dL_law_366 rfl (lv_at hl 0 rfl) ?_
  refine lv_iload_n hx hb dL_law_367 rfl (lv_at hl 3 rfl) ?_
  refine lv_iconst (v := 1) hx hb dL_law_368 (by decide) ?_
  refine lv_iadd hx hb dL_law_369 ?_
  refine va_sld hx hb hX hbl hbA G.2.2 (lw_in (j := 1) (by decide) (by omega) hL) dL_law_370 ?_
  refine lv_aload_n hx hb dL_law_371 rfl (lv_at hl 0 rfl) ?_
  refine lv_iload_n hx hb dL_law_372 rfl (lv_at hl 3 rfl) ?_
  refine lv_iconst (v := 2) hx hb dL_law_373 (by decide) ?_
  refine lv_iadd hx hb dL_law_374 ?_
  refine va_sld hx hb hX hbl hbA G.2.2 (lw_in (j := 2) (by decide) (by omega) hL) dL_law_375 ?_
  refine lv_aload_n hx hb dL_law_376 rfl (lv_at hl 0 rfl) ?_
  refine lv_iload_n hx hb dL_law_377 rfl (lv_at hl 3 rfl) ?_
  refine lv_iconst (v := 3) hx hb dL_law_378 (by decide) ?_
  refine lv_iadd hx hb dL_law_379 ?_
  refine va_sld hx hb hX hbl hbA G.2.2 (lw_in (j := 3) (by decide) (by omega) hL) dL_law_380 ?_
  refine lv_aload_n hx hb dL_law_381 rfl (lv_at hl 0 rfl) ?_
  refine lv_iload_n hx hb dL_law_382 rfl (lv_at hl 3 rfl) ?_
  refine lv_iconst (v := 4) hx hb dL_law_383 (by decide) ?_
  refine lv_iadd hx hb dL_law_384 ?_
  refine va_sld hx hb hX hbl hbA G.2.2 (lw_in (j := 4) (by decide) (by omega) hL) dL_law_385 ?_
  refine lv_aload_n hx hb dL_law_386 rfl (lv_at hl 0 rfl) ?_
  refine lv_iload_n hx hb dL_law_387 rfl (lv_at hl 3 rfl) ?_
  refine lv_iconst (v := 5) hx hb dL_law_388 (by decide) ?_
  refine lv_iadd hx hb dL_law_389 ?_
  refine va_sld hx hb hX hbl hbA G.2.2 (lw_in (j := 5) (by decide) (by omega) hL) dL_law_390 ?_
  refine law_Mi (As := [.int (xs (nI i + 1).toNatClampNeg), .int (xs (nI i + 2).toNatClampNeg), .int (xs (nI i + 3).toNatClampNeg), .int (xs (nI i + 4).toNatClampNeg), .int (xs (nI i + 5).toNatClampNeg)]) (rest := [.int r]) C G (c_X10_copy l D adM cs C.2.1.2.2.1 y (xs (nI i + 1).toNatClampNeg) (xs (nI i + 2).toNatClampNeg) (xs (nI i + 3).toNatClampNeg) (xs (nI i + 4).toNatClampNeg) (xs (nI i + 5).toNatClampNeg) r y' e2) (cwV 5 C.1.1.2.2.2.2 gL_law_X10_copy rfl rfl rfl (by decide +kernel) ⟨Nat.le_of_ble_eq_true rfl, Nat.le_of_ble_eq_true rfl⟩) rfl hl rfl (Nat.le_of_ble_eq_true rfl) dL_law_391 (fun H locs G => ?_)
  refine lv_icmp_eq (tgt := 1574) hx hb dL_law_394 (by decide) (fun _ => ?_) (fun q => absurd rfl q)
  exact hnext x' y' H locs ls hR' G hl
