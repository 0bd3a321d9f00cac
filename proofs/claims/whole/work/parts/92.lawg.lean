set_option maxHeartbeats 4000000 in
set_option maxRecDepth 100000 in
theorem law_c27 {p : Program} {l : Launch} {e : Env} {s : State} {m : MethodId} {below : List Frame} {meth : Method} {c : Code} {D : va_G} {ad adM : Nat → Nat} {cs : Nat → ClassId} {b L : Nat} {xs : Nat → Int32} {i : Nat} (C : lC p s m c D ad adM cs b L xs) (hi : i + 6 ≤ L) (hnext : ∀ (x y : St) (H : Heap) (locs : List Loc) (ls : Array Slot), Rel x y → uL D ad adM cs s x y H locs → lv_has ls 4 [(0, .ref b), (1, .ref (ad 0)), (2, .ref (adM 0)), (3, .int (nI i))] → W p l e room_1 s m #[.ref b] below meth c H locs 133 3502 (lw_Z below #[Value.ref b] s) (F0 m 1574 ls [])) :
    ∀ (x y : St) (H : Heap) (locs : List Loc) (ls : Array Slot), Rel x y → uL D ad adM cs s x y H locs → lv_has ls 4 [(0, .ref b), (1, .ref (ad 0)), (2, .ref (adM 0)), (3, .int (nI i))] → W p l e room_1 s m #[.ref b] below meth c H locs 133 3502 (lw_Z below #[Value.ref b] s) (F0 m 1221 ls []) := by
  intro x y H locs ls hR G hl
  have hx := C.1.1.1
  have hb := C.1.1.2.1
  obtain ⟨hX, hbl, hL⟩ := C.2.2.2
  have hbA : ¬ (fun q : Nat => s.heap.size ≤ q) b := Nat.not_le.mpr hbl
  obtain ⟨r, x', y', e1, e2, hR'⟩ := op_light hR (xs (nI i + 1).toNatClampNeg) (xs (nI i + 2).toNatClampNeg) (xs (nI i + 3).toNatClampNeg) (xs (nI i + 4).toNatClampNeg)
  refine lv_aload_n hx hb dL_law_1221 rfl (lv_at hl 1 rfl) ?_
  refine lv_aload_n hx hb dL_law_1222 rfl (lv_at hl 0 rfl) ?_
  refine lv_iload_n hx hb dL_law_1223 rfl (lv_at hl 3 rfl) ?_
  refine lv_iconst (v := 1) hx hb dL_law_1224 (by decide) ?_
  refine lv_iadd hx hb dL_law_1225 ?_
  refine va_sld hx hb hX hbl hbA G.2.2 (lw_in (j := 1) (by decide) (by omega) hL) dL_law_1226 ?_
  refine lv_aload_n hx hb dL_law_1227 rfl (lv_at hl 0 rfl) ?_
  refine lv_iload_n hx hb dL_law_1228 rfl (lv_at hl 3 rfl) ?_
  refine lv_iconst (v := 2) hx hb dL_law_1229 (by decide) ?_
  refine lv_iadd hx hb dL_law_1230 ?_
  refine va_sld hx hb hX hbl hbA G.2.2 (lw_in (j := 2) (by decide) (by omega) hL) dL_law_1231 ?_
  refine lv_aload_n hx hb dL_law_1232 rfl (lv_at hl 0 rfl) ?_
  refine lv_iload_n hx hb dL_law_1233 rfl (lv_at hl 3 rfl) ?_
  refine lv_iconst (v := 3) hx hb dL_law_1234 (by decide) ?_
  refine lv_iadd hx hb dL_law_1235 ?_
  refine va_sld hx hb hX hbl hbA G.2.2 (lw_in (j := 3) (by decide) (by omega) hL) dL_law_1236 ?_
  refine lv_aload_n hx hb dL_law_1237 rfl (lv_at hl 0 rfl) ?_
  refine lv_iload_n hx hb dL_law_1238 rfl (lv_at hl 3 rfl) ?_
  refine lv_iconst (v := 4) hx hb dL_law_1239 (by decide) ?_
  refine lv_iadd hx hb dL_law_1240 ?_
  refine va_sld hx hb hX hbl hbA G.2.2 (lw_in (j := 4) (by decide) (by omega) hL) dL_law_1241 ?_
  refine law_Xi (As := [.int (xs (nI i + 1).toNatClampNeg), .int (xs (nI i + 2).toNatClampNeg), .int (xs (nI i + 3).toNatClampNeg), .int (xs (nI i + 4).toNatClampNeg)]) (rest := []) C G (c_X9_light l D ad cs C.1.2.2.1 x (xs (nI i + 1).toNatClampNeg) (xs (nI i + 2).toNatClampNeg) (xs (nI i + 3).toNatClampNeg) (xs (nI i + 4).toNatClampNeg) r x' e1) (cwV 4 C.1.1.2.2.2.2 gL_law_X9_light rfl rfl rfl (by decide +kernel) ⟨Nat.le_of_ble_eq_true rfl, Nat.le_of_ble_eq_true rfl⟩) rfl hl rfl (Nat.le_of_ble_eq_true rfl) dL_law_1242 (fun H locs G => ?_)
  refine lv_aload_n hx hb dL_law_1245 rfl (lv_at hl 2 rfl) ?_
  refine lv_aload_n hx hb dL_law_1246 rfl (lv_at hl 0 rfl) ?_
  refine lv_iload_n hx hb dL_law_1247 rfl (lv_at hl 3 rfl) ?_
  refine lv_iconst (v := 1) hx hb dL_law_1248 (by decide) ?_
  refine lv_iadd hx hb dL_law_1249 ?_
  refine va_sld hx hb hX hbl hbA G.2.2 (lw_in (j := 1) (by decide) (by omega) hL) dL_law_1250 ?_
  refine lv_aload_n hx hb dL_law_1251 rfl (lv_at hl 0 rfl) ?_
  refine lv_iload_n hx hb dL_law_1252 rfl (lv_at hl 3 rfl) ?_
  refine lv_iconst (v := 2) hx hb dL_law_1253 (by decide) ?_
  refine lv_iadd hx hb dL_law_1254 ?_
  refine va_sld hx hb hX hbl hbA G.2.2 (lw_in (j := 2) (by decide) (by omega) hL) dL_law_1255 ?_
  refine lv_aload_n hx hb dL_law_1256 rfl (lv_at hl 0 rfl) ?_
  refine lv_iload_n hx hb dL_law_1257 rfl (lv_at hl 3 rfl) ?_
  refine lv_iconst (v := 3) hx hb dL_law_1258 (by decide) ?_
  refine lv_iadd hx hb dL_law_1259 ?_
  refine va_sld hx hb hX hbl hbA G.2.2 (lw_in (j := 3) (by decide) (by omega) hL) dL_law_1260 ?_
  refine lv_aload_n hx hb dL_law_1261 rfl (lv_at hl 0 rfl) ?_
  refine lv_iload_n hx hb dL_law_1262 rfl (lv_at hl 3 rfl) ?_
  refine lv_iconst (v := 4) hx hb dL_law_1263 (by decide) ?_
  refine lv_iadd hx hb dL_law_1264 ?_
  refine va_sld hx hb hX hbl hbA G.2.2 (lw_in (j := 4) (by decide) (by omega) hL) dL_law_1265 ?_
  refine law_Mi (As := [.int (xs (nI i + 1).toNatClampNeg), .int (xs (nI i + 2).toNatClampNeg), .int (xs (nI i + 3).toNatClampNeg), .int (xs (nI i + 4).toNatClampNeg)]) (rest := [.int r]) C G (c_X10_light l D adM cs C.2.1.2.2.1 y (xs (nI i + 1).toNatClampNeg) (xs (nI i + 2).toNatClampNeg) (xs (nI i + 3).toNatClampNeg) (xs (nI i + 4).toNatClampNeg) r y' e2) (cwV 4 C.1.1.2.2.2.2 gL_law_X10_light rfl rfl rfl (by decide +kernel) ⟨Nat.le_of_ble_eq_true rfl, Nat.le_of_ble_eq_true rfl⟩) rfl hl rfl (Nat.le_of_ble_eq_true rfl) dL_law_1266 (fun H locs G => ?_)
  refine lv_icmp_eq (tgt := 1574) hx hb dL_law_1269 (by decide) (fun _ => ?_) (fun q => absurd rfl q)
  exact hnext x' y' H locs ls hR' G hl
set_option maxHeartbeats 4000000 in
set_option maxRecDepth 100000 in
theorem law_c28 {p : Program} {l : Launch} {e : Env} {s : State} {m : MethodId} {below : List Frame} {meth : Method} {c : Code} {D : va_G} {ad adM : Nat → Nat} {cs : Nat → ClassId} {b L : Nat} {xs : Nat → Int32} {i : Nat} (C : lC p s m c D ad adM cs b L xs) (hi : i + 6 ≤ L) (hnext : ∀ (x y : St) (H : Heap) (locs : List Loc) (ls : Array Slot), Rel x y → uL D ad adM cs s x y H locs → lv_has ls 4 [(0, .ref b), (1, .ref (ad 0)), (2, .ref (adM 0)), (3, .int (nI i))] → W p l e room_1 s m #[.ref b] below meth c H locs 133 3502 (lw_Z below #[Value.ref b] s) (F0 m 1574 ls [])) :
    ∀ (x y : St) (H : Heap) (locs : List Loc) (ls : Array Slot), Rel x y → uL D ad adM cs s x y H locs → lv_has ls 4 [(0, .ref b), (1, .ref (ad 0)), (2, .ref (adM 0)), (3, .int (nI i))] → W p l e room_1 s m #[.ref b] below meth c H locs 133 3502 (lw_Z below #[Value.ref b] s) (F0 m 1274 ls []) := by
  intro x y H locs ls hR G hl
  have hx := C.1.1.1
  have hb := C.1.1.2.1
  obtain ⟨hX, hbl, hL⟩ := C.2.2.2
  have hbA : ¬ (fun q : Nat => s.heap.size ≤ q) b := Nat.not_le.mpr hbl
  obtain ⟨r, x', y', e1, e2, hR'⟩ := op_gain hR (xs (nI i + 1).toNatClampNeg) (xs (nI i + 2).toNatClampNeg) (xs (nI i + 3).toNatClampNeg)
  refine lv_aload_n hx hb dL_law_1274 rfl (lv_at hl 1 rfl) ?_
  refine lv_aload_n hx hb dL_law_1275 rfl (lv_at hl 0 rfl) ?_
  refine lv_iload_n hx hb dL_law_1276 rfl (lv_at hl 3 rfl) ?_
  refine lv_iconst (v := 1) hx hb dL_law_1277 (by decide) ?_
  refine lv_iadd hx hb dL_law_1278 ?_
  refine va_sld hx hb hX hbl hbA G.2.2 (lw_in (j := 1) (by decide) (by omega) hL) dL_law_1279 ?_
  refine lv_aload_n hx hb dL_law_1280 rfl (lv_at hl 0 rfl) ?_
  refine lv_iload_n hx hb dL_law_1281 rfl (lv_at hl 3 rfl) ?_
  refine lv_iconst (v := 2) hx hb dL_law_1282 (by decide) ?_
  refine lv_iadd hx hb dL_law_1283 ?_
  refine va_sld hx hb hX hbl hbA G.2.2 (lw_in (j := 2) (by decide) (by omega) hL) dL_law_1284 ?_
  refine lv_aload_n hx hb dL_law_1285 rfl (lv_at hl 0 rfl) ?_
  refine lv_iload_n hx hb dL_law_1286 rfl (lv_at hl 3 rfl) ?_
  refine lv_iconst (v := 3) hx hb dL_law_1287 (by decide) ?_
  refine lv_iadd hx hb dL_law_1288 ?_
  refine va_sld hx hb hX hbl hbA G.2.2 (lw_in (j := 3) (by decide) (by omega) hL) dL_law_1289 ?_
  refine law_Xi (As := [.int (xs (nI i + 1).toNatClampNeg), .int (xs (nI i + 2).toNatClampNeg), .int (xs (nI i + 3).toNatClampNeg)]) (rest := []) C G (c_X9_gain l D ad cs C.1.2.2.1 x (xs (nI i + 1).toNatClampNeg) (xs (nI i + 2).toNatClampNeg) (xs (nI i + 3).toNatClampNeg) r x' e1) (cwV 3 C.1.1.2.2.2.2 gL_law_X9_gain rfl rfl rfl (by decide +kernel) ⟨Nat.le_of_ble_eq_true rfl, Nat.le_of_ble_eq_true rfl⟩) rfl hl rfl (Nat.le_of_ble_eq_true rfl) dL_law_1290 (fun H locs G => ?_)
  refine lv_aload_n hx hb dL_law_1293 rfl (lv_at hl 2 rfl) ?_
  refine lv_aload_n hx hb dL_law_1294 rfl (lv_at hl 0 rfl) ?_
  refine lv_iload_n hx hb dL_law_1295 rfl (lv_at hl 3 rfl) ?_
  refine lv_iconst (v := 1) hx hb dL_law_1296 (by decide) ?_
  refine lv_iadd hx hb dL_law_1297 ?_
  refine va_sld hx hb hX hbl hbA G.2.2 (lw_in (j := 1) (by decide) (by omega) hL) dL_law_1298 ?_
  refine lv_aload_n hx hb dL_law_1299 rfl (lv_at hl 0 rfl) ?_
  refine lv_iload_n hx hb dL_law_1300 rfl (lv_at hl 3 rfl) ?_
  refine lv_iconst (v := 2) hx hb dL_law_1301 (by decide) ?_
  refine lv_iadd hx hb dL_law_1302 ?_
  refine va_sld hx hb hX hbl hbA G.2.2 (lw_in (j := 2) (by decide) (by omega) hL) dL_law_1303 ?_
  refine lv_aload_n hx hb dL_law_1304 rfl (lv_at hl 0 rfl) ?_
  refine lv_iload_n hx hb dL_law_1305 rfl (lv_at hl 3 rfl) ?_
  refine lv_iconst (v := 3) hx hb dL_law_1306 (by decide) ?_
  refine lv_iadd hx hb dL_law_1307 ?_
  refine va_sld hx hb hX hbl hbA G.2.2 (lw_in (j := 3) (by decide) (by omega) hL) dL_law_1308 ?_
  refine law_Mi (As := [.int (xs (nI i + 1).toNatClampNeg), .int (xs (nI i + 2).toNatClampNeg), .int (xs (nI i + 3).toNatClampNeg)]) (rest := [.int r]) C G (c_X10_gain l D adM cs C.2.1.2.2.1 y (xs (nI i + 1).toNatClampNeg) (xs (nI i + 2).toNatClampNeg) (xs (nI i + 3).toNatClampNeg) r y' e2) (cwV 3 C.1.1.2.2.2.2 gL_law_X10_gain rfl rfl rfl (by decide +kernel) ⟨Nat.le_of_ble_eq_true rfl, Nat.le_of_ble_eq_true rfl⟩) rfl hl rfl (Nat.le_of_ble_eq_true rfl) dL_law_1309 (fun H locs G => ?_)
  refine lv_icmp_eq (tgt := 1574) hx hb dL_law_1312 (by decide) (fun _ => ?_) (fun q => absurd rfl q)
  exact hnext x' y' H locs ls hR' G hl
set_option maxHeartbeats 4000000 in
set_option maxRecDepth 100000 in
theorem law_c29 {p : Program} {l : Launch} {e : Env} {s : State} {m : MethodId} {below : List Frame} {meth : Method} {c : Code} {D : va_G} {ad adM : Nat → Nat} {cs : Nat → ClassId} {b L : Nat} {xs : Nat → Int32} {i : Nat} (C : lC p s m c D ad adM cs b L xs) (hi : i + 6 ≤ L) (hnext : ∀ (x y : St) (H : Heap) (locs : List Loc) (ls : Array Slot), Rel x y → uL D ad adM cs s x y H locs → lv_has ls 4 [(0, .ref b), (1, .ref (ad 0)), (2, .ref (adM 0)), (3, .int (nI i))] → W p l e room_1 s m #[.ref b] below meth c H locs 133 3502 (lw_Z below #[Value.ref b] s) (F0 m 1574 ls [])) :
    ∀ (x y : St) (H : Heap) (locs : List Loc) (ls : Array Slot), Rel x y → uL D ad adM cs s x y H locs → lv_has ls 4 [(0, .ref b), (1, .ref (ad 0)), (2, .ref (adM 0)), (3, .int (nI i))] → W p l e room_1 s m #[.ref b] below meth c H locs 133 3502 (lw_Z below #[Value.ref b] s) (F0 m 1317 ls []) := by
  intro x y H locs ls hR G hl
  have hx := C.1.1.1
  have hb := C.1.1.2.1
  obtain ⟨hX, hbl, hL⟩ := C.2.2.2
  have hbA : ¬ (fun q : Nat => s.heap.size ≤ q) b := Nat.not_le.mpr hbl
  obtain ⟨r, x', y', e1, e2, hR'⟩ := op_next hR (xs (nI i + 1).toNatClampNeg) (xs (nI i + 2).toNatClampNeg)
  refine lv_aload_n hx hb dL_law_1317 rfl (lv_at hl 1 rfl) ?_
  refine lv_aload_n hx hb dL_law_1318 rfl (lv_at hl 0 rfl) ?_
  refine lv_iload_n hx hb dL_law_1319 rfl (lv_at hl 3 rfl) ?_
  refine lv_iconst (v := 1) hx hb dL_law_1320 (by decide) ?_
  refine lv_iadd hx hb dL_law_1321 ?_
  refine va_sld hx hb hX hbl hbA G.2.2 (lw_in (j := 1) (by decide) (by omega) hL) dL_law_1322 ?_
  refine lv_aload_n hx hb dL_law_1323 rfl (lv_at hl 0 rfl) ?_
  refine lv_iload_n hx hb dL_law_1324 rfl (lv_at hl 3 rfl) ?_
  refine lv_iconst (v := 2) hx hb dL_law_1325 (by decide) ?_
  refine lv_iadd hx hb dL_law_1326 ?_
  refine va_sld hx hb hX hbl hbA G.2.2 (lw_in (j := 2) (by decide) (by omega) hL) dL_law_1327 ?_
  refine law_Xi (As := [.int (xs (nI i + 1).toNatClampNeg), .int (xs (nI i + 2).toNatClampNeg)]) (rest := []) C G (c_X9_next l D ad cs C.1.2.2.1 x (xs (nI i + 1).toNatClampNeg) (xs (nI i + 2).toNatClampNeg) r x' e1) (cwV 2 C.1.1.2.2.2.2 gL_law_X9_next rfl rfl rfl (by decide +kernel) ⟨Nat.le_of_ble_eq_true rfl, Nat.le_of_ble_eq_true rfl⟩) rfl hl rfl (Nat.le_of_ble_eq_true rfl) dL_law_1328 (fun H locs G => ?_)
  refine lv_aload_n hx hb dL_law_1331 rfl (lv_at hl 2 rfl) ?_
  refine lv_aload_n hx hb dL_law_1332 rfl (lv_at hl 0 rfl) ?_
  refine lv_iload_n hx hb dL_law_1333 rfl (lv_at hl 3 rfl) ?_
  refine lv_iconst (v := 1) hx hb dL_law_1334 (by decide) ?_
  refine lv_iadd hx hb dL_law_1335 ?_
  refine va_sld hx hb hX hbl hbA G.2.2 (lw_in (j := 1) (by decide) (by omega) hL) dL_law_1336 ?_
  refine lv_aload_n hx hb dL_law_1337 rfl (lv_at hl 0 rfl) ?_
  refine lv_iload_n hx hb dL_law_1338 rfl (lv_at hl 3 rfl) ?_
  refine lv_iconst (v := 2) hx hb dL_law_1339 (by decide) ?_
  refine lv_iadd hx hb dL_law_1340 ?_
  refine va_sld hx hb hX hbl hbA G.2.2 (lw_in (j := 2) (by decide) (by omega) hL) dL_law_1341 ?_
  refine law_Mi (As := [.int (xs (nI i + 1).toNatClampNeg), .int (xs (nI i + 2).toNatClampNeg)]) (rest := [.int r]) C G (c_X10_next l D adM cs C.2.1.2.2.1 y (xs (nI i + 1).toNatClampNeg) (xs (nI i + 2).toNatClampNeg) r y' e2) (cwV 2 C.1.1.2.2.2.2 gL_law_X10_next rfl rfl rfl (by decide +kernel) ⟨Nat.le_of_ble_eq_true rfl, Nat.le_of_ble_eq_true rfl⟩) rfl hl rfl (Nat.le_of_ble_eq_true rfl) dL_law_1342 (fun H locs G => ?_)
  refine lv_icmp_eq (tgt := 1574) hx hb dL_law_1345 (by decide) (fun _ => ?_) (fun q => absurd rfl q)
  exact hnext x' y' H locs ls hR' G hl
set_option maxHeartbeats 4000000 in
set_option maxRecDepth 100000 in
theorem law_c30 {p : Program} {l : Launch} {e : Env} {s : State} {m : MethodId} {below : List Frame} {meth : Method} {c : Code} {D : va_G} {ad adM : Nat → Nat} {cs : Nat → ClassId} {b L : Nat} {xs : Nat → Int32} {i : Nat} (C : lC p s m c D ad adM cs b L xs) (hi : i + 6 ≤ L) (hnext : ∀ (x y : St) (H : Heap) (locs : List Loc) (ls : Array Slot), Rel x y → uL D ad adM cs s x y H locs → lv_has ls 4 [(0, .ref b), (1, .ref (ad 0)), (2, .ref (adM 0)), (3, .int (nI i))] → W p l e room_1 s m #[.ref b] below meth c H locs 133 3502 (lw_Z below #[Value.ref b] s) (F0 m 1574 ls [])) :
    ∀ (x y : St) (H : Heap) (locs : List Loc) (ls : Array Slot), Rel x y → uL D ad adM cs s x y H locs → lv_has ls 4 [(0, .ref b), (1, .ref (ad 0)), (2, .ref (adM 0)), (3, .int (nI i))] → W p l e room_1 s m #[.ref b] below meth c H locs 133 3502 (lw_Z below #[Value.ref b] s) (F0 m 1350 ls []) := by
  intro x y H locs ls hR G hl
  have hx := C.1.1.1
  have hb := C.1.1.2.1
  obtain ⟨hX, hbl, hL⟩ := C.2.2.2
  have hbA : ¬ (fun q : Nat => s.heap.size ≤ q) b := Nat.not_le.mpr hbl
  obtain ⟨r, x', y', e1, e2, hR'⟩ := op_read hR (xs (nI i + 1).toNatClampNeg) (xs (nI i + 2).toNatClampNeg)
  refine lv_aload_n hx hb dL_law_1350 rfl (lv_at hl 1 rfl) ?_
  refine lv_aload_n hx hb dL_law_1351 rfl (lv_at hl 0 rfl) ?_
  refine lv_iload_n hx hb dL_law_1352 rfl (lv_at hl 3 rfl) ?_
  refine lv_iconst (v := 1) hx hb dL_law_1353 (by decide) ?_
  refine lv_iadd hx hb dL_law_1354 ?_
  refine va_sld hx hb hX hbl hbA G.2.2 (lw_in (j := 1) (by decide) (by omega) hL) dL_law_1355 ?_
  refine lv_aload_n hx hb dL_law_1356 rfl (lv_at hl 0 rfl) ?_
  refine lv_iload_n hx hb dL_law_1357 rfl (lv_at hl 3 rfl) ?_
  refine lv_iconst (v := 2) hx hb dL_law_1358 (by decide) ?_
  refine lv_iadd hx hb dL_law_1359 ?_
  refine va_sld hx hb hX hbl hbA G.2.2 (lw_in (j := 2) (by decide) (by omega) hL) dL_law_1360 ?_
  refine law_Xi (As := [.int (xs (nI i + 1).toNatClampNeg), .int (xs (nI i + 2).toNatClampNeg)]) (rest := []) C G (c_X9_read l D ad cs C.1.2.2.1 x (xs (nI i + 1).toNatClampNeg) (xs (nI i + 2).toNatClampNeg) r x' e1) (cwV 2 C.1.1.2.2.2.2 gL_law_X9_read rfl rfl rfl (by decide +kernel) ⟨Nat.le_of_ble_eq_true rfl, Nat.le_of_ble_eq_true rfl⟩) rfl hl rfl (Nat.le_of_ble_eq_true rfl) dL_law_1361 (fun H locs G => ?_)
  refine lv_aload_n hx hb dL_law_1364 rfl (lv_at hl 2 rfl) ?_
  refine lv_aload_n hx hb dL_law_1365 rfl (lv_at hl 0 rfl) ?_
  refine lv_iload_n hx hb dL_law_1366 rfl (lv_at hl 3 rfl) ?_
  refine lv_iconst (v := 1) hx hb dL_law_1367 (by decide) ?_
  refine lv_iadd hx hb dL_law_1368 ?_
  refine va_sld hx hb hX hbl hbA G.2.2 (lw_in (j := 1) (by decide) (by omega) hL) dL_law_1369 ?_
  refine lv_aload_n hx hb dL_law_1370 rfl (lv_at hl 0 rfl) ?_
  refine lv_iload_n hx hb dL_law_1371 rfl (lv_at hl 3 rfl) ?_
  refine lv_iconst (v := 2) hx hb dL_law_1372 (by decide) ?_
  refine lv_iadd hx hb dL_law_1373 ?_
  refine va_sld hx hb hX hbl hbA G.2.2 (lw_in (j := 2) (by decide) (by omega) hL) dL_law_1374 ?_
  refine law_Mi (As := [.int (xs (nI i + 1).toNatClampNeg), .int (xs (nI i + 2).toNatClampNeg)]) (rest := [.int r]) C G (c_X10_read l D adM cs C.2.1.2.2.1 y (xs (nI i + 1).toNatClampNeg) (xs (nI i + 2).toNatClampNeg) r y' e2) (cwV 2 C.1.1.2.2.2.2 gL_law_X10_read rfl rfl rfl (by decide +kernel) ⟨Nat.le_of_ble_eq_true rfl, Nat.le_of_ble_eq_true rfl⟩) rfl hl rfl (Nat.le_of_ble_eq_true rfl) dL_law_1375 (fun H locs G => ?_)
  refine lv_icmp_eq (tgt := 1574) hx hb dL_law_1378 (by decide) (fun _ => ?_) (fun q => absurd rfl q)
  exact hnext x' y' H locs ls hR' G hl
set_option maxHeartbeats 4000000 in
set_option maxRecDepth 100000 in
theorem law_c31 {p : Program} {l : Launch} {e : Env} {s : State} {m : MethodId} {below : List Frame} {meth : Method} {c : Code} {D : va_G} {ad adM : Nat → Nat} {cs : Nat → ClassId} {b L : Nat} {xs : Nat → Int32} {i : Nat} (C : lC p s m c D ad adM cs b L xs) (hi : i + 6 ≤ L) (hnext : ∀ (x y : St) (H : Heap) (locs : List Loc) (ls : Array Slot), Rel x y → uL D ad adM cs s x y H locs → lv_has ls 4 [(0, .ref b), (1, .ref (ad 0)), (2, .ref (adM 0)), (3, .int (nI i))] → W p l e room_1 s m #[.ref b] below meth c H locs 133 3502 (lw_Z below #[Value.ref b] s) (F0 m 1574 ls [])) :
    ∀ (x y : St) (H : Heap) (locs : List Loc) (ls : Array Slot), Rel x y → uL D ad adM cs s x y H locs → lv_has ls 4 [(0, .ref b), (1, .ref (ad 0)), (2, .ref (adM 0)), (3, .int (nI i))] → W p l e room_1 s m #[.ref b] below meth c H locs 133 3502 (lw_Z below #[Value.ref b] s) (F0 m 1383 ls []) := by
  intro x y H locs ls hR G hl
  have hx := C.1.1.1
  have hb := C.1.1.2.1
  obtain ⟨hX, hbl, hL⟩ := C.2.2.2
  have hbA : ¬ (fun q : Nat => s.heap.size ≤ q) b := Nat.not_le.mpr hbl
  obtain ⟨r, x', y', e1, e2, hR'⟩ := op_spread hR (xs (nI i + 1).toNatClampNeg)
  refine lv_aload_n hx hb dL_law_1383 rfl (lv_at hl 1 rfl) ?_
  refine lv_aload_n hx hb dL_law_1384 rfl (lv_at hl 0 rfl) ?_
  refine lv_iload_n hx hb dL_law_1385 rfl (lv_at hl 3 rfl) ?_
  refine lv_iconst (v := 1) hx hb dL_law_1386 (by decide) ?_
  refine lv_iadd hx hb dL_law_1387 ?_
  refine va_sld hx hb hX hbl hbA G.2.2 (lw_in (j := 1) (by decide) (by omega) hL) dL_law_1388 ?_
  refine law_Xi (As := [.int (xs (nI i + 1).toNatClampNeg)]) (rest := []) C G (c_X9_spread l D ad cs C.1.2.2.1 x (xs (nI i + 1).toNatClampNeg) r x' e1) (cwV 1 C.1.1.2.2.2.2 gL_law_X9_spread rfl rfl rfl (by decide +kernel) ⟨Nat.le_of_ble_eq_true rfl, Nat.le_of_ble_eq_true rfl⟩) rfl hl rfl (Nat.le_of_ble_eq_true rfl) dL_law_1389 (fun H locs G => ?_)
  refine lv_aload_n hx hb dL_law_1392 rfl (lv_at hl 2 rfl) ?_
  refine lv_aload_n hx hb dL_law_1393 rfl (lv_at hl 0 rfl) ?_
  refine lv_iload_n hx hb dL_law_1394 rfl (lv_at hl 3 rfl) ?_
  refine lv_iconst (v := 1) hx hb dL_law_1395 (by decide) ?_
  refine lv_iadd hx hb dL_law_1396 ?_
  refine va_sld hx hb hX hbl hbA G.2.2 (lw_in (j := 1) (by decide) (by omega) hL) dL_law_1397 ?_
  refine law_Mi (As := [.int (xs (nI i + 1).toNatClampNeg)]) (rest := [.int r]) C G (c_X10_spread l D adM cs C.2.1.2.2.1 y (xs (nI i + 1).toNatClampNeg) r y' e2) (cwV 1 C.1.1.2.2.2.2 gL_law_X10_spread rfl rfl rfl (by decide +kernel) ⟨Nat.le_of_ble_eq_true rfl, Nat.le_of_ble_eq_true rfl⟩) rfl hl rfl (Nat.le_of_ble_eq_true rfl) dL_law_1398 (fun H locs G => ?_)
  refine lv_icmp_eq (tgt := 1574) hx hb dL_law_1401 (by decide) (fun _ => ?_) (fun q => absurd rfl q)
  exact hnext x' y' H locs ls hR' G hl
