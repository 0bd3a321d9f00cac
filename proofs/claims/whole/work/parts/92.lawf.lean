set_option maxHeartbeats 4000000 in
set_option maxRecDepth 100000 in
theorem law_c22 {p : Program} {l : Launch} {e : Env} {s : State} {m : MethodId} {below : List Frame} {meth : Method} {c : Code} {D : va_G} {ad adM : Nat → Nat} {cs : Nat → ClassId} {b L : Nat} {xs : Nat → Int32} {i : Nat} (C : lC p s m c D ad adM cs b L xs) (hi : i + 6 ≤ L) (hnext : ∀ (x y : St) (H : Heap) (locs : List Loc) (ls : Array Slot), Rel x y → uL D ad adM cs s x y H locs → lv_has ls 4 [(0, .ref b), (1, .ref (ad 0)), (2, .ref (adM 0)), (3, .int (nI i))] → W p l e room_1 s m #[.ref b] below meth c H locs 133 3502 (lw_Z below #[Value.ref b] s) (F0 m 1574 ls [])) :
    ∀ (x y : St) (H : Heap) (locs : List Loc) (ls : Array Slot), Rel x y → uL D ad adM cs s x y H locs → lv_has ls 4 [(0, .ref b), (1, .ref (ad 0)), (2, .ref (adM 0)), (3, .int (nI i))] → W p l e room_1 s m #[.ref b] below meth c H locs 133 3502 (lw_Z below #[Value.ref b] s) (F0 m 1030 ls []) := by
  intro x y H locs ls hR G hl
  have hx := C.1.1.1
  have hb := C.1.1.2.1
  obtain ⟨hX, hbl, hL⟩ := C.2.2.2
  have hbA : ¬ (fun q : Nat => s.heap.size ≤ q) b := Nat.not_le.mpr hbl
  obtain ⟨r, x', y', e1, e2, hR'⟩ := op_renumber hR (xs (nI i + 1).toNatClampNeg) (xs (nI i + 2).toNatClampNeg) (xs (nI i + 3).toNatClampNeg)
  refine lv_aload_n hx hb dL_law_1030 rfl (lv_at hl 1 rfl) ?_
  refine lv_aload_n hx hb dL_law_1031 rfl (lv_at hl 0 rfl) ?_
  refine lv_iload_n hx hb dL_law_1032 rfl (lv_at hl 3 rfl) ?_
  refine lv_iconst (v := 1) hx hb dL_law_1033 (by decide) ?_
  refine lv_iadd hx hb dL_law_1034 ?_
  refine va_sld hx hb hX hbl hbA G.2.2 (lw_in (j := 1) (by decide) (by omega) hL) dL_law_1035 ?_
  refine lv_aload_n hx hb dL_law_1036 rfl (lv_at hl 0 rfl) ?_
  refine lv_iload_n hx hb dL_law_1037 rfl (lv_at hl 3 rfl) ?_
  refine lv_iconst (v := 2) hx hb dL_law_1038 (by decide) ?_
  refine lv_iadd hx hb dL_law_1039 ?_
  refine va_sld hx hb hX hbl hbA G.2.2 (lw_in (j := 2) (by decide) (by omega) hL) dL_law_1040 ?_
  refine lv_aload_n hx hb dL_law_1041 rfl (lv_at hl 0 rfl) ?_
  refine lv_iload_n hx hb dL_law_1042 rfl (lv_at hl 3 rfl) ?_
  refine lv_iconst (v := 3) hx hb dL_law_1043 (by decide) ?_
  refine lv_iadd hx hb dL_law_1044 ?_
  refine va_sld hx hb hX hbl hbA G.2.2 (lw_in (j := 3) (by decide) (by omega) hL) dL_law_1045 ?_
  refine law_Xi (As := [.int (xs (nI i + 1).toNatClampNeg), .int (xs (nI i + 2).toNatClampNeg), .int (xs (nI i + 3).toNatClampNeg)]) (rest := []) C G (c_X9_renumber l D ad cs C.1.2.2.1 x (xs (nI i + 1).toNatClampNeg) (xs (nI i + 2).toNatClampNeg) (xs (nI i + 3).toNatClampNeg) r x' e1) (cwV 3 C.1.1.2.2.2.2 gL_law_X9_renumber rfl rfl rfl (by decide +kernel) ⟨Nat.le_of_ble_eq_true rfl, Nat.le_of_ble_eq_true rfl⟩) rfl hl rfl (Nat.le_of_ble_eq_true rfl) dL_law_1046 (fun H locs G => ?_)
  refine lv_aload_n hx hb dL_law_1049 rfl (lv_at hl 2 rfl) ?_
  refine lv_aload_n hx hb dL_law_1050 rfl (lv_at hl 0 rfl) ?_
  refine lv_iload_n hx hb dL_law_1051 rfl (lv_at hl 3 rfl) ?_
  refine lv_iconst (v := 1) hx hb dL_law_1052 (by decide) ?_
  refine lv_iadd hx hb dL_law_1053 ?_
  refine va_sld hx hb hX hbl hbA G.2.2 (lw_in (j := 1) (by decide) (by omega) hL) dL_law_1054 ?_
  refine lv_aload_n hx hb dL_law_1055 rfl (lv_at hl 0 rfl) ?_
  refine lv_iload_n hx hb dL_law_1056 rfl (lv_at hl 3 rfl) ?_
  refine lv_iconst (v := 2) hx hb dL_law_1057 (by decide) ?_
  refine lv_iadd hx hb dL_law_1058 ?_
  refine va_sld hx hb hX hbl hbA G.2.2 (lw_in (j := 2) (by decide) (by omega) hL) dL_law_1059 ?_
  refine lv_aload_n hx hb dL_law_1060 rfl (lv_at hl 0 rfl) ?_
  refine lv_iload_n hx hb dL_law_1061 rfl (lv_at hl 3 rfl) ?_
  refine lv_iconst (v := 3) hx hb dL_law_1062 (by decide) ?_
  refine lv_iadd hx hb dL_law_1063 ?_
  refine va_sld hx hb hX hbl hbA G.2.2 (lw_in (j := 3) (by decide) (by omega) hL) dL_law_1064 ?_
  refine law_Mi (As := [.int (xs (nI i + 1).toNatClampNeg), .int (xs (nI i + 2).toNatClampNeg), .int (xs (nI i + 3).toNatClampNeg)]) (rest := [.int r]) C G (c_X10_renumber l D adM cs C.2.1.2.2.1 y (xs (nI i + 1).toNatClampNeg) (xs (nI i + 2).toNatClampNeg) (xs (nI i + 3).toNatClampNeg) r y' e2) (cwV 3 C.1.1.2.2.2.2 gL_law_X10_renumber rfl rfl rfl (by decide +kernel) ⟨Nat.le_of_ble_eq_true rfl, Nat.le_of_ble_eq_true rfl⟩) rfl hl rfl (Nat.le_of_ble_eq_true rfl) dL_law_1065 (fun H locs G => ?_)
  refine lv_icmp_eq (tgt := 1574) hx hb dL_law_1068 (by decide) (fun _ => ?_) (fun q => absurd rfl q)
  exact hnext x' y' H locs ls hR' G hl
set_option maxHeartbeats 4000000 in
set_option maxRecDepth 100000 in
theorem law_c23 {p : Program} {l : Launch} {e : Env} {s : State} {m : MethodId} {below : List Frame} {meth : Method} {c : Code} {D : va_G} {ad adM : Nat → Nat} {cs : Nat → ClassId} {b L : Nat} {xs : Nat → Int32} {i : Nat} (C : lC p s m c D ad adM cs b L xs) (hi : i + 6 ≤ L) (hnext : ∀ (x y : St) (H : Heap) (locs : List Loc) (ls : Array Slot), Rel x y → uL D ad adM cs s x y H locs → lv_has ls 4 [(0, .ref b), (1, .ref (ad 0)), (2, .ref (adM 0)), (3, .int (nI i))] → W p l e room_1 s m #[.ref b] below meth c H locs 133 3502 (lw_Z below #[Value.ref b] s) (F0 m 1574 ls [])) :
    ∀ (x y : St) (H : Heap) (locs : List Loc) (ls : Array Slot), Rel x y → uL D ad adM cs s x y H locs → lv_has ls 4 [(0, .ref b), (1, .ref (ad 0)), (2, .ref (adM 0)), (3, .int (nI i))] → W p l e room_1 s m #[.ref b] below meth c H locs 133 3502 (lw_Z below #[Value.ref b] s) (F0 m 1073 ls []) := by
  intro x y H locs ls hR G hl
  have hx := C.1.1.1
  have hb := C.1.1.2.1
  obtain ⟨hX, hbl, hL⟩ := C.2.2.2
  have hbA : ¬ (fun q : Nat => s.heap.size ≤ q) b := Nat.not_le.mpr hbl
  obtain ⟨r, x', y', e1, e2, hR'⟩ := op_number hR (xs (nI i + 1).toNatClampNeg) (xs (nI i + 2).toNatClampNeg) (xs (nI i + 3).toNatClampNeg)
  refine lv_aload_n hx hb dL_law_1073 rfl (lv_at hl 1 rfl) ?_
  refine lv_aload_n hx hb dL_law_1074 rfl (lv_at hl 0 rfl) ?_
  refine lv_iload_n hx hb dL_law_1075 rfl (lv_at hl 3 rfl) ?_
  refine lv_iconst (v := 1) hx hb dL_law_1076 (by decide) ?_
  refine lv_iadd hx hb dL_law_1077 ?_
  refine va_sld hx hb hX hbl hbA G.2.2 (lw_in (j := 1) (by decide) (by omega) hL) dL_law_1078 ?_
  refine lv_aload_n hx hb dL_law_1079 rfl (lv_at hl 0 rfl) ?_
  refine lv_iload_n hx hb dL_law_1080 rfl (lv_at hl 3 rfl) ?_
  refine lv_iconst (v := 2) hx hb dL_law_1081 (by decide) ?_
  refine lv_iadd hx hb dL_law_1082 ?_
  refine va_sld hx hb hX hbl hbA G.2.2 (lw_in (j := 2) (by decide) (by omega) hL) dL_law_1083 ?_
  refine lv_aload_n hx hb dL_law_1084 rfl (lv_at hl 0 rfl) ?_
  refine lv_iload_n hx hb dL_law_1085 rfl (lv_at hl 3 rfl) ?_
  refine lv_iconst (v := 3) hx hb dL_law_1086 (by decide) ?_
  refine lv_iadd hx hb dL_law_1087 ?_
  refine va_sld hx hb hX hbl hbA G.2.2 (lw_in (j := 3) (by decide) (by omega) hL) dL_law_1088 ?_
  refine law_Xi (As := [.int (xs (nI i + 1).toNatClampNeg), .int (xs (nI i + 2).toNatClampNeg), .int (xs (nI i + 3).toNatClampNeg)]) (rest := []) C G (c_X9_number l D ad cs C.1.2.2.1 x (xs (nI i + 1).toNatClampNeg) (xs (nI i + 2).toNatClampNeg) (xs (nI i + 3).toNatClampNeg) r x' e1) (cwV 3 C.1.1.2.2.2.2 gL_law_X9_number rfl rfl rfl (by decide +kernel) ⟨Nat.le_of_ble_eq_true rfl, Nat.le_of_ble_eq_true rfl⟩) rfl hl rfl (Nat.le_of_ble_eq_true rfl) dL_law_1089 (fun H locs G => ?_)
  refine lv_aload_n hx hb dL_law_1092 rfl (lv_at hl 2 rfl) ?_
  refine lv_aload_n hx hb dL_law_1093 rfl (lv_at hl 0 rfl) ?_
  refine lv_iload_n hx hb dL_law_1094 rfl (lv_at hl 3 rfl) ?_
  refine lv_iconst (v := 1) hx hb dL_law_1095 (by decide) ?_
  refine lv_iadd hx hb dL_law_1096 ?_
  refine va_sld hx hb hX hbl hbA G.2.2 (lw_in (j := 1) (by decide) (by omega) hL) dL_law_1097 ?_
  refine lv_aload_n hx hb dL_law_1098 rfl (lv_at hl 0 rfl) ?_
  refine lv_iload_n hx hb dL_law_1099 rfl (lv_at hl 3 rfl) ?_
  refine lv_iconst (v := 2) hx hb dL_law_1100 (by decide) ?_
  refine lv_iadd hx hb dL_law_1101 ?_
  refine va_sld hx hb hX hbl hbA G.2.2 (lw_in (j := 2) (by decide) (by omega) hL) dL_law_1102 ?_
  refine lv_aload_n hx hb dL_law_1103 rfl (lv_at hl 0 rfl) ?_
  refine lv_iload_n hx hb dL_law_1104 rfl (lv_at hl 3 rfl) ?_
  refine lv_iconst (v := 3) hx hb dL_law_1105 (by decide) ?_
  refine lv_iadd hx hb dL_law_1106 ?_
  refine va_sld hx hb hX hbl hbA G.2.2 (lw_in (j := 3) (by decide) (by omega) hL) dL_law_1107 ?_
  refine law_Mi (As := [.int (xs (nI i + 1).toNatClampNeg), .int (xs (nI i + 2).toNatClampNeg), .int (xs (nI i + 3).toNatClampNeg)]) (rest := [.int r]) C G (c_X10_number l D adM cs C.2.1.2.2.1 y (xs (nI i + 1).toNatClampNeg) (xs (nI i + 2).toNatClampNeg) (xs (nI i + 3).toNatClampNeg) r y' e2) (cwV 3 C.1.1.2.2.2.2 gL_law_X10_number rfl rfl rfl (by decide +kernel) ⟨Nat.le_of_ble_eq_true rfl, Nat.le_of_ble_eq_true rfl⟩) rfl hl rfl (Nat.le_of_ble_eq_true rfl) dL_law_1108 (fun H locs G => ?_)
  refine lv_icmp_eq (tgt := 1574) hx hb dL_law_1111 (by decide) (fun _ => ?_) (fun q => absurd rfl q)
  exact hnext x' y' H locs ls hR' G hl
set_option maxHeartbeats 4000000 in
set_option maxRecDepth 100000 in
theorem law_c24 {p : Program} {l : Launch} {e : Env} {s : State} {m : MethodId} {below : List Frame} {meth : Method} {c : Code} {D : va_G} {ad adM : Nat → Nat} {cs : Nat → ClassId} {b L : Nat} {xs : Nat → Int32} {i : Nat} (C : lC p s m c D ad adM cs b L xs) (hi : i + 6 ≤ L) (hnext : ∀ (x y : St) (H : Heap) (locs : List Loc) (ls : Array Slot), Rel x y → uL D ad adM cs s x y H locs → lv_has ls 4 [(0, .ref b), (1, .ref (ad 0)), (2, .ref (adM 0)), (3, .int (nI i))] → W p l e room_1 s m #[.ref b] below meth c H locs 133 3502 (lw_Z below #[Value.ref b] s) (F0 m 1574 ls [])) :
    ∀ (x y : St) (H : Heap) (locs : List Loc) (ls : Array Slot), Rel x y → uL D ad adM cs s x y H locs → lv_has ls 4 [(0, .ref b), (1, .ref (ad 0)), (2, .ref (adM 0)), (3, .int (nI i))] → W p l e room_1 s m #[.ref b] below meth c H locs 133 3502 (lw_Z below #[Value.ref b] s) (F0 m 1116 ls []) := by
  intro x y H locs ls hR G hl
  have hx := C.1.1.1
  have hb := C.1.1.2.1
  obtain ⟨hX, hbl, hL⟩ := C.2.2.2
  have hbA : ¬ (fun q : Nat => s.heap.size ≤ q) b := Nat.not_le.mpr hbl
  obtain ⟨r, x', y', e1, e2, hR'⟩ := op_address hR (xs (nI i + 1).toNatClampNeg) (xs (nI i + 2).toNatClampNeg)
  refine lv_aload_n hx hb dL_law_1116 rfl (lv_at hl 1 rfl) ?_
  refine lv_aload_n hx hb dL_law_1117 rfl (lv_at hl 0 rfl) ?_
  refine lv_iload_n hx hb dL_law_1118 rfl (lv_at hl 3 rfl) ?_
  refine lv_iconst (v := 1) hx hb dL_law_1119 (by decide) ?_
  refine lv_iadd hx hb dL_law_1120 ?_
  refine va_sld hx hb hX hbl hbA G.2.2 (lw_in (j := 1) (by decide) (by omega) hL) dL_law_1121 ?_
  refine lv_aload_n hx hb dL_law_1122 rfl (lv_at hl 0 rfl) ?_
  refine lv_iload_n hx hb dL_law_1123 rfl (lv_at hl 3 rfl) ?_
  refine lv_iconst (v := 2) hx hb dL_law_1124 (by decide) ?_
  refine lv_iadd hx hb dL_law_1125 ?_
  refine va_sld hx hb hX hbl hbA G.2.2 (lw_in (j := 2) (by decide) (by omega) hL) dL_law_1126 ?_
  refine law_Xi (As := [.int (xs (nI i + 1).toNatClampNeg), .int (xs (nI i + 2).toNatClampNeg)]) (rest := []) C G (c_X9_address l D ad cs C.1.2.2.1 x (xs (nI i + 1).toNatClampNeg) (xs (nI i + 2).toNatClampNeg) r x' e1) (cwV 2 C.1.1.2.2.2.2 gL_law_X9_address rfl rfl rfl (by decide +kernel) ⟨Nat.le_of_ble_eq_true rfl, Nat.le_of_ble_eq_true rfl⟩) rfl hl rfl (Nat.le_of_ble_eq_true rfl) dL_law_1127 (fun H locs G => ?_)
  refine lv_aload_n hx hb dL_law_1130 rfl (lv_at hl 2 rfl) ?_
  refine lv_aload_n hx hb dL_law_1131 rfl (lv_at hl 0 rfl) ?_
  refine lv_iload_n hx hb dL_law_1132 rfl (lv_at hl 3 rfl) ?_
  refine lv_iconst (v := 1) hx hb dL_law_1133 (by decide) ?_
  refine lv_iadd hx hb dL_law_1134 ?_
  refine va_sld hx hb hX hbl hbA G.2.2 (lw_in (j := 1) (by decide) (by omega) hL) dL_law_1135 ?_
  refine lv_aload_n hx hb dL_law_1136 rfl (lv_at hl 0 rfl) ?_
  refine lv_iload_n hx hb dL_law_1137 rfl (lv_at hl 3 rfl) ?_
  refine lv_iconst (v := 2) hx hb dL_law_1138 (by decide) ?_
  refine lv_iadd hx hb dL_law_1139 ?_
  refine va_sld hx hb hX hbl hbA G.2.2 (lw_in (j := 2) (by decide) (by omega) hL) dL_law_1140 ?_
  refine law_Mi (As := [.int (xs (nI i + 1).toNatClampNeg), .int (xs (nI i + 2).toNatClampNeg)]) (rest := [.int r]) C G (c_X10_address l D adM cs C.2.1.2.2.1 y (xs (nI i + 1).toNatClampNeg) (xs (nI i + 2).toNatClampNeg) r y' e2) (cwV 2 C.1.1.2.2.2.2 gL_law_X10_address rfl rfl rfl (by decide +kernel) ⟨Nat.le_of_ble_eq_true rfl, Nat.le_of_ble_eq_true rfl⟩) rfl hl rfl (Nat.le_of_ble_eq_true rfl) dL_law_1141 (fun H locs G => ?_)
  refine lv_icmp_eq (tgt := 1574) hx hb dL_law_1144 (by decide) (fun _ => ?_) (fun q => absurd rfl q)
  exact hnext x' y' H locs ls hR' G hl
set_option maxHeartbeats 4000000 in
set_option maxRecDepth 100000 in
theorem law_c25 {p : Program} {l : Launch} {e : Env} {s : State} {m : MethodId} {below : List Frame} {meth : Method} {c : Code} {D : va_G} {ad adM : Nat → Nat} {cs : Nat → ClassId} {b L : Nat} {xs : Nat → Int32} {i : Nat} (C : lC p s m c D ad adM cs b L xs) (hi : i + 6 ≤ L) (hnext : ∀ (x y : St) (H : Heap) (locs : List Loc) (ls : Array Slot), Rel x y → uL D ad adM cs s x y H locs → lv_has ls 4 [(0, .ref b), (1, .ref (ad 0)), (2, .ref (adM 0)), (3, .int (nI i))] → W p l e room_1 s m #[.ref b] below meth c H locs 133 3502 (lw_Z below #[Value.ref b] s) (F0 m 1574 ls [])) :
    ∀ (x y : St) (H : Heap) (locs : List Loc) (ls : Array Slot), Rel x y → uL D ad adM cs s x y H locs → lv_has ls 4 [(0, .ref b), (1, .ref (ad 0)), (2, .ref (adM 0)), (3, .int (nI i))] → W p l e room_1 s m #[.ref b] below meth c H locs 133 3502 (lw_Z below #[Value.ref b] s) (F0 m 1149 ls []) := by
  intro x y H locs ls hR G hl
  have hx := C.1.1.1
  have hb := C.1.1.2.1
  obtain ⟨hX, hbl, hL⟩ := C.2.2.2
  have hbA : ¬ (fun q : Nat => s.heap.size ≤ q) b := Nat.not_le.mpr hbl
  by_cases hz : (xs (nI i + 2).toNatClampNeg) = 0
  · obtain ⟨r, x', y', e1, e2, hR'⟩ := op_span hR (xs (nI i + 1).toNatClampNeg) 0
    refine lv_aload_n hx hb dL_law_1149 rfl (lv_at hl 1 rfl) ?_
    refine lv_aload_n hx hb dL_law_1150 rfl (lv_at hl 0 rfl) ?_
    refine lv_iload_n hx hb dL_law_1151 rfl (lv_at hl 3 rfl) ?_
    refine lv_iconst (v := 1) hx hb dL_law_1152 (by decide) ?_
    refine lv_iadd hx hb dL_law_1153 ?_
    refine va_sld hx hb hX hbl hbA G.2.2 (lw_in (j := 1) (by decide) (by omega) hL) dL_law_1154 ?_
    refine lv_aload_n hx hb dL_law_1155 rfl (lv_at hl 0 rfl) ?_
    refine lv_iload_n hx hb dL_law_1156 rfl (lv_at hl 3 rfl) ?_
    refine lv_iconst (v := 2) hx hb dL_law_1157 (by decide) ?_
    refine lv_iadd hx hb dL_law_1158 ?_
    refine va_sld hx hb hX hbl hbA G.2.2 (lw_in (j := 2) (by decide) (by omega) hL) dL_law_1159 ?_
    refine lv_if_eq (tgt := 1167) hx hb dL_law_1160 (by decide) (fun _ => ?_) (fun q => absurd hz q)
    refine lv_iconst (v := 0) hx hb dL_law_1167 (by decide) ?_
    refine law_Xi (As := [.int (xs (nI i + 1).toNatClampNeg), .int 0]) (rest := []) C G (c_X9_span l D ad cs C.1.2.2.1 x (xs (nI i + 1).toNatClampNeg) 0 r x' e1) (cwV 2 C.1.1.2.2.2.2 gL_law_X9_span rfl rfl rfl (by decide +kernel) ⟨Nat.le_of_ble_eq_true rfl, Nat.le_of_ble_eq_true rfl⟩) rfl hl rfl (Nat.le_of_ble_eq_true rfl) dL_law_1168 (fun H locs G => ?_)
    refine lv_aload_n hx hb dL_law_1171 rfl (lv_at hl 2 rfl) ?_
    refine lv_aload_n hx hb dL_law_1172 rfl (lv_at hl 0 rfl) ?_
    refine lv_iload_n hx hb dL_law_1173 rfl (lv_at hl 3 rfl) ?_
    refine lv_iconst (v := 1) hx hb dL_law_1174 (by decide) ?_
    refine lv_iadd hx hb dL_law_1175 ?_
    refine va_sld hx hb hX hbl hbA G.2.2 (lw_in (j := 1) (by decide) (by omega) hL) dL_law_1176 ?_
    refine lv_aload_n hx hb dL_law_1177 rfl (lv_at hl 0 rfl) ?_
    refine lv_iload_n hx hb dL_law_1178 rfl (lv_at hl 3 rfl) ?_
    refine lv_iconst (v := 2) hx hb dL_law_1179 (by decide) ?_
    refine lv_iadd hx hb dL_law_1180 ?_
    refine va_sld hx hb hX hbl hbA G.2.2 (lw_in (j := 2) (by decide) (by omega) hL) dL_law_1181 ?_
    refine lv_if_eq (tgt := 1189) hx hb dL_law_1182 (by decide) (fun _ => ?_) (fun q => absurd hz q)
    refine lv_iconst (v := 0) hx hb dL_law_1189 (by decide) ?_
    refine law_Mi (As := [.int (xs (nI i + 1).toNatClampNeg), .int 0]) (rest := [.int r]) C G (c_X10_span l D adM cs C.2.1.2.2.1 y (xs (nI i + 1).toNatClampNeg) 0 r y' e2) (cwV 2 C.1.1.2.2.2.2 gL_law_X10_span rfl rfl rfl (by decide +kernel) ⟨Nat.le_of_ble_eq_true rfl, Nat.le_of_ble_eq_true rfl⟩) rfl hl rfl (Nat.le_of_ble_eq_true rfl) dL_law_1190 (fun H locs G => ?_)
    refine lv_icmp_eq (tgt := 1574) hx hb dL_law_1193 (by decide) (fun _ => ?_) (fun q => absurd rfl q)
    exact hnext x' y' H locs ls hR' G hl
  · obtain ⟨r, x', y', e1, e2, hR'⟩ := op_span hR (xs (nI i + 1).toNatClampNeg) 1
    refine lv_aload_n hx hb dL_law_1149 rfl (lv_at hl 1 rfl) ?_
    refine lv_aload_n hx hb dL_law_1150 rfl (lv_at hl 0 rfl) ?_
    refine lv_iload_n hx hb dL_law_1151 rfl (lv_at hl 3 rfl) ?_
    refine lv_iconst (v := 1) hx hb dL_law_1152 (by decide) ?_
    refine lv_iadd hx hb dL_law_1153 ?_
    refine va_sld hx hb hX hbl hbA G.2.2 (lw_in (j := 1) (by decide) (by omega) hL) dL_law_1154 ?_
    refine lv_aload_n hx hb dL_law_1155 rfl (lv_at hl 0 rfl) ?_
    refine lv_iload_n hx hb dL_law_1156 rfl (lv_at hl 3 rfl) ?_
    refine lv_iconst (v := 2) hx hb dL_law_1157 (by decide) ?_
    refine lv_iadd hx hb dL_law_1158 ?_
    refine va_sld hx hb hX hbl hbA G.2.2 (lw_in (j := 2) (by decide) (by omega) hL) dL_law_1159 ?_
    refine lv_if_eq (tgt := 1167) hx hb dL_law_1160 (by decide) (fun q => absurd q hz) (fun _ => ?_)
    refine lv_iconst (v := 1) hx hb dL_law_1163 (by decide) ?_
    refine lv_goto (tgt := 1168) hx hb dL_law_1164 (by decide) ?_
    refine law_Xi (As := [.int (xs (nI i + 1).toNatClampNeg), .int 1]) (rest := []) C G (c_X9_span l D ad cs C.1.2.2.1 x (xs (nI i + 1).toNatClampNeg) 1 r x' e1) (cwV 2 C.1.1.2.2.2.2 gL_law_X9_span rfl rfl rfl (by decide +kernel) ⟨Nat.le_of_ble_eq_true rfl, Nat.le_of_ble_eq_true rfl⟩) rfl hl rfl (Nat.le_of_ble_eq_true rfl) dL_law_1168 (fun H locs G => ?_)
    refine lv_aload_n hx hb dL_law_1171 rfl (lv_at hl 2 rfl) ?_
    refine lv_aload_n hx hb dL_law_1172 rfl (lv_at hl 0 rfl) ?_
    refine lv_iload_n hx hb dL_law_1173 rfl (lv_at hl 3 rfl) ?_
    refine lv_iconst (v := 1) hx hb dL_law_1174 (by decide) ?_
    refine lv_iadd hx hb dL_law_1175 ?_
    refine va_sld hx hb hX hbl hbA G.2.2 (lw_in (j := 1) (by decide) (by omega) hL) dL_law_1176 ?_
    refine lv_aload_n hx hb dL_law_1177 rfl (lv_at hl 0 rfl) ?_
    refine lv_iload_n hx hb dL_law_1178 rfl (lv_at hl 3 rfl) ?_
    refine lv_iconst (v := 2) hx hb dL_law_1179 (by decide) ?_
    refine lv_iadd hx hb dL_law_1180 ?_
    refine va_sld hx hb hX hbl hbA G.2.2 (lw_in (j := 2) (by decide) (by omega) hL) dL_law_1181 ?_
    refine lv_if_eq (tgt := 1189) hx hb dL_law_1182 (by decide) (fun q => absurd q hz) (fun _ => ?_)
    refine lv_iconst (v := 1) hx hb dL_law_1185 (by decide) ?_
    refine lv_goto (tgt := 1190) hx hb dL_law_1186 (by decide) ?_
    refine law_Mi (As := [.int (xs (nI i + 1).toNatClampNeg), .int 1]) (rest := [.int r]) C G (c_X10_span l D adM cs C.2.1.2.2.1 y (xs (nI i + 1).toNatClampNeg) 1 r y' e2) (cwV 2 C.1.1.2.2.2.2 gL_law_X10_span rfl rfl rfl (by decide +kernel) ⟨Nat.le_of_ble_eq_true rfl, Nat.le_of_ble_eq_true rfl⟩) rfl hl rfl (Nat.le_of_ble_eq_true rfl) dL_law_1190 (fun H locs G => ?_)
    refine lv_icmp_eq (tgt := 1574) hx hb dL_law_1193 (by decide) (fun _ => ?_) (fun q => absurd rfl q)
    exact hnext x' y' H locs ls hR' G hl
set_option maxHeartbeats 4000000 in
set_option maxRecDepth 100000 in
theorem law_c26 {p : Program} {l : Launch} {e : Env} {s : State} {m : MethodId} {below : List Frame} {meth : Method} {c : Code} {D : va_G} {ad adM : Nat → Nat} {cs : Nat → ClassId} {b L : Nat} {xs : Nat → Int32} {i : Nat} (C : lC p s m c D ad adM cs b L xs) (hi : i + 6 ≤ L) (hnext : ∀ (x y : St) (H : Heap) (locs : List Loc) (ls : Array Slot), Rel x y → uL D ad adM cs s x y H locs → lv_has ls 4 [(0, .ref b), (1, .ref (ad 0)), (2, .ref (adM 0)), (3, .int (nI i))] → W p l e room_1 s m #[.ref b] below meth c H locs 133 3502 (lw_Z below #[Value.ref b] s) (F0 m 1574 ls [])) :
    ∀ (x y : St) (H : Heap) (locs : List Loc) (ls : Array Slot), Rel x y → uL D ad adM cs s x y H locs → lv_has ls 4 [(0, .ref b), (1, .ref (ad 0)), (2, .ref (adM 0)), (3, .int (nI i))] → W p l e room_1 s m #[.ref b] below meth c H locs 133 3502 (lw_Z below #[Value.ref b] s) (F0 m 1198 ls []) := by
  intro x y H locs ls hR G hl
  have hx := C.1.1.1
  have hb := C.1.1.2.1
  obtain ⟨hX, hbl, hL⟩ := C.2.2.2
  have hbA : ¬ (fun q : Nat => s.heap.size ≤ q) b := Nat.not_le.mpr hbl
  obtain ⟨r, x', y', e1, e2, hR'⟩ := op_agrees hR (xs (nI i + 1).toNatClampNeg)
  refine lv_aload_n hx hb dL_law_1198 rfl (lv_at hl 1 rfl) ?_
  refine lv_aload_n hx hb dL_law_1199 rfl (lv_at hl 0 rfl) ?_
  refine lv_iload_n hx hb dL_law_1200 rfl (lv_at hl 3 rfl) ?_
  refine lv_iconst (v := 1) hx hb dL_law_1201 (by decide) ?_
  refine lv_iadd hx hb dL_law_1202 ?_
  refine va_sld hx hb hX hbl hbA G.2.2 (lw_in (j := 1) (by decide) (by omega) hL) dL_law_1203 ?_
  refine law_Xi (As := [.int (xs (nI i + 1).toNatClampNeg)]) (rest := []) C G (c_X9_agrees l D ad cs C.1.2.2.1 x (xs (nI i + 1).toNatClampNeg) r x' e1) (cwV 1 C.1.1.2.2.2.2 gL_law_X9_agrees rfl rfl rfl (by decide +kernel) ⟨Nat.le_of_ble_eq_true rfl, Nat.le_of_ble_eq_true rfl⟩) rfl hl rfl (Nat.le_of_ble_eq_true rfl) dL_law_1204 (fun H locs G => ?_)
  refine lv_aload_n hx hb dL_law_1207 rfl (lv_at hl 2 rfl) ?_
  refine lv_aload_n hx hb dL_law_1208 rfl (lv_at hl 0 rfl) ?_
  refine lv_iload_n hx hb dL_law_1209 rfl (lv_at hl 3 rfl) ?_
  refine lv_iconst (v := 1) hx hb dL_law_1210 (by decide) ?_
  refine lv_iadd hx hb dL_law_1211 ?_
  refine va_sld hx hb hX hbl hbA G.2.2 (lw_in (j := 1) (by decide) (by omega) hL) dL_law_1212 ?_
  refine law_Mi (As := [.int (xs (nI i + 1).toNatClampNeg)]) (rest := [.int r]) C G (c_X10_agrees l D adM cs C.2.1.2.2.1 y (xs (nI i + 1).toNatClampNeg) r y' e2) (cwV 1 C.1.1.2.2.2.2 gL_law_X10_agrees rfl rfl rfl (by decide +kernel) ⟨Nat.le_of_ble_eq_true rfl, Nat.le_of_ble_eq_true rfl⟩) rfl hl rfl (Nat.le_of_ble_eq_true rfl) dL_law_1213 (fun H locs G => ?_)
  refine lv_icmp_eq (tgt := 1574) hx hb dL_law_1216 (by decide) (fun _ => ?_) (fun q => absurd rfl q)
  exact hnext x' y' H locs ls hR' G hl
