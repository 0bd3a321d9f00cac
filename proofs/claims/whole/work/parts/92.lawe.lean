set_option maxHeartbeats 4000000 in
set_option maxRecDepth 100000 in
theorem law_c17 {p : Program} {l : Launch} {e : Env} {s : State} {m : MethodId} {below : List Frame} {meth : Method} {c : Code} {D : va_G} {ad adM : Nat → Nat} {cs : Nat → ClassId} {b L : Nat} {xs : Nat → Int32} {i : Nat} (C : lC p s m c D ad adM cs b L xs) (hi : i + 6 ≤ L) (hnext : ∀ (x y : St) (H : Heap) (locs : List Loc) (ls : Array Slot), Rel x y → uL D ad adM cs s x y H locs → lv_has ls 4 [(0, .ref b), (1, .ref (ad 0)), (2, .ref (adM 0)), (3, .int (nI i))] → W p l e room_1 s m #[.ref b] below meth c H locs 133 3502 (lw_Z below #[Value.ref b] s) (F0 m 1574 ls [])) :
    ∀ (x y : St) (H : Heap) (locs : List Loc) (ls : Array Slot), Rel x y → uL D ad adM cs s x y H locs → lv_has ls 4 [(0, .ref b), (1, .ref (ad 0)), (2, .ref (adM 0)), (3, .int (nI i))] → W p l e room_1 s m #[.ref b] below meth c H locs 133 3502 (lw_Z below #[Value.ref b] s) (F0 m 835 ls []) := by
  intro x y H locs ls hR G hl
  have hx := C.1.1.1
  have hb := C.1.1.2.1
  obtain ⟨hX, hbl, hL⟩ := C.2.2.2
  have hbA : ¬ (fun q : Nat => s.heap.size ≤ q) b := Nat.not_le.mpr hbl
  obtain ⟨r, x', y', e1, e2, hR'⟩ := op_layer hR (xs (nI i + 1).toNatClampNeg) (xs (nI i + 2).toNatClampNeg) (xs (nI i + 3).toNatClampNeg) (xs (nI i + 4).toNatClampNeg)
  refine lv_aload_n hx hb dL_law_835 rfl (lv_at hl 1 rfl) ?_
  refine lv_aload_n hx hb dL_law_836 rfl (lv_at hl 0 rfl) ?_
  refine lv_iload_n hx hb dL_law_837 rfl (lv_at hl 3 rfl) ?_
  refine lv_iconst (v := 1) hx hb dL_law_838 (by decide) ?_
  refine lv_iadd hx hb dL_law_839 ?_
  refine va_sld hx hb hX hbl hbA G.2.2 (lw_in (j := 1) (by decide) (by omega) hL) dL_law_840 ?_
  refine lv_aload_n hx hb dL_law_841 rfl (lv_at hl 0 rfl) ?_
  refine lv_iload_n hx hb dL_law_842 rfl (lv_at hl 3 rfl) ?_
  refine lv_iconst (v := 2) hx hb dL_law_843 (by decide) ?_
  refine lv_iadd hx hb dL_law_844 ?_
  refine va_sld hx hb hX hbl hbA G.2.2 (lw_in (j := 2) (by decide) (by omega) hL) dL_law_845 ?_
  refine lv_aload_n hx hb dL_law_846 rfl (lv_at hl 0 rfl) ?_
  refine lv_iload_n hx hb dL_law_847 rfl (lv_at hl 3 rfl) ?_
  refine lv_iconst (v := 3) hx hb dL_law_848 (by decide) ?_
  refine lv_iadd hx hb dL_law_849 ?_
  refine va_sld hx hb hX hbl hbA G.2.2 (lw_in (j := 3) (by decide) (by omega) hL) dL_law_850 ?_
  refine lv_aload_n hx hb dL_law_851 rfl (lv_at hl 0 rfl) ?_
  refine lv_iload_n hx hb dL_law_852 rfl (lv_at hl 3 rfl) ?_
  refine lv_iconst (v := 4) hx hb dL_law_853 (by decide) ?_
  refine lv_iadd hx hb dL_law_854 ?_
  refine va_sld hx hb hX hbl hbA G.2.2 (lw_in (j := 4) (by decide) (by omega) hL) dL_law_855 ?_
  refine law_Xi (As := [.int (xs (nI i + 1).toNatClampNeg), .int (xs (nI i + 2).toNatClampNeg), .int (xs (nI i + 3).toNatClampNeg), .int (xs (nI i + 4).toNatClampNeg)]) (rest := []) C G (c_X9_layer l D ad cs C.1.2.2.1 x (xs (nI i + 1).toNatClampNeg) (xs (nI i + 2).toNatClampNeg) (xs (nI i + 3).toNatClampNeg) (xs (nI i + 4).toNatClampNeg) r x' e1) (cwV 4 C.1.1.2.2.2.2 gL_law_X9_layer rfl rfl rfl (by decide +kernel) ⟨Nat.le_of_ble_eq_true rfl, Nat.le_of_ble_eq_true rfl⟩) rfl hl rfl (Nat.le_of_ble_eq_true rfl) dL_law_856 (fun H locs G => ?_)
  refine lv_aload_n hx hb dL_law_859 rfl (lv_at hl 2 rfl) ?_
  refine lv_aload_n hx hb dL_law_860 rfl (lv_at hl 0 rfl) ?_
  refine lv_iload_n hx hb dL_law_861 rfl (lv_at hl 3 rfl) ?_
  refine lv_iconst (v := 1) hx hb dL_law_862 (by decide) ?_
  refine lv_iadd hx hb dL_law_863 ?_
  refine va_sld hx hb hX hbl hbA G.2.2 (lw_in (j := 1) (by decide) (by omega) hL) dL_law_864 ?_
  refine lv_aload_n hx hb dL_law_865 rfl (lv_at hl 0 rfl) ?_
  refine lv_iload_n hx hb dL_law_866 rfl (lv_at hl 3 rfl) ?_
  refine lv_iconst (v := 2) hx hb dL_law_867 (by decide) ?_
  refine lv_iadd hx hb dL_law_868 ?_
  refine va_sld hx hb hX hbl hbA G.2.2 (lw_in (j := 2) (by decide) (by omega) hL) dL_law_869 ?_
  refine lv_aload_n hx hb dL_law_870 rfl (lv_at hl 0 rfl) ?_
  refine lv_iload_n hx hb dL_law_871 rfl (lv_at hl 3 rfl) ?_
  refine lv_iconst (v := 3) hx hb dL_law_872 (by decide) ?_
  refine lv_iadd hx hb dL_law_873 ?_
  refine va_sld hx hb hX hbl hbA G.2.2 (lw_in (j := 3) (by decide) (by omega) hL) dL_law_874 ?_
  refine lv_aload_n hx hb dL_law_875 rfl (lv_at hl 0 rfl) ?_
  refine lv_iload_n hx hb dL_law_876 rfl (lv_at hl 3 rfl) ?_
  refine lv_iconst (v := 4) hx hb dL_law_877 (by decide) ?_
  refine lv_iadd hx hb dL_law_878 ?_
  refine va_sld hx hb hX hbl hbA G.2.2 (lw_in (j := 4) (by decide) (by omega) hL) dL_law_879 ?_
  refine law_Mi (As := [.int (xs (nI i + 1).toNatClampNeg), .int (xs (nI i + 2).toNatClampNeg), .int (xs (nI i + 3).toNatClampNeg), .int (xs (nI i + 4).toNatClampNeg)]) (rest := [.int r]) C G (c_X10_layer l D adM cs C.2.1.2.2.1 y (xs (nI i + 1).toNatClampNeg) (xs (nI i + 2).toNatClampNeg) (xs (nI i + 3).toNatClampNeg) (xs (nI i + 4).toNatClampNeg) r y' e2) (cwV 4 C.1.1.2.2.2.2 gL_law_X10_layer rfl rfl rfl (by decide +kernel) ⟨Nat.le_of_ble_eq_true rfl, Nat.le_of_ble_eq_true rfl⟩) rfl hl rfl (Nat.le_of_ble_eq_true rfl) dL_law_880 (fun H locs G => ?_)
  refine lv_icmp_eq (tgt := 1574) hx hb dL_law_883 (by decide) (fun _ => ?_) (fun q => absurd rfl q)
  exact hnext x' y' H locs ls hR' G hl
set_option maxHeartbeats 4000000 in
set_option maxRecDepth 100000 in
theorem law_c18 {p : Program} {l : Launch} {e : Env} {s : State} {m : MethodId} {below : List Frame} {meth : Method} {c : Code} {D : va_G} {ad adM : Nat → Nat} {cs : Nat → ClassId} {b L : Nat} {xs : Nat → Int32} {i : Nat} (C : lC p s m c D ad adM cs b L xs) (hi : i + 6 ≤ L) (hnext : ∀ (x y : St) (H : Heap) (locs : List Loc) (ls : Array Slot), Rel x y → uL D ad adM cs s x y H locs → lv_has ls 4 [(0, .ref b), (1, .ref (ad 0)), (2, .ref (adM 0)), (3, .int (nI i))] → W p l e room_1 s m #[.ref b] below meth c H locs 133 3502 (lw_Z below #[Value.ref b] s) (F0 m 1574 ls [])) :
    ∀ (x y : St) (H : Heap) (locs : List Loc) (ls : Array Slot), Rel x y → uL D ad adM cs s x y H locs → lv_has ls 4 [(0, .ref b), (1, .ref (ad 0)), (2, .ref (adM 0)), (3, .int (nI i))] → W p l e room_1 s m #[.ref b] below meth c H locs 133 3502 (lw_Z below #[Value.ref b] s) (F0 m 888 ls []) := by
  intro x y H locs ls hR G hl
  have hx := C.1.1.1
  have hb := C.1.1.2.1
  obtain ⟨hX, hbl, hL⟩ := C.2.2.2
  have hbA : ¬ (fun q : Nat => s.heap.size ≤ q) b := Nat.not_le.mpr hbl
  obtain ⟨r, x', y', e1, e2, hR'⟩ := op_bare hR (xs (nI i + 1).toNatClampNeg)
  refine lv_aload_n hx hb dL_law_888 rfl (lv_at hl 1 rfl) ?_
  refine lv_aload_n hx hb dL_law_889 rfl (lv_at hl 0 rfl) ?_
  refine lv_iload_n hx hb dL_law_890 rfl (lv_at hl 3 rfl) ?_
  refine lv_iconst (v := 1) hx hb dL_law_891 (by decide) ?_
  refine lv_iadd hx hb dL_law_892 ?_
  refine va_sld hx hb hX hbl hbA G.2.2 (lw_in (j := 1) (by decide) (by omega) hL) dL_law_893 ?_
  refine law_Xi (As := [.int (xs (nI i + 1).toNatClampNeg)]) (rest := []) C G (c_X9_bare l D ad cs C.1.2.2.1 x (xs (nI i + 1).toNatClampNeg) r x' e1) (cwV 1 C.1.1.2.2.2.2 gL_law_X9_bare rfl rfl rfl (by decide +kernel) ⟨Nat.le_of_ble_eq_true rfl, Nat.le_of_ble_eq_true rfl⟩) rfl hl rfl (Nat.le_of_ble_eq_true rfl) dL_law_894 (fun H locs G => ?_)
  refine lv_aload_n hx hb dL_law_897 rfl (lv_at hl 2 rfl) ?_
  refine lv_aload_n hx hb dL_law_898 rfl (lv_at hl 0 rfl) ?_
  refine lv_iload_n hx hb dL_law_899 rfl (lv_at hl 3 rfl) ?_
  refine lv_iconst (v := 1) hx hb dL_law_900 (by decide) ?_
  refine lv_iadd hx hb dL_law_901 ?_
  refine va_sld hx hb hX hbl hbA G.2.2 (lw_in (j := 1) (by decide) (by omega) hL) dL_law_902 ?_
  refine law_Mi (As := [.int (xs (nI i + 1).toNatClampNeg)]) (rest := [.int r]) C G (c_X10_bare l D adM cs C.2.1.2.2.1 y (xs (nI i + 1).toNatClampNeg) r y' e2) (cwV 1 C.1.1.2.2.2.2 gL_law_X10_bare rfl rfl rfl (by decide +kernel) ⟨Nat.le_of_ble_eq_true rfl, Nat.le_of_ble_eq_true rfl⟩) rfl hl rfl (Nat.le_of_ble_eq_true rfl) dL_law_903 (fun H locs G => ?_)
  refine lv_icmp_eq (tgt := 1574) hx hb dL_law_906 (by decide) (fun _ => ?_) (fun q => absurd rfl q)
  exact hnext x' y' H locs ls hR' G hl
set_option maxHeartbeats 4000000 in
set_option maxRecDepth 100000 in
theorem law_c19 {p : Program} {l : Launch} {e : Env} {s : State} {m : MethodId} {below : List Frame} {meth : Method} {c : Code} {D : va_G} {ad adM : Nat → Nat} {cs : Nat → ClassId} {b L : Nat} {xs : Nat → Int32} {i : Nat} (C : lC p s m c D ad adM cs b L xs) (hi : i + 6 ≤ L) (hnext : ∀ (x y : St) (H : Heap) (locs : List Loc) (ls : Array Slot), Rel x y → uL D ad adM cs s x y H locs → lv_has ls 4 [(0, .ref b), (1, .ref (ad 0)), (2, .ref (adM 0)), (3, .int (nI i))] → W p l e room_1 s m #[.ref b] below meth c H locs 133 3502 (lw_Z below #[Value.ref b] s) (F0 m 1574 ls [])) :
    ∀ (x y : St) (H : Heap) (locs : List Loc) (ls : Array Slot), Rel x y → uL D ad adM cs s x y H locs → lv_has ls 4 [(0, .ref b), (1, .ref (ad 0)), (2, .ref (adM 0)), (3, .int (nI i))] → W p l e room_1 s m #[.ref b] below meth c H locs 133 3502 (lw_Z below #[Value.ref b] s) (F0 m 911 ls []) := by
  intro x y H locs ls hR G hl
  have hx := C.1.1.1
  have hb := C.1.1.2.1
  obtain ⟨hX, hbl, hL⟩ := C.2.2.2
  have hbA : ¬ (fun q : Nat => s.heap.size ≤ q) b := Nat.not_le.mpr hbl
  obtain ⟨r, x', y', e1, e2, hR'⟩ := op_layerTold hR (xs (nI i + 1).toNatClampNeg) (xs (nI i + 2).toNatClampNeg) (xs (nI i + 3).toNatClampNeg)
  refine lv_aload_n hx hb dL_law_911 rfl (lv_at hl 1 rfl) ?_
  refine lv_aload_n hx hb dL_law_912 rfl (lv_at hl 0 rfl) ?_
  refine lv_iload_n hx hb dL_law_913 rfl (lv_at hl 3 rfl) ?_
  refine lv_iconst (v := 1) hx hb dL_law_914 (by decide) ?_
  refine lv_iadd hx hb dL_law_915 ?_
  refine va_sld hx hb hX hbl hbA G.2.2 (lw_in (j := 1) (by decide) (by omega) hL) dL_law_916 ?_
  refine lv_aload_n hx hb dL_law_917 rfl (lv_at hl 0 rfl) ?_
  refine lv_iload_n hx hb dL_law_918 rfl (lv_at hl 3 rfl) ?_
  refine lv_iconst (v := 2) hx hb dL_law_919 (by decide) ?_
  refine lv_iadd hx hb dL_law_920 ?_
  refine va_sld hx hb hX hbl hbA G.2.2 (lw_in (j := 2) (by decide) (by omega) hL) dL_law_921 ?_
  refine lv_aload_n hx hb dL_law_922 rfl (lv_at hl 0 rfl) ?_
  refine lv_iload_n hx hb dL_law_923 rfl (lv_at hl 3 rfl) ?_
  refine lv_iconst (v := 3) hx hb dL_law_924 (by decide) ?_
  refine lv_iadd hx hb dL_law_925 ?_
  refine va_sld hx hb hX hbl hbA G.2.2 (lw_in (j := 3) (by decide) (by omega) hL) dL_law_926 ?_
  refine law_Xi (As := [.int (xs (nI i + 1).toNatClampNeg), .int (xs (nI i + 2).toNatClampNeg), .int (xs (nI i + 3).toNatClampNeg)]) (rest := []) C G (c_X9_layerTold l D ad cs C.1.2.2.1 x (xs (nI i + 1).toNatClampNeg) (xs (nI i + 2).toNatClampNeg) (xs (nI i + 3).toNatClampNeg) r x' e1) (cwV 3 C.1.1.2.2.2.2 gL_law_X9_layerTold rfl rfl rfl (by decide +kernel) ⟨Nat.le_of_ble_eq_true rfl, Nat.le_of_ble_eq_true rfl⟩) rfl hl rfl (Nat.le_of_ble_eq_true rfl) dL_law_927 (fun H locs G => ?_)
  refine lv_aload_n hx hb dL_law_930 rfl (lv_at hl 2 rfl) ?_
  refine lv_aload_n hx hb dL_law_931 rfl (lv_at hl 0 rfl) ?_
  refine lv_iload_n hx hb dL_law_932 rfl (lv_at hl 3 rfl) ?_
  refine lv_iconst (v := 1) hx hb dL_law_933 (by decide) ?_
  refine lv_iadd hx hb dL_law_934 ?_
  refine va_sld hx hb hX hbl hbA G.2.2 (lw_in (j := 1) (by decide) (by omega) hL) dL_law_935 ?_
  refine lv_aload_n hx hb dL_law_936 rfl (lv_at hl 0 rfl) ?_
  refine lv_iload_n hx hb dL_law_937 rfl (lv_at hl 3 rfl) ?_
  refine lv_iconst (v := 2) hx hb dL_law_938 (by decide) ?_
  refine lv_iadd hx hb dL_law_939 ?_
  refine va_sld hx hb hX hbl hbA G.2.2 (lw_in (j := 2) (by decide) (by omega) hL) dL_law_940 ?_
  refine lv_aload_n hx hb dL_law_941 rfl (lv_at hl 0 rfl) ?_
  refine lv_iload_n hx hb dL_law_942 rfl (lv_at hl 3 rfl) ?_
  refine lv_iconst (v := 3) hx hb dL_law_943 (by decide) ?_
  refine lv_iadd hx hb dL_law_944 ?_
  refine va_sld hx hb hX hbl hbA G.2.2 (lw_in (j := 3) (by decide) (by omega) hL) dL_law_945 ?_
  refine law_Mi (As := [.int (xs (nI i + 1).toNatClampNeg), .int (xs (nI i + 2).toNatClampNeg), .int (xs (nI i + 3).toNatClampNeg)]) (rest := [.int r]) C G (c_X10_layerTold l D adM cs C.2.1.2.2.1 y (xs (nI i + 1).toNatClampNeg) (xs (nI i + 2).toNatClampNeg) (xs (nI i + 3).toNatClampNeg) r y' e2) (cwV 3 C.1.1.2.2.2.2 gL_law_X10_layerTold rfl rfl rfl (by decide +kernel) ⟨Nat.le_of_ble_eq_true rfl, Nat.le_of_ble_eq_true rfl⟩) rfl hl rfl (Nat.le_of_ble_eq_true rfl) dL_law_946 (fun H locs G => ?_)
  refine lv_icmp_eq (tgt := 1574) hx hb dL_law_949 (by decide) (fun _ => ?_) (fun q => absurd rfl q)
  exact hnext x' y' H locs ls hR' G hl
set_option maxHeartbeats 4000000 in
set_option maxRecDepth 100000 in
theorem law_c20 {p : Program} {l : Launch} {e : Env} {s : State} {m : MethodId} {below : List Frame} {meth : Method} {c : Code} {D : va_G} {ad adM : Nat → Nat} {cs : Nat → ClassId} {b L : Nat} {xs : Nat → Int32} {i : Nat} (C : lC p s m c D ad adM cs b L xs) (hi : i + 6 ≤ L) (hnext : ∀ (x y : St) (H : Heap) (locs : List Loc) (ls : Array Slot), Rel x y → uL D ad adM cs s x y H locs → lv_has ls 4 [(0, .ref b), (1, .ref (ad 0)), (2, .ref (adM 0)), (3, .int (nI i))] → W p l e room_1 s m #[.ref b] below meth c H locs 133 3502 (lw_Z below #[Value.ref b] s) (F0 m 1574 ls [])) :
    ∀ (x y : St) (H : Heap) (locs : List Loc) (ls : Array Slot), Rel x y → uL D ad adM cs s x y H locs → lv_has ls 4 [(0, .ref b), (1, .ref (ad 0)), (2, .ref (adM 0)), (3, .int (nI i))] → W p l e room_1 s m #[.ref b] below meth c H locs 133 3502 (lw_Z below #[Value.ref b] s) (F0 m 954 ls []) := by
  intro x y H locs ls hR G hl
  have hx := C.1.1.1
  have hb := C.1.1.2.1
  obtain ⟨hX, hbl, hL⟩ := C.2.2.2
  have hbA : ¬ (fun q : Nat => s.heap.size ≤ q) b := Nat.not_le.mpr hbl
  obtain ⟨r, x', y', e1, e2, hR'⟩ := op_faded hR (xs (nI i + 1).toNatClampNeg)
  refine lv_aload_n hx hb dL_law_954 rfl (lv_at hl 1 rfl) ?_
  refine lv_aload_n hx hb dL_law_955 rfl (lv_at hl 0 rfl) ?_
  refine lv_iload_n hx hb dL_law_956 rfl (lv_at hl 3 rfl) ?_
  refine lv_iconst (v := 1) hx hb dL_law_957 (by decide) ?_
  refine lv_iadd hx hb dL_law_958 ?_
  refine va_sld hx hb hX hbl hbA G.2.2 (lw_in (j := 1) (by decide) (by omega) hL) dL_law_959 ?_
  refine law_Xi (As := [.int (xs (nI i + 1).toNatClampNeg)]) (rest := []) C G (c_X9_faded l D ad cs C.1.2.2.1 x (xs (nI i + 1).toNatClampNeg) r x' e1) (cwV 1 C.1.1.2.2.2.2 gL_law_X9_faded rfl rfl rfl (by decide +kernel) ⟨Nat.le_of_ble_eq_true rfl, Nat.le_of_ble_eq_true rfl⟩) rfl hl rfl (Nat.le_of_ble_eq_true rfl) dL_law_960 (fun H locs G => ?_)
  refine lv_aload_n hx hb dL_law_963 rfl (lv_at hl 2 rfl) ?_
  refine lv_aload_n hx hb dL_law_964 rfl (lv_at hl 0 rfl) ?_
  refine lv_iload_n hx hb dL_law_965 rfl (lv_at hl 3 rfl) ?_
  refine lv_iconst (v := 1) hx hb dL_law_966 (by decide) ?_
  refine lv_iadd hx hb dL_law_967 ?_
  refine va_sld hx hb hX hbl hbA G.2.2 (lw_in (j := 1) (by decide) (by omega) hL) dL_law_968 ?_
  refine law_Mi (As := [.int (xs (nI i + 1).toNatClampNeg)]) (rest := [.int r]) C G (c_X10_faded l D adM cs C.2.1.2.2.1 y (xs (nI i + 1).toNatClampNeg) r y' e2) (cwV 1 C.1.1.2.2.2.2 gL_law_X10_faded rfl rfl rfl (by decide +kernel) ⟨Nat.le_of_ble_eq_true rfl, Nat.le_of_ble_eq_true rfl⟩) rfl hl rfl (Nat.le_of_ble_eq_true rfl) dL_law_969 (fun H locs G => ?_)
  refine lv_icmp_eq (tgt := 1574) hx hb dL_law_972 (by decide) (fun _ => ?_) (fun q => absurd rfl q)
  exact hnext x' y' H locs ls hR' G hl
set_option maxHeartbeats 4000000 in
set_option maxRecDepth 100000 in
theorem law_c21 {p : Program} {l : Launch} {e : Env} {s : State} {m : MethodId} {below : List Frame} {meth : Method} {c : Code} {D : va_G} {ad adM : Nat → Nat} {cs : Nat → ClassId} {b L : Nat} {xs : Nat → Int32} {i : Nat} (C : lC p s m c D ad adM cs b L xs) (hi : i + 6 ≤ L) (hnext : ∀ (x y : St) (H : Heap) (locs : List Loc) (ls : Array Slot), Rel x y → uL D ad adM cs s x y H locs → lv_has ls 4 [(0, .ref b), (1, .ref (ad 0)), (2, .ref (adM 0)), (3, .int (nI i))] → W p l e room_1 s m #[.ref b] below meth c H locs 133 3502 (lw_Z below #[Value.ref b] s) (F0 m 1574 ls [])) :
    ∀ (x y : St) (H : Heap) (locs : List Loc) (ls : Array Slot), Rel x y → uL D ad adM cs s x y H locs → lv_has ls 4 [(0, .ref b), (1, .ref (ad 0)), (2, .ref (adM 0)), (3, .int (nI i))] → W p l e room_1 s m #[.ref b] below meth c H locs 133 3502 (lw_Z below #[Value.ref b] s) (F0 m 977 ls []) := by
  intro x y H locs ls hR G hl
  have hx := C.1.1.1
  have hb := C.1.1.2.1
  obtain ⟨hX, hbl, hL⟩ := C.2.2.2
  have hbA : ¬ (fun q : Nat => s.heap.size ≤ q) b := Nat.not_le.mpr hbl
  obtain ⟨r, x', y', e1, e2, hR'⟩ := op_two hR (xs (nI i + 1).toNatClampNeg) (xs (nI i + 2).toNatClampNeg) (xs (nI i + 3).toNatClampNeg) (xs (nI i + 4).toNatClampNeg)
  refine lv_aload_n hx hb dL_law_977 rfl (lv_at hl 1 rfl) ?_
  refine lv_aload_n hx hb dL_law_978 rfl (lv_at hl 0 rfl) ?_
  refine lv_iload_n hx hb dL_law_979 rfl (lv_at hl 3 rfl) ?_
  refine lv_iconst (v := 1) hx hb dL_law_980 (by decide) ?_
  refine lv_iadd hx hb dL_law_981 ?_
  refine va_sld hx hb hX hbl hbA G.2.2 (lw_in (j := 1) (by decide) (by omega) hL) dL_law_982 ?_
  refine lv_aload_n hx hb dL_law_983 rfl (lv_at hl 0 rfl) ?_
  refine lv_iload_n hx hb dL_law_984 rfl (lv_at hl 3 rfl) ?_
  refine lv_iconst (v := 2) hx hb dL_law_985 (by decide) ?_
  refine lv_iadd hx hb dL_law_986 ?_
  refine va_sld hx hb hX hbl hbA G.2.2 (lw_in (j := 2) (by decide) (by omega) hL) dL_law_987 ?_
  refine lv_aload_n hx hb dL_law_988 rfl (lv_at hl 0 rfl) ?_
  refine lv_iload_n hx hb dL_law_989 rfl (lv_at hl 3 rfl) ?_
  refine lv_iconst (v := 3) hx hb dL_law_990 (by decide) ?_
  refine lv_iadd hx hb dL_law_991 ?_
  refine va_sld hx hb hX hbl hbA G.2.2 (lw_in (j := 3) (by decide) (by omega) hL) dL_law_992 ?_
  refine lv_aload_n hx hb dL_law_993 rfl (lv_at hl 0 rfl) ?_
  refine lv_iload_n hx hb dL_law_994 rfl (lv_at hl 3 rfl) ?_
  refine lv_iconst (v := 4) hx hb dL_law_995 (by decide) ?_
  refine lv_iadd hx hb dL_law_996 ?_
  refine va_sld hx hb hX hbl hbA G.2.2 (lw_in (j := 4) (by decide) (by omega) hL) dL_law_997 ?_
  refine law_Xi (As := [.int (xs (nI i + 1).toNatClampNeg), .int (xs (nI i + 2).toNatClampNeg), .int (xs (nI i + 3).toNatClampNeg), .int (xs (nI i + 4).toNatClampNeg)]) (rest := []) C G (c_X9_two l D ad cs C.1.2.2.1 x (xs (nI i + 1).toNatClampNeg) (xs (nI i + 2).toNatClampNeg) (xs (nI i + 3).toNatClampNeg) (xs (nI i + 4).toNatClampNeg) r x' e1) (cwV 4 C.1.1.2.2.2.2 gL_law_X9_two rfl rfl rfl (by decide +kernel) ⟨Nat.le_of_ble_eq_true rfl, Nat.le_of_ble_eq_true rfl⟩) rfl hl rfl (Nat.le_of_ble_eq_true rfl) dL_law_998 (fun H locs G => ?_)
  refine lv_aload_n hx hb dL_law_1001 rfl (lv_at hl 2 rfl) ?_
  refine lv_aload_n hx hb dL_law_1002 rfl (lv_at hl 0 rfl) ?_
  refine lv_iload_n hx hb dL_law_1003 rfl (lv_at hl 3 rfl) ?_
  refine lv_iconst (v := 1) hx hb dL_law_1004 (by decide) ?_
  refine lv_iadd hx hb dL_law_1005 ?_
  refine va_sld hx hb hX hbl hbA G.2.2 (lw_in (j := 1) (by decide) (by omega) hL) dL_law_1006 ?_
  refine lv_aload_n hx hb dL_law_1007 rfl (lv_at hl 0 rfl) ?_
  refine lv_iload_n hx hb dL_law_1008 rfl (lv_at hl 3 rfl) ?_
  refine lv_iconst (v := 2) hx hb dL_law_1009 (by decide) ?_
  refine lv_iadd hx hb dL_law_1010 ?_
  refine va_sld hx hb hX hbl hbA G.2.2 (lw_in (j := 2) (by decide) (by omega) hL) dL_law_1011 ?_
  refine lv_aload_n hx hb dL_law_1012 rfl (lv_at hl 0 rfl) ?_
  refine lv_iload_n hx hb dL_law_1013 rfl (lv_at hl 3 rfl) ?_
  refine lv_iconst (v := 3) hx hb dL_law_1014 (by decide) ?_
  refine lv_iadd hx hb dL_law_1015 ?_
  refine va_sld hx hb hX hbl hbA G.2.2 (lw_in (j := 3) (by decide) (by omega) hL) dL_law_1016 ?_
  refine lv_aload_n hx hb dL_law_1017 rfl (lv_at hl 0 rfl) ?_
  refine lv_iload_n hx hb dL_law_1018 rfl (lv_at hl 3 rfl) ?_
  refine lv_iconst (v := 4) hx hb dL_law_1019 (by decide) ?_
  refine lv_iadd hx hb dL_law_1020 ?_
  refine va_sld hx hb hX hbl hbA G.2.2 (lw_in (j := 4) (by decide) (by omega) hL) dL_law_1021 ?_
  refine law_Mi (As := [.int (xs (nI i + 1).toNatClampNeg), .int (xs (nI i + 2).toNatClampNeg), .int (xs (nI i + 3).toNatClampNeg), .int (xs (nI i + 4).toNatClampNeg)]) (rest := [.int r]) C G (c_X10_two l D adM cs C.2.1.2.2.1 y (xs (nI i + 1).toNatClampNeg) (xs (nI i + 2).toNatClampNeg) (xs (nI i + 3).toNatClampNeg) (xs (nI i + 4).toNatClampNeg) r y' e2) (cwV 4 C.1.1.2.2.2.2 gL_law_X10_two rfl rfl rfl (by decide +kernel) ⟨Nat.le_of_ble_eq_true rfl, Nat.le_of_ble_eq_true rfl⟩) rfl hl rfl (Nat.le_of_ble_eq_true rfl) dL_law_1022 (fun H locs G => ?_)
  refine lv_icmp_eq (tgt := 1574) hx hb dL_law_1025 (by decide) (fun _ => ?_) (fun q => absurd rfl q)
  exact hnext x' y' H locs ls hR' G hl
