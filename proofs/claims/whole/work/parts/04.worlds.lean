/-! ===== the cells of the class's object (99) and of the reference's (34) ===== -/
def tyX (cs : Nat → ClassId) : List (ClassId × FieldType) := [(cs 0, .int), (cs 1, .byte), (cs 2, .boolean), (cs 3, .object "GhostSigns$Line"), (cs 4, .array .byte), (cs 5, .array .int)]
def enXl (ad : Nat → Nat) (cs : Nat → ClassId) (f : Nat → Int32) : List va_E := [.inr (9, [.ref (ad 1), .ref (ad 8), .ref (ad 34), .ref (ad 71), .ref (ad 75), .ref (ad 80), .ref (ad 83), .ref (ad 86), .ref (ad 91), .ref (ad 96), .ref (ad 97), .ref (ad 98), .int (f 12), .int (f 13)]), .inr (5, [.ref (ad 2), .ref (ad 3)]), .inl (cs 4, 4, .inr (.inr (.inr (.inr (fun i => if i < 4 then some (ad (4 + i)) else none))))), .inl (cs 0, 4, .inl f), .inl (cs 1, 10, .inl f), .inl (cs 1, 10, .inl f), .inl (cs 1, 10, .inl f), .inl (cs 1, 10, .inl f), .inr (8, [.ref (ad 9), .ref (ad 10), .ref (ad 11), .ref (ad 12), .ref (ad 13), .ref (ad 14), .ref (ad 15), .ref (ad 16), .ref (ad 17), .int (f 9)]), .inl (cs 0, 26, .inl f), .inl (cs 4, 16, .inr (.inr (.inr (.inr (fun i => if i < 16 then some (ad (18 + i)) else none))))), .inl (cs 0, 16, .inl f), .inl (cs 0, 16, .inl f), .inl (cs 0, 16, .inl f), .inl (cs 0, 16, .inl f), .inl (cs 0, 16, .inl f), .inl (cs 0, 16, .inl f), .inl (cs 2, 16, .inl f), .inl (cs 1, 8, .inl f), .inl (cs 1, 8, .inl f), .inl (cs 1, 8, .inl f), .inl (cs 1, 8, .inl f), .inl (cs 1, 8, .inl f), .inl (cs 1, 8, .inl f), .inl (cs 1, 8, .inl f), .inl (cs 1, 8, .inl f), .inl (cs 1, 8, .inl f), .inl (cs 1, 8, .inl f), .inl (cs 1, 8, .inl f), .inl (cs 1, 8, .inl f), .inl (cs 1, 8, .inl f), .inl (cs 1, 8, .inl f), .inl (cs 1, 8, .inl f), .inl (cs 1, 8, .inl f), .inl (cs 3, 4, .inr (.inr (.inr (.inr (fun i => if i < 4 then some (ad (35 + 9 * i)) else none))))), .inr (2, [.ref (ad 36), .ref (ad 41), .ref (ad 42), .ref (ad 43), .int (f 4)]), .inl (cs 5, 4, .inr (.inr (.inr (.inr (fun i => if i < 4 then some (ad (35 + 2 + i)) else none))))), .inl (cs 0, 10, .inl f), .inl (cs 0, 10, .inl f), .inl (cs 0, 10, .inl f), .inl (cs 0, 10, .inl f), .inl (cs 0, 3, .inl f), .inl (cs 0, 3, .inl f), .inl (cs 0, 3, .inl f), .inr (2, [.ref (ad 45), .ref (ad 50), .ref (ad 51), .ref (ad 52), .int (f 4)]), .inl (cs 5, 4, .inr (.inr (.inr (.inr (fun i => if i < 4 then some (ad (44 + 2 + i)) else none))))), .inl (cs 0, 10, .inl f), .inl (cs 0, 10, .inl f), .inl (cs 0, 10, .inl f), .inl (cs 0, 10, .inl f), .inl (cs 0, 3, .inl f), .inl (cs 0, 3, .inl f), .inl (cs 0, 3, .inl f), .inr (2, [.ref (ad 54), .ref (ad 59), .ref (ad 60), .ref (ad 61), .int (f 4)]), .inl (cs 5, 4, .inr (.inr (.inr (.inr (fun i => if i < 4 then some (ad (53 + 2 + i)) else none))))), .inl (cs 0, 10, .inl f), .inl (cs 0, 10, .inl f), .inl (cs 0, 10, .inl f), .inl (cs 0, 10, .inl f), .inl (cs 0, 3, .inl f), .inl (cs 0, 3, .inl f), .inl (cs 0, 3, .inl f), .inr (2, [.ref (ad 63), .ref (ad 68), .ref (ad 69), .ref (ad 70), .int (f 4)]), .inl (cs 5, 4, .inr (.inr (.inr (.inr (fun i => if i < 4 then some (ad (62 + 2 + i)) else none))))), .inl (cs 0, 10, .inl f), .inl (cs 0, 10, .inl f), .inl (cs 0, 10, .inl f), .inl (cs 0, 10, .inl f), .inl (cs 0, 3, .inl f), .inl (cs 0, 3, .inl f), .inl (cs 0, 3, .inl f), .inr (6, [.ref (ad 72), .ref (ad 73), .ref (ad 74), .int (f 3), .int (f 4), .int (f 5)]), .inl (cs 0, 8, .inl f), .inl (cs 0, 8, .inl f), .inl (cs 0, 8, .inl f), .inr (1, [.ref (ad 76), .ref (ad 77), .ref (ad 78), .ref (ad 79), .int (f 4)]), .inl (cs 0, 30, .inl f), .inl (cs 0, 30, .inl f), .inl (cs 0, 30, .inl f), .inl (cs 0, 30, .inl f), .inr (0, [.ref (ad 81), .ref (ad 82), .int (f 2)]), .inl (cs 0, 12, .inl f), .inl (cs 0, 12, .inl f), .inr (7, [.ref (ad 84), .ref (ad 85), .int (f 2), .int (f 3)]), .inl (cs 0, 12, .inl f), .inl (cs 0, 12, .inl f), .inr (4, [.ref (ad 87), .ref (ad 88), .ref (ad 89), .ref (ad 90), .int (f 4)]), .inl (cs 0, 160, .inl f), .inl (cs 0, 160, .inl f), .inl (cs 0, 160, .inl f), .inl (cs 0, 160, .inl f), .inr (4, [.ref (ad 92), .ref (ad 93), .ref (ad 94), .ref (ad 95), .int (f 4)]), .inl (cs 0, 160, .inl f), .inl (cs 0, 160, .inl f), .inl (cs 0, 160, .inl f), .inl (cs 0, 160, .inl f), .inr (3, [.int (f 0), .int (f 1), .int (f 2), .int (f 3)]), .inl (cs 0, 10, .inl f), .inl (cs 0, 6, .inl f)]
def enX (ad : Nat → Nat) (cs : Nat → ClassId) (k : Nat) (f : Nat → Int32) : va_E := (enXl ad cs f).getD k (.inr (0, []))
theorem obX_0 {ad : Nat → Nat} {cs : Nat → ClassId} : uO 99 (enX ad cs) 0 9 (fun f => [.ref (ad 1), .ref (ad 8), .ref (ad 34), .ref (ad 71), .ref (ad 75), .ref (ad 80), .ref (ad 83), .ref (ad 86), .ref (ad 91), .ref (ad 96), .ref (ad 97), .ref (ad 98), .int (f 12), .int (f 13)]) := ⟨by decide, fun f => rfl⟩
theorem obX_1 {ad : Nat → Nat} {cs : Nat → ClassId} : uO 99 (enX ad cs) 1 5 (fun f => [.ref (ad 2), .ref (ad 3)]) := ⟨by decide, fun f => rfl⟩
theorem arX_3 {ad : Nat → Nat} {cs : Nat → ClassId} : uA 99 (enX ad cs) 3 (cs 0) 4 := ⟨by decide, fun f => rfl⟩
theorem obX_8 {ad : Nat → Nat} {cs : Nat → ClassId} : uO 99 (enX ad cs) 8 8 (fun f => [.ref (ad 9), .ref (ad 10), .ref (ad 11), .ref (ad 12), .ref (ad 13), .ref (ad 14), .ref (ad 15), .ref (ad 16), .ref (ad 17), .int (f 9)]) := ⟨by decide, fun f => rfl⟩
theorem arX_9 {ad : Nat → Nat} {cs : Nat → ClassId} : uA 99 (enX ad cs) 9 (cs 0) 26 := ⟨by decide, fun f => rfl⟩
theorem arX_11 {ad : Nat → Nat} {cs : Nat → ClassId} : uA 99 (enX ad cs) 11 (cs 0) 16 := ⟨by decide, fun f => rfl⟩
theorem arX_12 {ad : Nat → Nat} {cs : Nat → ClassId} : uA 99 (enX ad cs) 12 (cs 0) 16 := ⟨by decide, fun f => rfl⟩
theorem arX_13 {ad : Nat → Nat} {cs : Nat → ClassId} : uA 99 (enX ad cs) 13 (cs 0) 16 := ⟨by decide, fun f => rfl⟩
theorem arX_14 {ad : Nat → Nat} {cs : Nat → ClassId} : uA 99 (enX ad cs) 14 (cs 0) 16 := ⟨by decide, fun f => rfl⟩
theorem arX_15 {ad : Nat → Nat} {cs : Nat → ClassId} : uA 99 (enX ad cs) 15 (cs 0) 16 := ⟨by decide, fun f => rfl⟩
theorem arX_16 {ad : Nat → Nat} {cs : Nat → ClassId} : uA 99 (enX ad cs) 16 (cs 0) 16 := ⟨by decide, fun f => rfl⟩
theorem arX_17 {ad : Nat → Nat} {cs : Nat → ClassId} : uA 99 (enX ad cs) 17 (cs 2) 16 := ⟨by decide, fun f => rfl⟩
theorem obX_71 {ad : Nat → Nat} {cs : Nat → ClassId} : uO 99 (enX ad cs) 71 6 (fun f => [.ref (ad 72), .ref (ad 73), .ref (ad 74), .int (f 3), .int (f 4), .int (f 5)]) := ⟨by decide, fun f => rfl⟩
theorem arX_72 {ad : Nat → Nat} {cs : Nat → ClassId} : uA 99 (enX ad cs) 72 (cs 0) 8 := ⟨by decide, fun f => rfl⟩
theorem arX_73 {ad : Nat → Nat} {cs : Nat → ClassId} : uA 99 (enX ad cs) 73 (cs 0) 8 := ⟨by decide, fun f => rfl⟩
theorem arX_74 {ad : Nat → Nat} {cs : Nat → ClassId} : uA 99 (enX ad cs) 74 (cs 0) 8 := ⟨by decide, fun f => rfl⟩
theorem obX_75 {ad : Nat → Nat} {cs : Nat → ClassId} : uO 99 (enX ad cs) 75 1 (fun f => [.ref (ad 76), .ref (ad 77), .ref (ad 78), .ref (ad 79), .int (f 4)]) := ⟨by decide, fun f => rfl⟩
theorem arX_76 {ad : Nat → Nat} {cs : Nat → ClassId} : uA 99 (enX ad cs) 76 (cs 0) 30 := ⟨by decide, fun f => rfl⟩
theorem arX_77 {ad : Nat → Nat} {cs : Nat → ClassId} : uA 99 (enX ad cs) 77 (cs 0) 30 := ⟨by decide, fun f => rfl⟩
theorem arX_78 {ad : Nat → Nat} {cs : Nat → ClassId} : uA 99 (enX ad cs) 78 (cs 0) 30 := ⟨by decide, fun f => rfl⟩
theorem arX_79 {ad : Nat → Nat} {cs : Nat → ClassId} : uA 99 (enX ad cs) 79 (cs 0) 30 := ⟨by decide, fun f => rfl⟩
theorem obX_80 {ad : Nat → Nat} {cs : Nat → ClassId} : uO 99 (enX ad cs) 80 0 (fun f => [.ref (ad 81), .ref (ad 82), .int (f 2)]) := ⟨by decide, fun f => rfl⟩
theorem arX_81 {ad : Nat → Nat} {cs : Nat → ClassId} : uA 99 (enX ad cs) 81 (cs 0) 12 := ⟨by decide, fun f => rfl⟩
theorem arX_82 {ad : Nat → Nat} {cs : Nat → ClassId} : uA 99 (enX ad cs) 82 (cs 0) 12 := ⟨by decide, fun f => rfl⟩
theorem obX_83 {ad : Nat → Nat} {cs : Nat → ClassId} : uO 99 (enX ad cs) 83 7 (fun f => [.ref (ad 84), .ref (ad 85), .int (f 2), .int (f 3)]) := ⟨by decide, fun f => rfl⟩
theorem arX_84 {ad : Nat → Nat} {cs : Nat → ClassId} : uA 99 (enX ad cs) 84 (cs 0) 12 := ⟨by decide, fun f => rfl⟩
theorem arX_85 {ad : Nat → Nat} {cs : Nat → ClassId} : uA 99 (enX ad cs) 85 (cs 0) 12 := ⟨by decide, fun f => rfl⟩
theorem obX_96 {ad : Nat → Nat} {cs : Nat → ClassId} : uO 99 (enX ad cs) 96 3 (fun f => [.int (f 0), .int (f 1), .int (f 2), .int (f 3)]) := ⟨by decide, fun f => rfl⟩
theorem arX_97 {ad : Nat → Nat} {cs : Nat → ClassId} : uA 99 (enX ad cs) 97 (cs 0) 10 := ⟨by decide, fun f => rfl⟩
theorem arX_98 {ad : Nat → Nat} {cs : Nat → ClassId} : uA 99 (enX ad cs) 98 (cs 0) 6 := ⟨by decide, fun f => rfl⟩
theorem rrX_2 {ad : Nat → Nat} {cs : Nat → ClassId} : uR 99 ad (enX ad cs) 2 (cs 4) 4 (fun i => 4 + i) := ⟨by decide, _, fun f => rfl, fun i hi => if_pos hi⟩
theorem rrX_10 {ad : Nat → Nat} {cs : Nat → ClassId} : uR 99 ad (enX ad cs) 10 (cs 4) 16 (fun i => 18 + i) := ⟨by decide, _, fun f => rfl, fun i hi => if_pos hi⟩
theorem rrX_34 {ad : Nat → Nat} {cs : Nat → ClassId} : uR 99 ad (enX ad cs) 34 (cs 3) 4 (fun i => 35 + 9 * i) := ⟨by decide, _, fun f => rfl, fun i hi => if_pos hi⟩
theorem arX_srow {ad : Nat → Nat} {cs : Nat → ClassId} {i : Nat} (h : i < 4) : uA 99 (enX ad cs) (4 + i) (cs 1) 10 := by
  match i, h with
  | 0, _ => exact ⟨by decide, fun f => rfl⟩
  | 1, _ => exact ⟨by decide, fun f => rfl⟩
  | 2, _ => exact ⟨by decide, fun f => rfl⟩
  | 3, _ => exact ⟨by decide, fun f => rfl⟩
theorem arX_lrow {ad : Nat → Nat} {cs : Nat → ClassId} {i : Nat} (h : i < 16) : uA 99 (enX ad cs) (18 + i) (cs 1) 8 := by
  match i, h with
  | 0, _ => exact ⟨by decide, fun f => rfl⟩
  | 1, _ => exact ⟨by decide, fun f => rfl⟩
  | 2, _ => exact ⟨by decide, fun f => rfl⟩
  | 3, _ => exact ⟨by decide, fun f => rfl⟩
  | 4, _ => exact ⟨by decide, fun f => rfl⟩
  | 5, _ => exact ⟨by decide, fun f => rfl⟩
  | 6, _ => exact ⟨by decide, fun f => rfl⟩
  | 7, _ => exact ⟨by decide, fun f => rfl⟩
  | 8, _ => exact ⟨by decide, fun f => rfl⟩
  | 9, _ => exact ⟨by decide, fun f => rfl⟩
  | 10, _ => exact ⟨by decide, fun f => rfl⟩
  | 11, _ => exact ⟨by decide, fun f => rfl⟩
  | 12, _ => exact ⟨by decide, fun f => rfl⟩
  | 13, _ => exact ⟨by decide, fun f => rfl⟩
  | 14, _ => exact ⟨by decide, fun f => rfl⟩
  | 15, _ => exact ⟨by decide, fun f => rfl⟩
  | n + 16, h => exact absurd h (by omega)
theorem obX_line {ad : Nat → Nat} {cs : Nat → ClassId} {i : Nat} (h : i < 4) : uO 99 (enX ad cs) (35 + 9 * i) 2 (fun f => [.ref (ad (35 + 9 * i + 1)), .ref (ad (35 + 9 * i + 6)), .ref (ad (35 + 9 * i + 7)), .ref (ad (35 + 9 * i + 8)), .int (f 4)]) := by
  match i, h with
  | 0, _ => exact ⟨by decide, fun f => rfl⟩
  | 1, _ => exact ⟨by decide, fun f => rfl⟩
  | 2, _ => exact ⟨by decide, fun f => rfl⟩
  | 3, _ => exact ⟨by decide, fun f => rfl⟩
theorem arX_lw {ad : Nat → Nat} {cs : Nat → ClassId} {i : Nat} (h : i < 4) : uA 99 (enX ad cs) (35 + 9 * i + 6) (cs 0) 3 := by
  match i, h with
  | 0, _ => exact ⟨by decide, fun f => rfl⟩
  | 1, _ => exact ⟨by decide, fun f => rfl⟩
  | 2, _ => exact ⟨by decide, fun f => rfl⟩
  | 3, _ => exact ⟨by decide, fun f => rfl⟩
theorem arX_lsl {ad : Nat → Nat} {cs : Nat → ClassId} {i : Nat} (h : i < 4) : uA 99 (enX ad cs) (35 + 9 * i + 7) (cs 0) 3 := by
  match i, h with
  | 0, _ => exact ⟨by decide, fun f => rfl⟩
  | 1, _ => exact ⟨by decide, fun f => rfl⟩
  | 2, _ => exact ⟨by decide, fun f => rfl⟩
  | 3, _ => exact ⟨by decide, fun f => rfl⟩
theorem arX_lc {ad : Nat → Nat} {cs : Nat → ClassId} {i : Nat} (h : i < 4) : uA 99 (enX ad cs) (35 + 9 * i + 8) (cs 0) 3 := by
  match i, h with
  | 0, _ => exact ⟨by decide, fun f => rfl⟩
  | 1, _ => exact ⟨by decide, fun f => rfl⟩
  | 2, _ => exact ⟨by decide, fun f => rfl⟩
  | 3, _ => exact ⟨by decide, fun f => rfl⟩
theorem rrX_cells {ad : Nat → Nat} {cs : Nat → ClassId} {i : Nat} (h : i < 4) : uR 99 ad (enX ad cs) (35 + 9 * i + 1) (cs 5) 4 (fun j => 35 + 9 * i + 2 + j) := by
  match i, h with
  | 0, _ => exact ⟨by decide, _, fun f => rfl, fun i hi => if_pos hi⟩
  | 1, _ => exact ⟨by decide, _, fun f => rfl, fun i hi => if_pos hi⟩
  | 2, _ => exact ⟨by decide, _, fun f => rfl, fun i hi => if_pos hi⟩
  | 3, _ => exact ⟨by decide, _, fun f => rfl, fun i hi => if_pos hi⟩
theorem arX_crow {ad : Nat → Nat} {cs : Nat → ClassId} {i j : Nat} (h : i < 4) (g : j < 4) : uA 99 (enX ad cs) (35 + 9 * i + 2 + j) (cs 0) 10 := by
  match i, h, j, g with
  | 0, _, 0, _ => exact ⟨by decide, fun f => rfl⟩
  | 0, _, 1, _ => exact ⟨by decide, fun f => rfl⟩
  | 0, _, 2, _ => exact ⟨by decide, fun f => rfl⟩
  | 0, _, 3, _ => exact ⟨by decide, fun f => rfl⟩
  | 1, _, 0, _ => exact ⟨by decide, fun f => rfl⟩
  | 1, _, 1, _ => exact ⟨by decide, fun f => rfl⟩
  | 1, _, 2, _ => exact ⟨by decide, fun f => rfl⟩
  | 1, _, 3, _ => exact ⟨by decide, fun f => rfl⟩
  | 2, _, 0, _ => exact ⟨by decide, fun f => rfl⟩
  | 2, _, 1, _ => exact ⟨by decide, fun f => rfl⟩
  | 2, _, 2, _ => exact ⟨by decide, fun f => rfl⟩
  | 2, _, 3, _ => exact ⟨by decide, fun f => rfl⟩
  | 3, _, 0, _ => exact ⟨by decide, fun f => rfl⟩
  | 3, _, 1, _ => exact ⟨by decide, fun f => rfl⟩
  | 3, _, 2, _ => exact ⟨by decide, fun f => rfl⟩
  | 3, _, 3, _ => exact ⟨by decide, fun f => rfl⟩
theorem obX_places {ad : Nat → Nat} {cs : Nat → ClassId} {i : Nat} (h : i < 2) : uO 99 (enX ad cs) (86 + 5 * i) 4 (fun f => [.ref (ad (86 + 5 * i + 1)), .ref (ad (86 + 5 * i + 2)), .ref (ad (86 + 5 * i + 3)), .ref (ad (86 + 5 * i + 4)), .int (f 4)]) := by
  match i, h with
  | 0, _ => exact ⟨by decide, fun f => rfl⟩
  | 1, _ => exact ⟨by decide, fun f => rfl⟩
theorem arX_pl1 {ad : Nat → Nat} {cs : Nat → ClassId} {i : Nat} (h : i < 2) : uA 99 (enX ad cs) (86 + 5 * i + 1) (cs 0) 160 := by
  match i, h with
  | 0, _ => exact ⟨by decide, fun f => rfl⟩
  | 1, _ => exact ⟨by decide, fun f => rfl⟩
theorem arX_pl2 {ad : Nat → Nat} {cs : Nat → ClassId} {i : Nat} (h : i < 2) : uA 99 (enX ad cs) (86 + 5 * i + 2) (cs 0) 160 := by
  match i, h with
  | 0, _ => exact ⟨by decide, fun f => rfl⟩
  | 1, _ => exact ⟨by decide, fun f => rfl⟩
theorem arX_pl3 {ad : Nat → Nat} {cs : Nat → ClassId} {i : Nat} (h : i < 2) : uA 99 (enX ad cs) (86 + 5 * i + 3) (cs 0) 160 := by
  match i, h with
  | 0, _ => exact ⟨by decide, fun f => rfl⟩
  | 1, _ => exact ⟨by decide, fun f => rfl⟩
theorem arX_pl4 {ad : Nat → Nat} {cs : Nat → ClassId} {i : Nat} (h : i < 2) : uA 99 (enX ad cs) (86 + 5 * i + 4) (cs 0) 160 := by
  match i, h with
  | 0, _ => exact ⟨by decide, fun f => rfl⟩
  | 1, _ => exact ⟨by decide, fun f => rfl⟩
def tyM (cs : Nat → ClassId) : List (ClassId × FieldType) := [(cs 0, .int), (cs 1, .byte), (cs 2, .boolean)]
def enMl (ad : Nat → Nat) (cs : Nat → ClassId) (f : Nat → Int32) : List va_E := [.inr (10, [.int (f 0), .ref (ad 1), .int (f 2), .ref (ad 2), .ref (ad 3), .ref (ad 4), .ref (ad 5), .int (f 7), .ref (ad 6), .ref (ad 7), .ref (ad 8), .ref (ad 9), .ref (ad 10), .ref (ad 11), .ref (ad 12), .ref (ad 13), .ref (ad 14), .int (f 17), .ref (ad 15), .ref (ad 16), .ref (ad 17), .ref (ad 18), .ref (ad 19), .ref (ad 20), .int (f 24), .ref (ad 21), .int (f 26), .ref (ad 22), .ref (ad 23), .ref (ad 24), .int (f 30), .int (f 31), .int (f 32), .ref (ad 25), .ref (ad 26), .ref (ad 27), .ref (ad 28), .int (f 37), .ref (ad 29), .ref (ad 30), .int (f 40), .ref (ad 31), .ref (ad 32), .ref (ad 33)]), .inl (cs 0, 6, .inl f), .inl (cs 0, 26, .inl f), .inl (cs 0, 4, .inl f), .inl (cs 0, 40, .inl f), .inl (cs 0, 10, .inl f), .inl (cs 0, 16, .inl f), .inl (cs 0, 16, .inl f), .inl (cs 0, 128, .inl f), .inl (cs 2, 16, .inl f), .inl (cs 0, 16, .inl f), .inl (cs 0, 16, .inl f), .inl (cs 0, 16, .inl f), .inl (cs 0, 16, .inl f), .inl (cs 0, 600, .inl f), .inl (cs 0, 160, .inl f), .inl (cs 0, 4, .inl f), .inl (cs 0, 12, .inl f), .inl (cs 0, 12, .inl f), .inl (cs 0, 12, .inl f), .inl (cs 0, 6, .inl f), .inl (cs 0, 10, .inl f), .inl (cs 0, 8, .inl f), .inl (cs 0, 8, .inl f), .inl (cs 0, 8, .inl f), .inl (cs 0, 30, .inl f), .inl (cs 0, 30, .inl f), .inl (cs 0, 30, .inl f), .inl (cs 0, 30, .inl f), .inl (cs 0, 12, .inl f), .inl (cs 0, 12, .inl f), .inl (cs 0, 12, .inl f), .inl (cs 0, 12, .inl f), .inl (cs 2, 12, .inl f)]
def enM (ad : Nat → Nat) (cs : Nat → ClassId) (k : Nat) (f : Nat → Int32) : va_E := (enMl ad cs f).getD k (.inr (0, []))
theorem obM_0 {ad : Nat → Nat} {cs : Nat → ClassId} : uO 34 (enM ad cs) 0 10 (fun f => [.int (f 0), .ref (ad 1), .int (f 2), .ref (ad 2), .ref (ad 3), .ref (ad 4), .ref (ad 5), .int (f 7), .ref (ad 6), .ref (ad 7), .ref (ad 8), .ref (ad 9), .ref (ad 10), .ref (ad 11), .ref (ad 12), .ref (ad 13), .ref (ad 14), .int (f 17), .ref (ad 15), .ref (ad 16), .ref (ad 17), .ref (ad 18), .ref (ad 19), .ref (ad 20), .int (f 24), .ref (ad 21), .int (f 26), .ref (ad 22), .ref (ad 23), .ref (ad 24), .int (f 30), .int (f 31), .int (f 32), .ref (ad 25), .ref (ad 26), .ref (ad 27), .ref (ad 28), .int (f 37), .ref (ad 29), .ref (ad 30), .int (f 40), .ref (ad 31), .ref (ad 32), .ref (ad 33)]) := ⟨by decide, fun f => rfl⟩
theorem arM_1 {ad : Nat → Nat} {cs : Nat → ClassId} : uA 34 (enM ad cs) 1 (cs 0) 6 := ⟨by decide, fun f => rfl⟩
theorem arM_2 {ad : Nat → Nat} {cs : Nat → ClassId} : uA 34 (enM ad cs) 2 (cs 0) 26 := ⟨by decide, fun f => rfl⟩
theorem arM_3 {ad : Nat → Nat} {cs : Nat → ClassId} : uA 34 (enM ad cs) 3 (cs 0) 4 := ⟨by decide, fun f => rfl⟩
theorem arM_4 {ad : Nat → Nat} {cs : Nat → ClassId} : uA 34 (enM ad cs) 4 (cs 0) 40 := ⟨by decide, fun f => rfl⟩
theorem arM_5 {ad : Nat → Nat} {cs : Nat → ClassId} : uA 34 (enM ad cs) 5 (cs 0) 10 := ⟨by decide, fun f => rfl⟩
theorem arM_6 {ad : Nat → Nat} {cs : Nat → ClassId} : uA 34 (enM ad cs) 6 (cs 0) 16 := ⟨by decide, fun f => rfl⟩
theorem arM_7 {ad : Nat → Nat} {cs : Nat → ClassId} : uA 34 (enM ad cs) 7 (cs 0) 16 := ⟨by decide, fun f => rfl⟩
theorem arM_8 {ad : Nat → Nat} {cs : Nat → ClassId} : uA 34 (enM ad cs) 8 (cs 0) 128 := ⟨by decide, fun f => rfl⟩
theorem arM_9 {ad : Nat → Nat} {cs : Nat → ClassId} : uA 34 (enM ad cs) 9 (cs 2) 16 := ⟨by decide, fun f => rfl⟩
theorem arM_10 {ad : Nat → Nat} {cs : Nat → ClassId} : uA 34 (enM ad cs) 10 (cs 0) 16 := ⟨by decide, fun f => rfl⟩
theorem arM_11 {ad : Nat → Nat} {cs : Nat → ClassId} : uA 34 (enM ad cs) 11 (cs 0) 16 := ⟨by decide, fun f => rfl⟩
theorem arM_12 {ad : Nat → Nat} {cs : Nat → ClassId} : uA 34 (enM ad cs) 12 (cs 0) 16 := ⟨by decide, fun f => rfl⟩
theorem arM_13 {ad : Nat → Nat} {cs : Nat → ClassId} : uA 34 (enM ad cs) 13 (cs 0) 16 := ⟨by decide, fun f => rfl⟩
theorem arM_14 {ad : Nat → Nat} {cs : Nat → ClassId} : uA 34 (enM ad cs) 14 (cs 0) 600 := ⟨by decide, fun f => rfl⟩
theorem arM_15 {ad : Nat → Nat} {cs : Nat → ClassId} : uA 34 (enM ad cs) 15 (cs 0) 160 := ⟨by decide, fun f => rfl⟩
theorem arM_16 {ad : Nat → Nat} {cs : Nat → ClassId} : uA 34 (enM ad cs) 16 (cs 0) 4 := ⟨by decide, fun f => rfl⟩
theorem arM_17 {ad : Nat → Nat} {cs : Nat → ClassId} : uA 34 (enM ad cs) 17 (cs 0) 12 := ⟨by decide, fun f => rfl⟩
theorem arM_18 {ad : Nat → Nat} {cs : Nat → ClassId} : uA 34 (enM ad cs) 18 (cs 0) 12 := ⟨by decide, fun f => rfl⟩
theorem arM_19 {ad : Nat → Nat} {cs : Nat → ClassId} : uA 34 (enM ad cs) 19 (cs 0) 12 := ⟨by decide, fun f => rfl⟩
theorem arM_20 {ad : Nat → Nat} {cs : Nat → ClassId} : uA 34 (enM ad cs) 20 (cs 0) 6 := ⟨by decide, fun f => rfl⟩
theorem arM_21 {ad : Nat → Nat} {cs : Nat → ClassId} : uA 34 (enM ad cs) 21 (cs 0) 10 := ⟨by decide, fun f => rfl⟩
theorem arM_22 {ad : Nat → Nat} {cs : Nat → ClassId} : uA 34 (enM ad cs) 22 (cs 0) 8 := ⟨by decide, fun f => rfl⟩
theorem arM_23 {ad : Nat → Nat} {cs : Nat → ClassId} : uA 34 (enM ad cs) 23 (cs 0) 8 := ⟨by decide, fun f => rfl⟩
theorem arM_24 {ad : Nat → Nat} {cs : Nat → ClassId} : uA 34 (enM ad cs) 24 (cs 0) 8 := ⟨by decide, fun f => rfl⟩
theorem arM_25 {ad : Nat → Nat} {cs : Nat → ClassId} : uA 34 (enM ad cs) 25 (cs 0) 30 := ⟨by decide, fun f => rfl⟩
theorem arM_26 {ad : Nat → Nat} {cs : Nat → ClassId} : uA 34 (enM ad cs) 26 (cs 0) 30 := ⟨by decide, fun f => rfl⟩
theorem arM_27 {ad : Nat → Nat} {cs : Nat → ClassId} : uA 34 (enM ad cs) 27 (cs 0) 30 := ⟨by decide, fun f => rfl⟩
theorem arM_28 {ad : Nat → Nat} {cs : Nat → ClassId} : uA 34 (enM ad cs) 28 (cs 0) 30 := ⟨by decide, fun f => rfl⟩
theorem arM_29 {ad : Nat → Nat} {cs : Nat → ClassId} : uA 34 (enM ad cs) 29 (cs 0) 12 := ⟨by decide, fun f => rfl⟩
theorem arM_30 {ad : Nat → Nat} {cs : Nat → ClassId} : uA 34 (enM ad cs) 30 (cs 0) 12 := ⟨by decide, fun f => rfl⟩
theorem arM_31 {ad : Nat → Nat} {cs : Nat → ClassId} : uA 34 (enM ad cs) 31 (cs 0) 12 := ⟨by decide, fun f => rfl⟩
theorem arM_32 {ad : Nat → Nat} {cs : Nat → ClassId} : uA 34 (enM ad cs) 32 (cs 0) 12 := ⟨by decide, fun f => rfl⟩
theorem arM_33 {ad : Nat → Nat} {cs : Nat → ClassId} : uA 34 (enM ad cs) 33 (cs 2) 12 := ⟨by decide, fun f => rfl⟩
-- the JDK's own rows
theorem dJ6_bitCount_0f7a4_0 : decode cJ6_bitCount_0f7a4 0 = .ok (.iload_n 0, 1) := by decide +kernel
theorem dJ6_bitCount_0f7a4_1 : decode cJ6_bitCount_0f7a4 1 = .ok (.iload_n 0, 1) := by decide +kernel
theorem dJ6_bitCount_0f7a4_2 : decode cJ6_bitCount_0f7a4 2 = .ok (.iconst 1, 1) := by decide +kernel
theorem dJ6_bitCount_0f7a4_3 : decode cJ6_bitCount_0f7a4 3 = .ok (.iushr, 1) := by decide +kernel
theorem dJ6_bitCount_0f7a4_4 : decode cJ6_bitCount_0f7a4 4 = .ok (.ldc_w 265, 3) := by decide +kernel
theorem dJ6_bitCount_0f7a4_7 : decode cJ6_bitCount_0f7a4 7 = .ok (.iand, 1) := by decide +kernel
theorem dJ6_bitCount_0f7a4_8 : decode cJ6_bitCount_0f7a4 8 = .ok (.isub, 1) := by decide +kernel
theorem dJ6_bitCount_0f7a4_9 : decode cJ6_bitCount_0f7a4 9 = .ok (.istore_n 0, 1) := by decide +kernel
theorem dJ6_bitCount_0f7a4_10 : decode cJ6_bitCount_0f7a4 10 = .ok (.iload_n 0, 1) := by decide +kernel
theorem dJ6_bitCount_0f7a4_11 : decode cJ6_bitCount_0f7a4 11 = .ok (.ldc_w 266, 3) := by decide +kernel
theorem dJ6_bitCount_0f7a4_14 : decode cJ6_bitCount_0f7a4 14 = .ok (.iand, 1) := by decide +kernel
theorem dJ6_bitCount_0f7a4_15 : decode cJ6_bitCount_0f7a4 15 = .ok (.iload_n 0, 1) := by decide +kernel
theorem dJ6_bitCount_0f7a4_16 : decode cJ6_bitCount_0f7a4 16 = .ok (.iconst 2, 1) := by decide +kernel
theorem dJ6_bitCount_0f7a4_17 : decode cJ6_bitCount_0f7a4 17 = .ok (.iushr, 1) := by decide +kernel
theorem dJ6_bitCount_0f7a4_18 : decode cJ6_bitCount_0f7a4 18 = .ok (.ldc_w 266, 3) := by decide +kernel
theorem dJ6_bitCount_0f7a4_21 : decode cJ6_bitCount_0f7a4 21 = .ok (.iand, 1) := by decide +kernel
theorem dJ6_bitCount_0f7a4_22 : decode cJ6_bitCount_0f7a4 22 = .ok (.iadd, 1) := by decide +kernel
theorem dJ6_bitCount_0f7a4_23 : decode cJ6_bitCount_0f7a4 23 = .ok (.istore_n 0, 1) := by decide +kernel
theorem dJ6_bitCount_0f7a4_24 : decode cJ6_bitCount_0f7a4 24 = .ok (.iload_n 0, 1) := by decide +kernel
theorem dJ6_bitCount_0f7a4_25 : decode cJ6_bitCount_0f7a4 25 = .ok (.iload_n 0, 1) := by decide +kernel
theorem dJ6_bitCount_0f7a4_26 : decode cJ6_bitCount_0f7a4 26 = .ok (.iconst 4, 1) := by decide +kernel
theorem dJ6_bitCount_0f7a4_27 : decode cJ6_bitCount_0f7a4 27 = .ok (.iushr, 1) := by decide +kernel
theorem dJ6_bitCount_0f7a4_28 : decode cJ6_bitCount_0f7a4 28 = .ok (.iadd, 1) := by decide +kernel
theorem dJ6_bitCount_0f7a4_29 : decode cJ6_bitCount_0f7a4 29 = .ok (.ldc_w 267, 3) := by decide +kernel
theorem dJ6_bitCount_0f7a4_32 : decode cJ6_bitCount_0f7a4 32 = .ok (.iand, 1) := by decide +kernel
theorem dJ6_bitCount_0f7a4_33 : decode cJ6_bitCount_0f7a4 33 = .ok (.istore_n 0, 1) := by decide +kernel
theorem dJ6_bitCount_0f7a4_34 : decode cJ6_bitCount_0f7a4 34 = .ok (.iload_n 0, 1) := by decide +kernel
theorem dJ6_bitCount_0f7a4_35 : decode cJ6_bitCount_0f7a4 35 = .ok (.iload_n 0, 1) := by decide +kernel
theorem dJ6_bitCount_0f7a4_36 : decode cJ6_bitCount_0f7a4 36 = .ok (.bipush 8, 2) := by decide +kernel
theorem dJ6_bitCount_0f7a4_38 : decode cJ6_bitCount_0f7a4 38 = .ok (.iushr, 1) := by decide +kernel
theorem dJ6_bitCount_0f7a4_39 : decode cJ6_bitCount_0f7a4 39 = .ok (.iadd, 1) := by decide +kernel
theorem dJ6_bitCount_0f7a4_40 : decode cJ6_bitCount_0f7a4 40 = .ok (.istore_n 0, 1) := by decide +kernel
theorem dJ6_bitCount_0f7a4_41 : decode cJ6_bitCount_0f7a4 41 = .ok (.iload_n 0, 1) := by decide +kernel
theorem dJ6_bitCount_0f7a4_42 : decode cJ6_bitCount_0f7a4 42 = .ok (.iload_n 0, 1) := by decide +kernel
theorem dJ6_bitCount_0f7a4_43 : decode cJ6_bitCount_0f7a4 43 = .ok (.bipush 16, 2) := by decide +kernel
theorem dJ6_bitCount_0f7a4_45 : decode cJ6_bitCount_0f7a4 45 = .ok (.iushr, 1) := by decide +kernel
theorem dJ6_bitCount_0f7a4_46 : decode cJ6_bitCount_0f7a4 46 = .ok (.iadd, 1) := by decide +kernel
theorem dJ6_bitCount_0f7a4_47 : decode cJ6_bitCount_0f7a4 47 = .ok (.istore_n 0, 1) := by decide +kernel
theorem dJ6_bitCount_0f7a4_48 : decode cJ6_bitCount_0f7a4 48 = .ok (.iload_n 0, 1) := by decide +kernel
theorem dJ6_bitCount_0f7a4_49 : decode cJ6_bitCount_0f7a4 49 = .ok (.bipush 63, 2) := by decide +kernel
theorem dJ6_bitCount_0f7a4_51 : decode cJ6_bitCount_0f7a4 51 = .ok (.iand, 1) := by decide +kernel
theorem dJ6_bitCount_0f7a4_52 : decode cJ6_bitCount_0f7a4 52 = .ok (.ireturn, 1) := by decide +kernel
theorem dJ9_max_7cf53_0 : decode cJ9_max_7cf53 0 = .ok (.iload_n 0, 1) := by decide +kernel
theorem dJ9_max_7cf53_1 : decode cJ9_max_7cf53 1 = .ok (.iload_n 1, 1) := by decide +kernel
theorem dJ9_max_7cf53_2 : decode cJ9_max_7cf53 2 = .ok (.if_icmp .lt 7, 3) := by decide +kernel
theorem dJ9_max_7cf53_5 : decode cJ9_max_7cf53 5 = .ok (.iload_n 0, 1) := by decide +kernel
theorem dJ9_max_7cf53_6 : decode cJ9_max_7cf53 6 = .ok (.goto 4, 3) := by decide +kernel
theorem dJ9_max_7cf53_9 : decode cJ9_max_7cf53 9 = .ok (.iload_n 1, 1) := by decide +kernel
theorem dJ9_max_7cf53_10 : decode cJ9_max_7cf53 10 = .ok (.ireturn, 1) := by decide +kernel
theorem dJ9_min_7cf53_0 : decode cJ9_min_7cf53 0 = .ok (.iload_n 0, 1) := by decide +kernel
theorem dJ9_min_7cf53_1 : decode cJ9_min_7cf53 1 = .ok (.iload_n 1, 1) := by decide +kernel
theorem dJ9_min_7cf53_2 : decode cJ9_min_7cf53 2 = .ok (.if_icmp .gt 7, 3) := by decide +kernel
theorem dJ9_min_7cf53_5 : decode cJ9_min_7cf53 5 = .ok (.iload_n 0, 1) := by decide +kernel
theorem dJ9_min_7cf53_6 : decode cJ9_min_7cf53 6 = .ok (.goto 4, 3) := by decide +kernel
theorem dJ9_min_7cf53_9 : decode cJ9_min_7cf53 9 = .ok (.iload_n 1, 1) := by decide +kernel
theorem dJ9_min_7cf53_10 : decode cJ9_min_7cf53 10 = .ok (.ireturn, 1) := by decide +kernel
theorem dJ7_fill_031fb_0 : decode cJ7_fill_031fb 0 = .ok (.iconst 0, 1) := by decide +kernel
theorem dJ7_fill_031fb_1 : decode cJ7_fill_031fb 1 = .ok (.istore_n 2, 1) := by decide +kernel
theorem dJ7_fill_031fb_2 : decode cJ7_fill_031fb 2 = .ok (.aload_n 0, 1) := by decide +kernel
theorem dJ7_fill_031fb_3 : decode cJ7_fill_031fb 3 = .ok (.arraylength, 1) := by decide +kernel
theorem dJ7_fill_031fb_4 : decode cJ7_fill_031fb 4 = .ok (.istore_n 3, 1) := by decide +kernel
theorem dJ7_fill_031fb_5 : decode cJ7_fill_031fb 5 = .ok (.iload_n 2, 1) := by decide +kernel
theorem dJ7_fill_031fb_6 : decode cJ7_fill_031fb 6 = .ok (.iload_n 3, 1) := by decide +kernel
theorem dJ7_fill_031fb_7 : decode cJ7_fill_031fb 7 = .ok (.if_icmp .ge 13, 3) := by decide +kernel
theorem dJ7_fill_031fb_10 : decode cJ7_fill_031fb 10 = .ok (.aload_n 0, 1) := by decide +kernel
theorem dJ7_fill_031fb_11 : decode cJ7_fill_031fb 11 = .ok (.iload_n 2, 1) := by decide +kernel
theorem dJ7_fill_031fb_12 : decode cJ7_fill_031fb 12 = .ok (.iload_n 1, 1) := by decide +kernel
theorem dJ7_fill_031fb_13 : decode cJ7_fill_031fb 13 = .ok (.bastore, 1) := by decide +kernel
theorem dJ7_fill_031fb_14 : decode cJ7_fill_031fb 14 = .ok (.iinc 2 1, 3) := by decide +kernel
theorem dJ7_fill_031fb_17 : decode cJ7_fill_031fb 17 = .ok (.goto (-12), 3) := by decide +kernel
theorem dJ7_fill_031fb_20 : decode cJ7_fill_031fb 20 = .ok (.return_, 1) := by decide +kernel
