theorem lg_cmp_self (r : Int64) : lg_cmp r r = 0 := by
  unfold lg_cmp
  simp
theorem lw_sub6 {L : Nat} (hL : L ≤ 3072) : (Int32.ofNat L - 6).toInt = (L : Int) - 6 := pk_sub_toInt (a := L) (b := 6) (by omega) (by omega)
theorem lw_over {L i : Nat} (hL : L ≤ 3072) (h : L < i + 6 ∧ i ≤ L) : Int32.ofNat L - 6 < nI i := by
  rw [Int32.lt_iff_toInt_lt, lw_sub6 hL, nI_toInt (by omega)]
  omega
theorem lw_under {L i : Nat} (hL : L ≤ 3072) (hi : i ≤ L) (h : ¬ Int32.ofNat L - 6 < nI i) : i + 6 ≤ L := by
  rw [Int32.lt_iff_toInt_lt, lw_sub6 hL, nI_toInt (by omega)] at h
  omega
theorem va_P_l {D : va_G} {cl : List vw_C} {w1 w2 : va_W} {H : Heap} (h : va_P D cl (w1 ++ w2) H) : va_P D cl w1 H := fun k x g => h k x (by rw [List.getElem?_append_left (List.getElem?_eq_some_iff.mp g).1]; exact g)
theorem va_P_r {D : va_G} {cl : List vw_C} {w1 w2 : va_W} {H : Heap} (h : va_P D cl (w1 ++ w2) H) : va_P D cl w2 H := fun k x g => h (w1.length + k) x (by rw [List.getElem?_append_right (by omega), Nat.add_sub_cancel_left]; exact g)
theorem va_D_l {A : Nat → Prop} {w1 w2 : va_W} (h : va_D A (w1 ++ w2)) : va_D A w1 := ⟨fun i j p q g1 g2 e => h.1 i j p q (by rw [List.getElem?_append_left (List.getElem?_eq_some_iff.mp g1).1]; exact g1) (by rw [List.getElem?_append_left (List.getElem?_eq_some_iff.mp g2).1]; exact g2) e, fun k q g => h.2 k q (by rw [List.getElem?_append_left (List.getElem?_eq_some_iff.mp g).1]; exact g)⟩
theorem va_D_r {A : Nat → Prop} {w1 w2 : va_W} (h : va_D A (w1 ++ w2)) : va_D A w2 := ⟨fun i j p q g1 g2 e => by
    have := h.1 (w1.length + i) (w1.length + j) p q (by rw [List.getElem?_append_right (by omega), Nat.add_sub_cancel_left]; exact g1) (by rw [List.getElem?_append_right (by omega), Nat.add_sub_cancel_left]; exact g2) e
    omega, fun k q g => h.2 (w1.length + k) q (by rw [List.getElem?_append_right (by omega), Nat.add_sub_cancel_left]; exact g)⟩
theorem va_D_x {A : Nat → Prop} {n n2 : Nat} {ad ad2 : Nat → Nat} {en en2 : Nat → (Nat → Int32) → va_E} {σ τ : St} (h : va_D A (uw n ad en σ ++ uw n2 ad2 en2 τ)) : ∀ i j, i < n → j < n2 → ad i ≠ ad2 j := fun i j hi hj e => by
  have hl : (uw n ad en σ).length = n := by simp [uw]
  have := h.1 i (n + j) _ _ (by rw [List.getElem?_append_left (by omega)]; exact uw_get hi) (by rw [List.getElem?_append_right (by omega), hl, Nat.add_sub_cancel_left]; exact uw_get hj) e
  omega
theorem lw_arr {s : State} {A : Array Value} {ty : FieldType} (h : (Cond.arrayClass ty).before A s = true) (hno : ∀ C, ty ≠ .object C) : ∃ cA : ClassId, ArrOfT s cA ty ∧ va_RA s cA ty := by
  obtain ⟨cA, kA, comp, h1, h2, h3⟩ := Cond.arrayClass_spec h
  refine ⟨cA, fun n z => ⟨fun k h => (by cases h), kA, h2, comp, h3⟩, ?_⟩
  cases ty with
  | object C => exact absurd rfl (hno C)
  | _ => exact h1
theorem lw_arrA {s : State} {A : Array Value} {ty : FieldType} (h : (Cond.arrayOver (.array ty)).before A s = true) : ∃ cA : ClassId, ArrOfT s cA (.array ty) ∧ va_RA s cA (.array ty) := by
  obtain ⟨comp, cA, kA, h0, -, h2, h3, h4⟩ := arrayOverA_spec h
  exact ⟨cA, fun n z => ⟨fun k h => (by cases h), kA, h2, comp, h3⟩, h4⟩
theorem lw_arrO {s : State} {A : Array Value} {C : String} (h : (Cond.arrayOver (.object C)).before A s = true) : ∃ cA : ClassId, ArrOfT s cA (.object C) ∧ va_RA s cA (.object C) := by
  obtain ⟨comp, cA, kA, h0, -, h2, h3, h4⟩ := Cond.arrayOver_spec h
  exact ⟨cA, fun n z => ⟨fun k h => (by cases h), kA, h2, comp, h3⟩, kA, comp, h2, h3, h0, h4⟩
