def cutN (w : Int32) : Int32 := if w < 1 then 1 else if 200 < w then 200 else w
def stN (x : St) (a b v : Int32) (i : Nat) : Int32 := if x 72 i ≤ a then v else if b < x 72 i then v else cutN (v * x 73 i + x 74 i)
def bcN (x : St) (a b v : Int32) : Nat → Int32
  | 0 => v
  | i + 1 => stN x a b (bcN x a b v i) i
theorem p_became {x : St} {t : Nat} (ht : x 71 3 = nI t) (h8 : t ≤ 8) (v a b : Int32) : f_X6_became x v a b = if a ≤ b then some (bcN x a b v t, x) else some (-9, x) := by
  unfold f_X6_became
  by_cases hab : a ≤ b
  · rw [if_pos hab, if_pos hab]
    have := loop_fu (fun fuel j => f_X6_became_14 fuel x a b (bcN x a b v j) (nI j)) t (some (bcN x a b v t, x)) (by omega) (fun fuel => ?_) (fun fuel j hj => ?_)
    · simpa only [nI_0, bcN] using this
    · show f_X6_became_14 (fuel + 1) _ _ _ _ _ = _
      rw [f_X6_became_14, ht, if_pos (nI_le (Nat.le_refl t) (by omega))]
    · right
      show f_X6_became_14 (fuel + 1) _ _ _ _ _ = f_X6_became_14 fuel _ _ _ _ _
      rw [f_X6_became_14, ht, if_neg (nI_ge hj (by omega))]
      simp only [ui_n (show j < 8 by omega) (show 8 < 2 ^ 31 by decide), nI_clamp (show j < 2 ^ 31 by omega), ul_eq, nI_1]
      show _ = f_X6_became_14 fuel x a b (stN x a b (bcN x a b v j) j) (nI (j + 1))
      unfold stN cutN
      by_cases c1 : x 72 j ≤ a
      · rw [if_pos c1, if_pos c1]
      · rw [if_neg c1, if_neg c1]
        by_cases c2 : b < x 72 j
        · rw [if_pos c2, if_pos c2]
        · rw [if_neg c2, if_neg c2]
          by_cases c3 : bcN x a b v j * x 73 j + x 74 j < 1
          · simp only [if_pos c3]
            rw [if_neg (by decide)]
          · simp only [if_neg c3]
  · rw [if_neg hab, if_neg hab]
theorem p_numberIn {x y : St} {t : Nat} (ht : y 0 26 = nI t) (h8 : t ≤ 8) (he : ∀ i, i < t → x 72 i = y 22 i ∧ x 73 i = y 23 i ∧ x 74 i = y 24 i) (v a b : Int32) : f_X10_numberIn y v a b = if a ≤ b then some (bcN x a b v t, y) else some (-9, y) := by
  unfold f_X10_numberIn
  by_cases hab : a ≤ b
  · rw [if_pos hab, if_pos hab]
    have := loop_fu (fun fuel j => f_X10_numberIn_14 fuel y a b (bcN x a b v j) (nI j)) t (some (bcN x a b v t, y)) (by omega) (fun fuel => ?_) (fun fuel j hj => ?_)
    · simpa only [nI_0, bcN] using this
    · show f_X10_numberIn_14 (fuel + 1) _ _ _ _ _ = _
      rw [f_X10_numberIn_14, ht, if_pos (nI_le (Nat.le_refl t) (by omega))]
    · right
      show f_X10_numberIn_14 (fuel + 1) _ _ _ _ _ = f_X10_numberIn_14 fuel _ _ _ _ _
      obtain ⟨q1, q2, q3⟩ := he j hj
      rw [f_X10_numberIn_14, ht, if_neg (nI_ge hj (by omega))]
      simp only [ui_n (show j < 8 by omega) (show 8 < 2 ^ 31 by decide), nI_clamp (show j < 2 ^ 31 by omega), ul_eq, nI_1, ← q1, ← q2, ← q3]
      show _ = f_X10_numberIn_14 fuel y a b (stN x a b (bcN x a b v j) j) (nI (j + 1))
      unfold stN cutN
      by_cases c1 : x 72 j ≤ a
      · rw [if_pos c1, if_pos c1]
      · rw [if_neg c1, if_neg c1]
        by_cases c2 : b < x 72 j
        · rw [if_pos c2, if_pos c2]
        · rw [if_neg c2, if_neg c2]
          simp only [i_lt, i_le]
          by_cases c3 : (bcN x a b v j * x 73 j + x 74 j).toInt < (1 : Int32).toInt
          · rw [if_pos c3, if_neg (by omega)]
          · rw [if_neg c3, if_pos (by omega)]
            by_cases c4 : (200 : Int32).toInt < (bcN x a b v j * x 73 j + x 74 j).toInt
            · rw [if_pos c4, if_neg (by omega)]
            · rw [if_neg c4, if_pos (by omega)]
  · rw [if_neg hab, if_neg hab]
theorem op_number {x y : St} (h : Rel x y) (a1 a2 a3 : Int32) : ∃ (r : Int32) (x' y' : St), f_X9_number x a1 a2 a3 = some (r, x') ∧ f_X10_number y a1 a2 a3 = some (r, y') ∧ Rel x' y' := by
  obtain ⟨⟨t, ht, e1, e2, hr⟩, -⟩ := h.2.2.2.2.1
  have he : ∀ i, i < t → x 72 i = y 22 i ∧ x 73 i = y 23 i ∧ x 74 i = y 24 i := fun i hi => ⟨(hr i hi).1, (hr i hi).2.1, (hr i hi).2.2.1⟩
  unfold f_X9_number f_X10_number
  simp only [p_houseNo, p_mHouse, p_year, p_mYear, p_became e1 ht, p_numberIn e2 ht he, ub_some, bI_z, ite_not]
  by_cases h1 : 1 ≤ a1.toInt ∧ a1.toInt ≤ 200
  · rw [if_pos h1, if_pos h1]
    by_cases h2 : 1700 ≤ a2.toInt ∧ a2.toInt ≤ 2100
    · rw [if_pos h2, if_pos h2]
      by_cases h3 : 1700 ≤ a3.toInt ∧ a3.toInt ≤ 2100
      · rw [if_pos h3, if_pos h3]
        by_cases hab : a2 ≤ a3
        · rw [if_pos hab, if_pos hab, ub_some, ub_some]; exact ⟨_, _, _, rfl, rfl, h⟩
        · rw [if_neg hab, if_neg hab, ub_some, ub_some]; exact ⟨_, _, _, rfl, rfl, h⟩
      · rw [if_neg h3, if_neg h3]; exact ⟨_, _, _, rfl, rfl, h⟩
    · rw [if_neg h2, if_neg h2]; exact ⟨_, _, _, rfl, rfl, h⟩
  · rw [if_neg h1, if_neg h1]; exact ⟨_, _, _, rfl, rfl, h⟩
