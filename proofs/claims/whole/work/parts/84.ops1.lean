theorem nI_m1 {n : Nat} (h : n < 2 ^ 31) : ¬ nI n = -1 := fun e => by
  have := congrArg Int32.toInt e
  rw [nI_toInt h, show (-1 : Int32).toInt = -1 from by decide] at this
  omega
theorem nI_m9 {n : Nat} (h : n < 2 ^ 31) : ¬ nI n = -9 := fun e => by
  have := congrArg Int32.toInt e
  rw [nI_toInt h, show (-9 : Int32).toInt = -9 from by decide] at this
  omega
theorem op_asked {x y : St} (h : Rel x y) : ∃ (r : Int32) (x' y' : St), f_X9_asked x = some (r, x') ∧ f_X10_asked y = some (r, y') ∧ Rel x' y' :=
  ⟨x 0 13, x, y, rfl, by rw [h.1.2.1]; rfl, h⟩
theorem op_finding {x y : St} (h : Rel x y) : ∃ (r : Int32) (x' y' : St), f_X9_finding x = some (r, x') ∧ f_X10_finding y = some (r, y') ∧ Rel x' y' :=
  ⟨x 0 12, x, y, rfl, by rw [h.1.1]; rfl, h⟩
theorem op_findings {x y : St} (h : Rel x y) (a1 : Int32) : ∃ (r : Int32) (x' y' : St), f_X9_findings x a1 = some (r, x') ∧ f_X10_findings y a1 = some (r, y') ∧ Rel x' y' := by
  unfold f_X9_findings f_X10_findings
  simp only [p_in, ub_some, bI_z, ite_not, i_lt, i_le]
  have e1 : (1 : Int32).toInt = 1 := by decide
  have e5 : (5 : Int32).toInt = 5 := by decide
  rw [e1, e5]
  by_cases hp : 1 ≤ a1.toInt ∧ a1.toInt ≤ 5
  · obtain ⟨j, hj, rfl⟩ := n_of (N := 6) (v := a1) (by omega) (by decide)
    rw [if_neg (by omega), if_pos hp.2, if_pos hp, ui_n hj (by decide), ui_n hj (by decide), nI_clamp (by omega)]
    exact ⟨_, _, _, rfl, by rw [h.1.2.2 j hj], h⟩
  · rw [if_neg hp]
    by_cases h1 : a1.toInt < 1
    · rw [if_pos h1]; exact ⟨_, _, _, rfl, rfl, h⟩
    · rw [if_neg h1, if_neg (by omega)]; exact ⟨_, _, _, rfl, rfl, h⟩
theorem op_letter {x y : St} (h : Rel x y) (a1 a2 : Int32) : ∃ (r : Int32) (x' y' : St), f_X9_letter x a1 a2 = some (r, x') ∧ f_X10_letter y a1 a2 = some (r, y') ∧ Rel x' y' := by
  unfold f_X9_letter f_X10_letter
  rw [p_isLetter, p_mLetter, ub_some, ub_some]
  simp only [bI_z, ite_not]
  by_cases hp : 97 ≤ a1.toInt ∧ a1.toInt ≤ 122
  · rw [if_pos hp, if_pos hp, p_isCells, p_in, ub_some, ub_some]
    simp only [bI_z, ite_not]
    have e0 : (0 : Int32).toInt = 0 := by decide
    have e1 : (32767 : Int32).toInt = 32767 := by decide
    rw [e0, e1]
    by_cases hq : 0 ≤ a2.toInt ∧ a2.toInt ≤ 32767
    · rw [if_pos hq, if_pos hq]
      obtain ⟨j, hj, rfl⟩ := n_of (N := 123) (v := a1) (by omega) (by decide)
      obtain ⟨k, hk, rfl⟩ := n_of (N := 32768) (v := a2) (by omega) (by decide)
      rw [nI_toInt (by omega)] at hp
      have e97 : (97 : Int32) = nI 97 := by decide
      have ej : nI j - 97 = nI (j - 97) := by rw [e97]; exact pk_sub (by omega)
      unfold f_X8_changeStrokes
      rw [ej]
      simp only [ui_n (show j - 97 < 26 by omega) (show 26 < 2 ^ 31 by decide), ul_eq, ub_some, nI_clamp (show j - 97 < 2 ^ 31 by omega)]
      have hB := h.2.1
      refine ⟨x 9 (j - 97), us x 9 (j - 97) (nI k), us y 2 (j - 97) (nI k), rfl, by rw [(hB (j - 97) (by omega)).1], Rel_B h (fun q hq => us_n hq) (fun q hq => us_n hq) ?_⟩
      intro c hc
      show upd (x 9) (j - 97) (nI k) c = upd (y 2) (j - 97) (nI k) c ∧ m15 (upd (x 9) (j - 97) (nI k) c)
      unfold upd
      by_cases e : c = j - 97
      · rw [if_pos e, if_pos e]; exact ⟨rfl, k, hk, rfl⟩
      · rw [if_neg e, if_neg e]; exact hB c hc
    · rw [if_neg hq, if_neg hq]; exact ⟨_, _, _, rfl, rfl, h⟩
  · rw [if_neg hp, if_neg hp]; exact ⟨_, _, _, rfl, rfl, h⟩
theorem op_address {x y : St} (h : Rel x y) (a1 a2 : Int32) : ∃ (r : Int32) (x' y' : St), f_X9_address x a1 a2 = some (r, x') ∧ f_X10_address y a1 a2 = some (r, y') ∧ Rel x' y' := by
  unfold f_X9_address f_X10_address
  simp only [p_houseNo, p_mHouse, p_year, p_mYear, ub_some, bI_z, ite_not, ul_eq]
  by_cases hp : 1 ≤ a1.toInt ∧ a1.toInt ≤ 200
  · rw [if_pos hp, if_pos hp]
    by_cases hq : 1700 ≤ a2.toInt ∧ a2.toInt ≤ 2100
    · rw [if_pos hq, if_pos hq]
      exact ⟨_, _, _, rfl, rfl, Rel_G h (fun q hq => by rw [us_n (by omega), us_n (by omega)]) (fun q hq => by rw [us_n (by omega), us_n (by omega)]) rfl rfl rfl rfl rfl rfl ⟨h.2.2.2.2.1.1, rfl, rfl, hp, hq⟩⟩
    · rw [if_neg hq, if_neg hq]; exact ⟨_, _, _, rfl, rfl, h⟩
  · rw [if_neg hp, if_neg hp]; exact ⟨_, _, _, rfl, rfl, h⟩
theorem op_tear {x y : St} (h : Rel x y) (a1 : Int32) : ∃ (r : Int32) (x' y' : St), f_X9_tear x a1 = some (r, x') ∧ f_X10_tear y a1 = some (r, y') ∧ Rel x' y' := by
  unfold f_X9_tear f_X10_tear f_X10_looked
  simp only [p_sheetNo, p_mSheet, ub_some, bI_z, ite_not]
  by_cases hp : 0 ≤ a1.toInt ∧ a1.toInt ≤ 3
  · rw [if_pos hp, if_pos hp]
    obtain ⟨j, hj, rfl⟩ := n_of (N := 4) (v := a1) (by omega) (by decide)
    have uj : ∀ {α : Type} {k : Option α}, ui (nI j) 4 k = k := ui_n hj (by decide)
    have cj : (nI j).toNatClampNeg = j := nI_clamp (by omega)
    unfold f_X5_isThere f_X5_remove
    simp only [uj, cj]
    have hj2 := ((h.2.2.1) j hj).1
    rcases hj2 with ⟨e1, e2⟩ | ⟨n, hn, e1, e2⟩
    · rw [e1, e2, if_pos rfl, if_neg (show ¬ (0 : Int32) ≤ -9 by decide), ub_some, if_pos rfl, p_refuse x (k := 1) (by decide) (by decide), p_meets y (k := 1) (by decide) (by decide)]
      exact ⟨_, _, _, rfl, rfl, rel_rf (by decide) h⟩
    · have n1 : ¬ nI n = -1 := nI_m1 (by omega)
      rw [e1, e2, if_neg n1, if_pos (nI_pos' (by omega)), ub_some, ub_some, if_neg (by decide), if_pos (by decide)]
      simp only [ul_eq, ub_some]
      have hC := h.2.2.1
      refine ⟨_, _, _, rfl, rfl, Rel_C h (fun q hq => us_n (by omega)) (fun q hq => us_n (by omega)) ?_⟩
      intro s hs
      rw [us_n (show 4 + s ≠ 3 by omega)]
      refine ⟨?_, (hC s hs).2⟩
      show (upd (x 3) j (-1) s = -1 ∧ upd (y 3) j (-9) s = -9) ∨ ∃ n, n ≤ 10 ∧ upd (x 3) j (-1) s = nI n ∧ upd (y 3) j (-9) s = nI n
      unfold upd
      by_cases e : s = j
      · rw [if_pos e, if_pos e]; exact Or.inl ⟨rfl, rfl⟩
      · rw [if_neg e, if_neg e]; exact (hC s hs).1
  · rw [if_neg hp, if_neg hp, ub_some, if_neg (show ¬ (0 : Int32) ≤ -1 by decide)]; exact ⟨_, _, _, rfl, rfl, h⟩
