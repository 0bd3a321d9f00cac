theorem bI_congr {p q : Prop} [Decidable p] [Decidable q] (h : p ↔ q) : bI p = bI q := by
  unfold bI
  by_cases hp : p
  · rw [if_pos hp, if_pos (h.mp hp)]
  · rw [if_neg hp, if_neg (fun g => hp (h.mpr g))]
theorem unz_bI {p : Prop} [Decidable p] : unz (bI p) = true := by
  unfold bI
  by_cases h : p
  · rw [if_pos h]; decide
  · rw [if_neg h]; decide
theorem rng1 (x : St) (v lo hi : Int32) {a b : Int} (ha : lo.toInt = a) (hb : hi.toInt = b) : (if v < lo then some ((0 : Int32), x) else if hi < v then some ((0 : Int32), x) else some ((1 : Int32), x)) = some (bI (a ≤ v.toInt ∧ v.toInt ≤ b), x) := by
  subst ha hb
  simp only [i_lt]
  unfold bI
  by_cases h1 : v.toInt < lo.toInt
  · rw [if_pos h1, if_neg (by omega)]
  · rw [if_neg h1]
    by_cases h2 : hi.toInt < v.toInt
    · rw [if_pos h2, if_neg (by omega)]
    · rw [if_neg h2, if_pos (by omega)]
theorem rng2 (x : St) (v lo hi : Int32) {a b : Int} (ha : lo.toInt = a) (hb : hi.toInt = b + 1) : (if v < lo then some ((0 : Int32), x) else if hi ≤ v then some ((0 : Int32), x) else some ((1 : Int32), x)) = some (bI (a ≤ v.toInt ∧ v.toInt ≤ b), x) := by
  simp only [i_lt, i_le]
  unfold bI
  by_cases h1 : v.toInt < lo.toInt
  · rw [if_pos h1, if_neg (by omega)]
  · rw [if_neg h1]
    by_cases h2 : hi.toInt ≤ v.toInt
    · rw [if_pos h2, if_neg (by omega)]
    · rw [if_neg h2, if_pos (by omega)]
theorem rng3 (x : St) (v lo hi : Int32) {a b : Int} (ha : lo.toInt = a) (hb : hi.toInt = b) : (if v < lo then some ((0 : Int32), x) else if v ≤ hi then some ((1 : Int32), x) else some ((0 : Int32), x)) = some (bI (a ≤ v.toInt ∧ v.toInt ≤ b), x) := by
  simp only [i_lt, i_le]
  unfold bI
  by_cases h1 : v.toInt < lo.toInt
  · rw [if_pos h1, if_neg (by omega)]
  · rw [if_neg h1]
    by_cases h2 : v.toInt ≤ hi.toInt
    · rw [if_pos h2, if_pos (by omega)]
    · rw [if_neg h2, if_neg (by omega)]
theorem p_isLine (x : St) (v : Int32) : f_X9_isLine x v = some (bI (0 ≤ v.toInt ∧ v.toInt ≤ 3), x) := rng2 x v 0 4 (by decide) (by decide)
theorem p_isSlot (x : St) (v : Int32) : f_X9_isSlot x v = some (bI (0 ≤ v.toInt ∧ v.toInt ≤ 9), x) := rng2 x v 0 10 (by decide) (by decide)
theorem p_isCells (x : St) (v : Int32) : f_X9_isCells x v = some (bI (0 ≤ v.toInt ∧ v.toInt ≤ 32767), x) := rng1 x v 0 32767 (by decide) (by decide)
theorem p_isColour (x : St) (v : Int32) : f_X9_isColour x v = some (bI (1 ≤ v.toInt ∧ v.toInt ≤ 3), x) := rng1 x v 1 3 (by decide) (by decide)
theorem p_sheetNo (x : St) (v : Int32) : f_X5_isNumber x v = some (bI (0 ≤ v.toInt ∧ v.toInt ≤ 3), x) := rng2 x v 0 4 (by decide) (by decide)
theorem p_houseNo (x : St) (v : Int32) : f_X6_isNumber x v = some (bI (1 ≤ v.toInt ∧ v.toInt ≤ 200), x) := rng1 x v 1 200 (by decide) (by decide)
theorem p_year (x : St) (v : Int32) : f_X6_isYear x v = some (bI (1700 ≤ v.toInt ∧ v.toInt ≤ 2100), x) := rng1 x v 1700 2100 (by decide) (by decide)
theorem p_lightNo (x : St) (v : Int32) : f_X1_isNumber x v = some (bI (0 ≤ v.toInt ∧ v.toInt ≤ 5), x) := rng2 x v 0 6 (by decide) (by decide)
theorem p_mLine (y : St) (v : Int32) : f_X10_isLine y v = some (bI (0 ≤ v.toInt ∧ v.toInt ≤ 3), y) := by
  unfold f_X10_isLine
  rw [p_in, ub_some, ug_ok unz_bI]
  rfl
theorem p_mSlot (y : St) (v : Int32) : f_X10_isSlot y v = some (bI (0 ≤ v.toInt ∧ v.toInt ≤ 9), y) := by
  unfold f_X10_isSlot
  rw [p_in, ub_some, ug_ok unz_bI]
  rfl
theorem p_mColour (y : St) (v : Int32) : f_X10_isColour y v = some (bI (1 ≤ v.toInt ∧ v.toInt ≤ 3), y) := by
  unfold f_X10_isColour
  rw [p_in, ub_some, ug_ok unz_bI]
  rfl
theorem p_mSheet (y : St) (v : Int32) : f_X10_isSheet y v = some (bI (0 ≤ v.toInt ∧ v.toInt ≤ 3), y) := by
  unfold f_X10_isSheet
  rw [p_in, ub_some, ug_ok unz_bI]
  rfl
theorem p_mHouse (y : St) (v : Int32) : f_X10_isHouse y v = some (bI (1 ≤ v.toInt ∧ v.toInt ≤ 200), y) := by
  unfold f_X10_isHouse
  rw [p_in, ub_some, ug_ok unz_bI]
  rfl
theorem p_mYear (y : St) (v : Int32) : f_X10_isYear y v = some (bI (1700 ≤ v.toInt ∧ v.toInt ≤ 2100), y) := by
  unfold f_X10_isYear
  rw [p_in, ub_some, ug_ok unz_bI]
  rfl
theorem p_mLetter (y : St) (v : Int32) : f_X10_isLetter y v = some (bI (97 ≤ v.toInt ∧ v.toInt ≤ 122), y) := by
  unfold f_X10_isLetter
  rw [p_in, ub_some, ug_ok unz_bI]
  rfl
theorem Rel_B {x x' y y' : St} (h : Rel x y) (hx : ∀ k, k ≠ 9 → x' k = x k) (hy : ∀ k, k ≠ 2 → y' k = y k) (hn : RB x' y') : Rel x' y' := by
  obtain ⟨hA, hB, hC, hE, hG, hH, hJ, W, hD, hF, hI⟩ := h
  exact ⟨RA_of (by rw [hx 0 (by omega)]) (by rw [hx 0 (by omega)]) (hx _ (by omega)) (by rw [hy 0 (by omega)]) (by rw [hy 0 (by omega)]) (hy _ (by omega)) hA, hn, RC_of (hx _ (by omega)) (fun s hs => hx _ (by omega)) (hy _ (by omega)) (hy _ (by omega)) hC, RE_of (fun l u hl hu => hx _ (by omega)) (hy _ (by omega)) hE, RG_of (hx _ (by omega)) (hx _ (by omega)) (hx _ (by omega)) (hx _ (by omega)) (by rw [hy 0 (by omega)]) (by rw [hy 0 (by omega)]) (by rw [hy 0 (by omega)]) (hy _ (by omega)) (hy _ (by omega)) (hy _ (by omega)) hG, RH_of (hx _ (by omega)) (hx _ (by omega)) (hx _ (by omega)) (hx _ (by omega)) (hx _ (by omega)) (by rw [hy 0 (by omega)]) (hy _ (by omega)) (hy _ (by omega)) (hy _ (by omega)) (hy _ (by omega)) hH, RJ_of (hx _ (by omega)) (hx _ (by omega)) (hx _ (by omega)) (by rw [hy 0 (by omega)]) (hy _ (by omega)) (hy _ (by omega)) (hy _ (by omega)) hJ, W, RD_of (by rw [hx 8 (by omega)]) (fun w hw => hx _ (by omega)) (hx _ (by omega)) (hx _ (by omega)) (hx _ (by omega)) (hx _ (by omega)) (hx _ (by omega)) (hx _ (by omega)) (hx _ (by omega)) (by rw [hy 0 (by omega)]) (hy _ (by omega)) (hy _ (by omega)) (hy _ (by omega)) (hy _ (by omega)) (hy _ (by omega)) (hy _ (by omega)) (hy _ (by omega)) (hy _ (by omega)) hD, RF_of (fun l hl => by rw [hx (35 + 9 * l) (by omega)]) (fun l hl => hx _ (by omega)) (fun l hl => hx _ (by omega)) (fun l hl => hx _ (by omega)) (hx _ (by omega)) (hy _ (by omega)) (hy _ (by omega)) (hy _ (by omega)) (hy _ (by omega)) hF, RI_of (hx _ (by omega)) (hx _ (by omega)) (hx _ (by omega)) (by rw [hy 0 (by omega)]) (hy _ (by omega)) (hy _ (by omega)) hI⟩
theorem Rel_C {x x' y y' : St} (h : Rel x y) (hx : ∀ k, k < 3 ∨ 7 < k → x' k = x k) (hy : ∀ k, k ≠ 3 ∧ k ≠ 4 ∧ k ≠ 5 → y' k = y k) (hn : RC x' y') : Rel x' y' := by
  obtain ⟨hA, hB, hC, hE, hG, hH, hJ, W, hD, hF, hI⟩ := h
  exact ⟨RA_of (by rw [hx 0 (by omega)]) (by rw [hx 0 (by omega)]) (hx _ (by omega)) (by rw [hy 0 (by omega)]) (by rw [hy 0 (by omega)]) (hy _ (by omega)) hA, RB_of (hx _ (by omega)) (hy _ (by omega)) hB, hn, RE_of (fun l u hl hu => hx _ (by omega)) (hy _ (by omega)) hE, RG_of (hx _ (by omega)) (hx _ (by omega)) (hx _ (by omega)) (hx _ (by omega)) (by rw [hy 0 (by omega)]) (by rw [hy 0 (by omega)]) (by rw [hy 0 (by omega)]) (hy _ (by omega)) (hy _ (by omega)) (hy _ (by omega)) hG, RH_of (hx _ (by omega)) (hx _ (by omega)) (hx _ (by omega)) (hx _ (by omega)) (hx _ (by omega)) (by rw [hy 0 (by omega)]) (hy _ (by omega)) (hy _ (by omega)) (hy _ (by omega)) (hy _ (by omega)) hH, RJ_of (hx _ (by omega)) (hx _ (by omega)) (hx _ (by omega)) (by rw [hy 0 (by omega)]) (hy _ (by omega)) (hy _ (by omega)) (hy _ (by omega)) hJ, W, RD_of (by rw [hx 8 (by omega)]) (fun w hw => hx _ (by omega)) (hx _ (by omega)) (hx _ (by omega)) (hx _ (by omega)) (hx _ (by omega)) (hx _ (by omega)) (hx _ (by omega)) (hx _ (by omega)) (by rw [hy 0 (by omega)]) (hy _ (by omega)) (hy _ (by omega)) (hy _ (by omega)) (hy _ (by omega)) (hy _ (by omega)) (hy _ (by omega)) (hy _ (by omega)) (hy _ (by omega)) hD, RF_of (fun l hl => by rw [hx (35 + 9 * l) (by omega)]) (fun l hl => hx _ (by omega)) (fun l hl => hx _ (by omega)) (fun l hl => hx _ (by omega)) (hx _ (by omega)) (hy _ (by omega)) (hy _ (by omega)) (hy _ (by omega)) (hy _ (by omega)) hF, RI_of (hx _ (by omega)) (hx _ (by omega)) (hx _ (by omega)) (by rw [hy 0 (by omega)]) (hy _ (by omega)) (hy _ (by omega)) hI⟩
theorem Rel_E {x x' y y' : St} (h : Rel x y) (hx : ∀ k, k < 35 ∨ 70 < k → x' k = x k) (hy : ∀ k, k ≠ 14 → y' k = y k) (e0 : ∀ l, l < 4 → x' (35 + 9 * l) = x (35 + 9 * l) ∧ x' (35 + 9 * l + 6) = x (35 + 9 * l + 6) ∧ x' (35 + 9 * l + 7) = x (35 + 9 * l + 7) ∧ x' (35 + 9 * l + 8) = x (35 + 9 * l + 8)) (hn : RE x' y') : Rel x' y' := by
  obtain ⟨hA, hB, hC, hE, hG, hH, hJ, W, hD, hF, hI⟩ := h
  exact ⟨RA_of (by rw [hx 0 (by omega)]) (by rw [hx 0 (by omega)]) (hx _ (by omega)) (by rw [hy 0 (by omega)]) (by rw [hy 0 (by omega)]) (hy _ (by omega)) hA, RB_of (hx _ (by omega)) (hy _ (by omega)) hB, RC_of (hx _ (by omega)) (fun s hs => hx _ (by omega)) (hy _ (by omega)) (hy _ (by omega)) hC, hn, RG_of (hx _ (by omega)) (hx _ (by omega)) (hx _ (by omega)) (hx _ (by omega)) (by rw [hy 0 (by omega)]) (by rw [hy 0 (by omega)]) (by rw [hy 0 (by omega)]) (hy _ (by omega)) (hy _ (by omega)) (hy _ (by omega)) hG, RH_of (hx _ (by omega)) (hx _ (by omega)) (hx _ (by omega)) (hx _ (by omega)) (hx _ (by omega)) (by rw [hy 0 (by omega)]) (hy _ (by omega)) (hy _ (by omega)) (hy _ (by omega)) (hy _ (by omega)) hH, RJ_of (hx _ (by omega)) (hx _ (by omega)) (hx _ (by omega)) (by rw [hy 0 (by omega)]) (hy _ (by omega)) (hy _ (by omega)) (hy _ (by omega)) hJ, W, RD_of (by rw [hx 8 (by omega)]) (fun w hw => hx _ (by omega)) (hx _ (by omega)) (hx _ (by omega)) (hx _ (by omega)) (hx _ (by omega)) (hx _ (by omega)) (hx _ (by omega)) (hx _ (by omega)) (by rw [hy 0 (by omega)]) (hy _ (by omega)) (hy _ (by omega)) (hy _ (by omega)) (hy _ (by omega)) (hy _ (by omega)) (hy _ (by omega)) (hy _ (by omega)) (hy _ (by omega)) hD, RF_of (fun l hl => by rw [(e0 l hl).1]) (fun l hl => (e0 l hl).2.1) (fun l hl => (e0 l hl).2.2.1) (fun l hl => (e0 l hl).2.2.2) (hx _ (by omega)) (hy _ (by omega)) (hy _ (by omega)) (hy _ (by omega)) (hy _ (by omega)) hF, RI_of (hx _ (by omega)) (hx _ (by omega)) (hx _ (by omega)) (by rw [hy 0 (by omega)]) (hy _ (by omega)) (hy _ (by omega)) hI⟩
theorem Rel_G {x x' y y' : St} (h : Rel x y) (hx : ∀ k, k < 71 ∨ 74 < k → x' k = x k) (hy : ∀ k, k ≠ 0 ∧ k ≠ 22 ∧ k ≠ 23 ∧ k ≠ 24 → y' k = y k) (w7 : y' 0 7 = y 0 7) (w32 : y' 0 32 = y 0 32) (w37 : y' 0 37 = y 0 37) (w40 : y' 0 40 = y 0 40) (w0 : y' 0 0 = y 0 0) (w2 : y' 0 2 = y 0 2) (hn : RG x' y') : Rel x' y' := by
  obtain ⟨hA, hB, hC, hE, hG, hH, hJ, W, hD, hF, hI⟩ := h
  exact ⟨RA_of (by rw [hx 0 (by omega)]) (by rw [hx 0 (by omega)]) (hx _ (by omega)) w0 w2 (hy _ (by omega)) hA, RB_of (hx _ (by omega)) (hy _ (by omega)) hB, RC_of (hx _ (by omega)) (fun s hs => hx _ (by omega)) (hy _ (by omega)) (hy _ (by omega)) hC, RE_of (fun l u hl hu => hx _ (by omega)) (hy _ (by omega)) hE, hn, RH_of (hx _ (by omega)) (hx _ (by omega)) (hx _ (by omega)) (hx _ (by omega)) (hx _ (by omega)) w32 (hy _ (by omega)) (hy _ (by omega)) (hy _ (by omega)) (hy _ (by omega)) hH, RJ_of (hx _ (by omega)) (hx _ (by omega)) (hx _ (by omega)) w40 (hy _ (by omega)) (hy _ (by omega)) (hy _ (by omega)) hJ, W, RD_of (by rw [hx 8 (by omega)]) (fun w hw => hx _ (by omega)) (hx _ (by omega)) (hx _ (by omega)) (hx _ (by omega)) (hx _ (by omega)) (hx _ (by omega)) (hx _ (by omega)) (hx _ (by omega)) w7 (hy _ (by omega)) (hy _ (by omega)) (hy _ (by omega)) (hy _ (by omega)) (hy _ (by omega)) (hy _ (by omega)) (hy _ (by omega)) (hy _ (by omega)) hD, RF_of (fun l hl => by rw [hx (35 + 9 * l) (by omega)]) (fun l hl => hx _ (by omega)) (fun l hl => hx _ (by omega)) (fun l hl => hx _ (by omega)) (hx _ (by omega)) (hy _ (by omega)) (hy _ (by omega)) (hy _ (by omega)) (hy _ (by omega)) hF, RI_of (hx _ (by omega)) (hx _ (by omega)) (hx _ (by omega)) w37 (hy _ (by omega)) (hy _ (by omega)) hI⟩
theorem Rel_H {x x' y y' : St} (h : Rel x y) (hx : ∀ k, k < 75 ∨ 79 < k → x' k = x k) (hy : ∀ k, k ≠ 0 ∧ k ≠ 25 ∧ k ≠ 26 ∧ k ≠ 27 ∧ k ≠ 28 → y' k = y k) (w7 : y' 0 7 = y 0 7) (w26 : y' 0 26 = y 0 26) (w30 : y' 0 30 = y 0 30) (w31 : y' 0 31 = y 0 31) (w37 : y' 0 37 = y 0 37) (w40 : y' 0 40 = y 0 40) (w0 : y' 0 0 = y 0 0) (w2 : y' 0 2 = y 0 2) (hn : RH x' y') : Rel x' y' := by
  obtain ⟨hA, hB, hC, hE, hG, hH, hJ, W, hD, hF, hI⟩ := h
  exact ⟨RA_of (by rw [hx 0 (by omega)]) (by rw [hx 0 (by omega)]) (hx _ (by omega)) w0 w2 (hy _ (by omega)) hA, RB_of (hx _ (by omega)) (hy _ (by omega)) hB, RC_of (hx _ (by omega)) (fun s hs => hx _ (by omega)) (hy _ (by omega)) (hy _ (by omega)) hC, RE_of (fun l u hl hu => hx _ (by omega)) (hy _ (by omega)) hE, RG_of (hx _ (by omega)) (hx _ (by omega)) (hx _ (by omega)) (hx _ (by omega)) w26 w30 w31 (hy _ (by omega)) (hy _ (by omega)) (hy _ (by omega)) hG, hn, RJ_of (hx _ (by omega)) (hx _ (by omega)) (hx _ (by omega)) w40 (hy _ (by omega)) (hy _ (by omega)) (hy _ (by omega)) hJ, W, RD_of (by rw [hx 8 (by omega)]) (fun w hw => hx _ (by omega)) (hx _ (by omega)) (hx _ (by omega)) (hx _ (by omega)) (hx _ (by omega)) (hx _ (by omega)) (hx _ (by omega)) (hx _ (by omega)) w7 (hy _ (by omega)) (hy _ (by omega)) (hy _ (by omega)) (hy _ (by omega)) (hy _ (by omega)) (hy _ (by omega)) (hy _ (by omega)) (hy _ (by omega)) hD, RF_of (fun l hl => by rw [hx (35 + 9 * l) (by omega)]) (fun l hl => hx _ (by omega)) (fun l hl => hx _ (by omega)) (fun l hl => hx _ (by omega)) (hx _ (by omega)) (hy _ (by omega)) (hy _ (by omega)) (hy _ (by omega)) (hy _ (by omega)) hF, RI_of (hx _ (by omega)) (hx _ (by omega)) (hx _ (by omega)) w37 (hy _ (by omega)) (hy _ (by omega)) hI⟩
theorem Rel_J {x x' y y' : St} (h : Rel x y) (hx : ∀ k, k < 83 ∨ 85 < k → x' k = x k) (hy : ∀ k, k ≠ 0 ∧ k ≠ 31 ∧ k ≠ 32 ∧ k ≠ 33 → y' k = y k) (w7 : y' 0 7 = y 0 7) (w26 : y' 0 26 = y 0 26) (w30 : y' 0 30 = y 0 30) (w31 : y' 0 31 = y 0 31) (w32 : y' 0 32 = y 0 32) (w37 : y' 0 37 = y 0 37) (w0 : y' 0 0 = y 0 0) (w2 : y' 0 2 = y 0 2) (hn : RJ x' y') : Rel x' y' := by
  obtain ⟨hA, hB, hC, hE, hG, hH, hJ, W, hD, hF, hI⟩ := h
  exact ⟨RA_of (by rw [hx 0 (by omega)]) (by rw [hx 0 (by omega)]) (hx _ (by omega)) w0 w2 (hy _ (by omega)) hA, RB_of (hx _ (by omega)) (hy _ (by omega)) hB, RC_of (hx _ (by omega)) (fun s hs => hx _ (by omega)) (hy _ (by omega)) (hy _ (by omega)) hC, RE_of (fun l u hl hu => hx _ (by omega)) (hy _ (by omega)) hE, RG_of (hx _ (by omega)) (hx _ (by omega)) (hx _ (by omega)) (hx _ (by omega)) w26 w30 w31 (hy _ (by omega)) (hy _ (by omega)) (hy _ (by omega)) hG, RH_of (hx _ (by omega)) (hx _ (by omega)) (hx _ (by omega)) (hx _ (by omega)) (hx _ (by omega)) w32 (hy _ (by omega)) (hy _ (by omega)) (hy _ (by omega)) (hy _ (by omega)) hH, hn, W, RD_of (by rw [hx 8 (by omega)]) (fun w hw => hx _ (by omega)) (hx _ (by omega)) (hx _ (by omega)) (hx _ (by omega)) (hx _ (by omega)) (hx _ (by omega)) (hx _ (by omega)) (hx _ (by omega)) w7 (hy _ (by omega)) (hy _ (by omega)) (hy _ (by omega)) (hy _ (by omega)) (hy _ (by omega)) (hy _ (by omega)) (hy _ (by omega)) (hy _ (by omega)) hD, RF_of (fun l hl => by rw [hx (35 + 9 * l) (by omega)]) (fun l hl => hx _ (by omega)) (fun l hl => hx _ (by omega)) (fun l hl => hx _ (by omega)) (hx _ (by omega)) (hy _ (by omega)) (hy _ (by omega)) (hy _ (by omega)) (hy _ (by omega)) hF, RI_of (hx _ (by omega)) (hx _ (by omega)) (hx _ (by omega)) w37 (hy _ (by omega)) (hy _ (by omega)) hI⟩
