def fyN (x : St) (w : Nat) : Int32 := if x 12 w = 0 then 1700 else x 15 w
def lyN (x : St) (w : Nat) : Int32 := if x 12 w = 0 then 2100 else x 16 w
theorem p_fy {x : St} {w : Nat} (hw : w < 16) : f_X9_firstYear x (nI w) = some (fyN x w, x) := by
  unfold f_X9_firstYear fyN
  simp only [ui_n hw (show 16 < 2 ^ 31 by decide), nI_clamp (show w < 2 ^ 31 by omega)]
  by_cases c : x 12 w = 0
  · rw [if_pos c, if_pos c]
  · rw [if_neg c, if_neg c]
theorem p_ly {x : St} {w : Nat} (hw : w < 16) : f_X9_lastYear x (nI w) = some (lyN x w, x) := by
  unfold f_X9_lastYear lyN
  simp only [ui_n hw (show 16 < 2 ^ 31 by decide), nI_clamp (show w < 2 ^ 31 by omega)]
  by_cases c : x 12 w = 0
  · rw [if_pos c, if_pos c]
  · rw [if_neg c, if_neg c]
theorem p_fyM {x y : St} {w : Nat} (hw : w < 16) (k1 : x 12 w = y 6 w) (k3 : x 15 w = y 11 w) : f_X10_yearOf y (nI w) 0 = some (fyN x w, y) := by
  unfold f_X10_yearOf fyN
  simp only [ui_n hw (show 16 < 2 ^ 31 by decide), nI_clamp (show w < 2 ^ 31 by omega), ← k1, ← k3, if_true]
  by_cases c : x 12 w = 0
  · rw [if_pos c, if_pos c]
  · rw [if_neg c, if_neg c]
theorem p_lyM {x y : St} {w : Nat} (hw : w < 16) (k1 : x 12 w = y 6 w) (k4 : x 16 w = y 12 w) : f_X10_yearOf y (nI w) 1 = some (lyN x w, y) := by
  unfold f_X10_yearOf lyN
  simp only [ui_n hw (show 16 < 2 ^ 31 by decide), nI_clamp (show w < 2 ^ 31 by omega), ← k1, ← k4, show ¬ (1 : Int32) = 0 from by decide, if_false]
  by_cases c : x 12 w = 0
  · rw [if_pos c, if_pos c]
  · rw [if_neg c, if_neg c]
theorem agree_loop {x y : St} (h : Rel x y) {l n : Nat} (hl : l < 4) (e1 : x (35 + 9 * l) 4 = nI n) (e2 : y 16 l = nI n) (hn : n ≤ 3) (hr : ∀ i, i < n → x (35 + 9 * l + 6) i = y 17 (3 * l + i) ∧ ∃ w, w < 16 ∧ x (35 + 9 * l + 6) i = nI w ∧ wordOK x y w) :
    ∀ m j fuel v, j + m = n → m < fuel → ∃ r, f_X9_agrees_33 fuel x l v (nI j) = some (r, x) ∧ f_X10_agrees_27 fuel y (nI l) v (nI j) = some (r, y) := by
  obtain ⟨⟨t, ht, f1, f2, hq⟩, g1, g2, g3, g4⟩ := h.2.2.2.2.1
  have he : ∀ i, i < t → x 72 i = y 22 i ∧ x 73 i = y 23 i ∧ x 74 i = y 24 i := fun i hi => ⟨(hq i hi).1, (hq i hi).2.1, (hq i hi).2.2.1⟩
  intro m
  induction m with
  | zero =>
    intro j fuel v hj hf
    obtain ⟨g, rfl⟩ : ∃ g, fuel = g + 1 := ⟨fuel - 1, by omega⟩
    have ej : j = n := by omega
    subst ej
    refine ⟨v, ?_, ?_⟩
    · rw [f_X9_agrees_33, e1, if_pos (nI_le (Nat.le_refl _) (by omega))]
    · rw [f_X10_agrees_27, ui_n hl (by decide), nI_clamp (by omega), e2, if_pos (nI_le (Nat.le_refl _) (by omega))]
  | succ m ih =>
    intro j fuel v hj hf
    obtain ⟨g, rfl⟩ : ∃ g, fuel = g + 1 := ⟨fuel - 1, by omega⟩
    have hjn : j < n := by omega
    obtain ⟨q1, w, hw, q2, q3⟩ := hr j hjn
    obtain ⟨-, k1, -, k2, k3, k4, kk⟩ := q3
    have hk := kind_yrs kk
    have e3 : (3 : Int32) * nI l + nI j = nI (3 * l + j) := by rw [show (3 : Int32) = nI 3 from by decide, pk_mul, nI_add]
    rw [f_X9_agrees_33, f_X10_agrees_27, ui_n hl (by decide), nI_clamp (show l < 2 ^ 31 by omega), e1, e2, if_neg (nI_ge hjn (by omega)), if_neg (nI_ge hjn (by omega)), e3]
    simp only [ui_n (show j < 3 by omega) (show 3 < 2 ^ 31 by decide), ui_n (show 3 * l + j < 12 by omega) (show 12 < 2 ^ 31 by decide), nI_clamp (show j < 2 ^ 31 by omega), nI_clamp (show 3 * l + j < 2 ^ 31 by omega), ul_eq, ← q1, q2, p_fy hw, p_ly hw, p_fyM hw k1 k3, p_lyM hw k1 k4, p_spanX f1 ht hw g3 hk, p_spanM f2 ht he hw g1 g2 k1 k2 k3 k4 hk, ub_some, nI_1]
    by_cases hz : spB x t w = 0
    · simp only [if_pos hz]
      refine ⟨-9, rfl, ?_⟩
      by_cases c : fyN x w ≤ v
      · rw [if_pos c]
      · rw [if_neg c]
    · simp only [if_neg hz]
      by_cases c : fyN x w ≤ v
      · have c' : ¬ v < fyN x w := by rw [i_le] at c; rw [i_lt]; omega
        simp only [if_neg c', if_pos c]
        by_cases d : v ≤ lyN x w
        · simp only [if_pos d]; exact ih (j + 1) g v (by omega) (by omega)
        · simp only [if_neg d]; exact ⟨_, rfl, rfl⟩
      · have c' : v < fyN x w := by rw [i_le] at c; rw [i_lt]; omega
        simp only [if_pos c', if_neg c]
        by_cases d : fyN x w ≤ lyN x w
        · simp only [if_pos d]; exact ih (j + 1) g (fyN x w) (by omega) (by omega)
        · simp only [if_neg d]; exact ⟨_, rfl, rfl⟩
theorem op_agrees {x y : St} (h : Rel x y) (a1 : Int32) : ∃ (r : Int32) (x' y' : St), f_X9_agrees x a1 = some (r, x') ∧ f_X10_agrees y a1 = some (r, y') ∧ Rel x' y' := by
  unfold f_X9_agrees f_X10_agrees
  simp only [p_isLine, p_mLine, ub_some, bI_z, ite_not]
  by_cases h1 : 0 ≤ a1.toInt ∧ a1.toInt ≤ 3
  · rw [if_pos h1, if_pos h1]
    obtain ⟨l, hl, rfl⟩ := n_of (N := 4) (v := a1) (by omega) (by decide)
    rw [ui_n hl (by decide), ui_n hl (by decide), nI_clamp (by omega)]
    obtain ⟨W, hD, hF, -⟩ := h.2.2.2.2.2.2.2
    obtain ⟨n, hn, e1, e2, hr, -⟩ := hF l hl
    rw [e1, e2]
    by_cases hz : nI n = 0
    · rw [if_pos hz, if_pos hz]; exact ⟨_, _, _, rfl, rfl, h⟩
    · rw [if_neg hz, if_neg hz]
      obtain ⟨r, r1, r2⟩ := agree_loop h hl e1 e2 hn (fun i hi => by
        obtain ⟨q1, -, -, ⟨w, hw, q2, -⟩, -⟩ := hr i hi
        exact ⟨q1, w, by have := hD.1; omega, q2, hD.2.2.2.1 w hw⟩) n 0 fu 1700 (by omega) (by unfold fu; omega)
      rw [nI_0] at r1 r2
      exact ⟨r, x, y, r1, r2, h⟩
  · rw [if_neg h1, if_neg h1]; exact ⟨_, _, _, rfl, rfl, h⟩
