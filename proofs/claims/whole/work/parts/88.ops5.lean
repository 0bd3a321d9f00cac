theorem Rel_F {x x' y y' : St} (h : Rel x y) (hx : ∀ k, (k < 35 ∨ 70 < k) → x' k = x k) (hc : ∀ l u, l < 4 → u < 4 → x' (35 + 9 * l + 2 + u) = x (35 + 9 * l + 2 + u)) (hy : ∀ k, k ≠ 16 ∧ k ≠ 17 ∧ k ≠ 18 ∧ k ≠ 19 → y' k = y k) (hn : ∀ W, RD W x y → RF W x y → RF W x' y') : Rel x' y' := by
  obtain ⟨hA, hB, hC, hE, hG, hH, hJ, W, hD, hF, hI⟩ := h
  exact ⟨RA_of (by rw [hx 0 (by omega)]) (by rw [hx 0 (by omega)]) (hx _ (by omega)) (by rw [hy 0 (by omega)]) (by rw [hy 0 (by omega)]) (hy _ (by omega)) hA, RB_of (hx _ (by omega)) (hy _ (by omega)) hB, RC_of (hx _ (by omega)) (fun s hs => hx _ (by omega)) (hy _ (by omega)) (hy _ (by omega)) hC, RE_of hc (hy _ (by omega)) hE, RG_of (hx _ (by omega)) (hx _ (by omega)) (hx _ (by omega)) (hx _ (by omega)) (by rw [hy 0 (by omega)]) (by rw [hy 0 (by omega)]) (by rw [hy 0 (by omega)]) (hy _ (by omega)) (hy _ (by omega)) (hy _ (by omega)) hG, RH_of (hx _ (by omega)) (hx _ (by omega)) (hx _ (by omega)) (hx _ (by omega)) (hx _ (by omega)) (by rw [hy 0 (by omega)]) (hy _ (by omega)) (hy _ (by omega)) (hy _ (by omega)) (hy _ (by omega)) hH, RJ_of (hx _ (by omega)) (hx _ (by omega)) (hx _ (by omega)) (by rw [hy 0 (by omega)]) (hy _ (by omega)) (hy _ (by omega)) (hy _ (by omega)) hJ, W, RD_of (by rw [hx 8 (by omega)]) (fun w hw => hx _ (by omega)) (hx _ (by omega)) (hx _ (by omega)) (hx _ (by omega)) (hx _ (by omega)) (hx _ (by omega)) (hx _ (by omega)) (hx _ (by omega)) (by rw [hy 0 (by omega)]) (hy _ (by omega)) (hy _ (by omega)) (hy _ (by omega)) (hy _ (by omega)) (hy _ (by omega)) (hy _ (by omega)) (hy _ (by omega)) (hy _ (by omega)) hD, hn W hD hF, RI_of (hx _ (by omega)) (hx _ (by omega)) (hx _ (by omega)) (by rw [hy 0 (by omega)]) (hy _ (by omega)) (hy _ (by omega)) hI⟩
theorem op_bare {x y : St} (h : Rel x y) (a1 : Int32) : ∃ (r : Int32) (x' y' : St), f_X9_bare x a1 = some (r, x') ∧ f_X10_bare y a1 = some (r, y') ∧ Rel x' y' := by
  unfold f_X9_bare f_X10_bare
  simp only [p_isLine, p_mLine, ub_some, bI_z, ite_not]
  by_cases h1 : 0 ≤ a1.toInt ∧ a1.toInt ≤ 3
  · rw [if_pos h1, if_pos h1]
    obtain ⟨j, hj, rfl⟩ := n_of (N := 4) (v := a1) (by omega) (by decide)
    simp only [ui_n hj (show 4 < 2 ^ 31 by decide), nI_clamp (show j < 2 ^ 31 by omega), ul_eq]
    obtain ⟨W, hD, hF, -⟩ := h.2.2.2.2.2.2.2
    obtain ⟨n, hn, e1, e2, -⟩ := hF j hj
    refine ⟨x (35 + 9 * j) 4, us x (35 + 9 * j) 4 0, us y 16 j 0, rfl, by rw [e1, e2], Rel_F h (fun k hk => us_n (by omega)) (fun l u hl hu => us_n (by omega)) (fun k hk => us_n (by omega)) ?_⟩
    intro W' hD' hF' l hl
    by_cases e : l = j
    · subst e
      refine ⟨0, by omega, us_at, us_at, fun i hi => absurd hi (by omega), fun i k hi => absurd hi (by omega)⟩
    · rw [us_n (show 35 + 9 * l ≠ 35 + 9 * j by omega), us_n (show 35 + 9 * l + 6 ≠ 35 + 9 * j by omega), us_n (show 35 + 9 * l + 7 ≠ 35 + 9 * j by omega), us_n (show 35 + 9 * l + 8 ≠ 35 + 9 * j by omega), us_n (show 11 ≠ 35 + 9 * j by omega), us_n (show (17 : Nat) ≠ 16 by omega), us_n (show (18 : Nat) ≠ 16 by omega), us_n (show (19 : Nat) ≠ 16 by omega), us_e]
      have e9 : upd (y 16) j 0 l = y 16 l := by unfold upd; rw [if_neg e]
      rw [e9]
      exact hF' l hl
  · rw [if_neg h1, if_neg h1]; exact ⟨_, _, _, rfl, rfl, h⟩
theorem p_fact {x : St} {l i : Nat} (hi : i < 3) (v : Int32) : f_X2_factOf x l (nI i) v = some (if v = 0 then x (35 + 9 * l + 6) i else if v = 1 then x (35 + 9 * l + 7) i else x (35 + 9 * l + 8) i, x) := by
  unfold f_X2_factOf
  simp only [ui_n hi (show 3 < 2 ^ 31 by decide), nI_clamp (show i < 2 ^ 31 by omega)]
  by_cases h0 : v = 0
  · rw [if_pos h0, if_pos h0]
  · rw [if_neg h0, if_neg h0]
    by_cases h1 : v = 1
    · rw [if_pos h1, if_pos h1]
    · rw [if_neg h1, if_neg h1]
theorem op_layerTold {x y : St} (h : Rel x y) (a1 a2 a3 : Int32) : ∃ (r : Int32) (x' y' : St), f_X9_layerTold x a1 a2 a3 = some (r, x') ∧ f_X10_layerTold y a1 a2 a3 = some (r, y') ∧ Rel x' y' := by
  unfold f_X9_layerTold f_X10_layerTold
  simp only [p_isLine, p_mLine, p_in, ub_some, bI_z, ite_not, i_lt, i_le, ul_eq]
  rw [show (0 : Int32).toInt = 0 from by decide, show (2 : Int32).toInt = 2 from by decide]
  by_cases h1 : 0 ≤ a1.toInt ∧ a1.toInt ≤ 3
  · rw [if_pos h1, if_pos h1]
    obtain ⟨j, hj, rfl⟩ := n_of (N := 4) (v := a1) (by omega) (by decide)
    simp only [ui_n hj (show 4 < 2 ^ 31 by decide), nI_clamp (show j < 2 ^ 31 by omega)]
    by_cases h3 : 0 ≤ a3.toInt ∧ a3.toInt ≤ 2
    · rw [if_neg (show ¬ a3.toInt < 0 by omega), if_pos h3.2, if_pos h3]
      obtain ⟨W, hD, hF, -⟩ := h.2.2.2.2.2.2.2
      obtain ⟨n, hn, e1, e2, hr, -⟩ := hF j hj
      simp only [e1, e2, nI_m (v := 1) (k := 1) (by decide) (show n < 2 ^ 30 by omega) (by decide), nI_toInt (show n < 2 ^ 31 by omega)]
      by_cases h2 : 0 ≤ a2.toInt ∧ a2.toInt ≤ (n : Int) - (1 : Nat)
      · rw [if_neg (show ¬ a2.toInt < 0 by omega), if_pos (show a2.toInt < (n : Int) by omega), if_pos h2]
        obtain ⟨i, hi, rfl⟩ := n_of (N := n) (v := a2) (by omega) (by omega)
        have e3 : (3 : Int32) * nI j + nI i = nI (3 * j + i) := by rw [show (3 : Int32) = nI 3 from by decide, pk_mul, nI_add]
        obtain ⟨g1, g2, g3, -⟩ := hr i hi
        simp only [e3, ui_n (show 3 * j + i < 12 by omega) (show 12 < 2 ^ 31 by decide), nI_clamp (show 3 * j + i < 2 ^ 31 by omega), p_fact (show i < 3 by omega), ub_some, g1, g2, g3]
        by_cases z0 : a3 = 0
        · simp only [if_pos z0]; exact ⟨_, _, _, rfl, rfl, h⟩
        · simp only [if_neg z0]
          by_cases z1 : a3 = 1
          · simp only [if_pos z1]; exact ⟨_, _, _, rfl, rfl, h⟩
          · simp only [if_neg z1]; exact ⟨_, _, _, rfl, rfl, h⟩
      · rw [if_neg h2]
        by_cases g : a2.toInt < 0
        · rw [if_pos g]; exact ⟨_, _, _, rfl, rfl, h⟩
        · rw [if_neg g, if_neg (show ¬ a2.toInt < (n : Int) by omega)]; exact ⟨_, _, _, rfl, rfl, h⟩
    · rw [if_neg h3]
      by_cases g : a3.toInt < 0
      · rw [if_pos g]; exact ⟨_, _, _, rfl, rfl, h⟩
      · rw [if_neg g, if_neg (show ¬ a3.toInt ≤ 2 by omega)]; exact ⟨_, _, _, rfl, rfl, h⟩
  · rw [if_neg h1, if_neg h1]; exact ⟨_, _, _, rfl, rfl, h⟩
