theorem p_street {x : St} {t : Nat} (ht : x 71 3 = nI t) (h8 : t ≤ 8) : f_X6_latestYear x = some (if t = 0 then 1699 else x 72 (t - 1), x) := by
  unfold f_X6_latestYear
  rw [ht]
  by_cases h : t = 0
  · subst h
    rw [if_pos (show nI 0 ≤ 0 by decide), if_pos rfl]
  · have e : nI t - 1 = nI (t - 1) := by rw [show (1 : Int32) = nI 1 from by decide]; exact pk_sub (by omega)
    rw [if_neg (nI_nle (by omega) (by omega)), if_neg h, e, ui_n (by omega) (by decide), nI_clamp (by omega)]
theorem p_streetFull {x : St} {n : Nat} (hn : x 71 3 = nI n) (h : n ≤ 8) : f_X6_isFull x = some (bI (8 ≤ n), x) := by
  unfold f_X6_isFull
  rw [hn]
  exact bI_full (by decide) (by omega) (by decide)
theorem p_streetAdd {x : St} {n : Nat} (hn : x 71 3 = nI n) (h : n < 8) (a b c : Int32) : f_X6_add x a b c = some ((), us (us (us (us x 72 n a) 73 n b) 74 n c) 71 3 (nI (n + 1))) := by
  unfold f_X6_add
  simp only [ul_eq, us_d (k := 72) (q := 71) rfl, us_d (k := 73) (q := 71) rfl, us_d (k := 74) (q := 71) rfl, hn, ui_n h (show 8 < 2 ^ 31 by decide), nI_clamp (show n < 2 ^ 31 by omega), nI_1]
theorem p_ren51 {y : St} {n : Nat} (hn : y 0 26 = nI n) (h : n ≤ 8) (a b c : Int32) : f_X10_renumber_51 y a b c = if n = 8 then some (-2, y) else some (nI (n + 1), us (us (us (us y 22 n a) 23 n b) 24 n c) 0 26 (nI (n + 1))) := by
  unfold f_X10_renumber_51
  rw [hn]
  by_cases e : n = 8
  · subst e
    rw [if_pos (by decide), if_pos rfl]
  · have hlt : n < 8 := by omega
    rw [if_neg (nI_nq (k := 8) (by decide) e (by omega) (by decide)), if_neg e]
    simp only [ul_eq, us_d (k := 22) (q := 0) rfl, us_d (k := 23) (q := 0) rfl, us_d (k := 24) (q := 0) rfl, hn, ui_n hlt (show 8 < 2 ^ 31 by decide), nI_clamp (show n < 2 ^ 31 by omega), nI_1, us_at]
theorem op_renumber {x y : St} (h : Rel x y) (a1 a2 a3 : Int32) : ∃ (r : Int32) (x' y' : St), f_X9_renumber x a1 a2 a3 = some (r, x') ∧ f_X10_renumber y a1 a2 a3 = some (r, y') ∧ Rel x' y' := by
  obtain ⟨⟨t, ht, e1, e2, hr⟩, g1, g2, g3, g4⟩ := h.2.2.2.2.1
  unfold f_X9_renumber f_X10_renumber
  simp only [p_year, p_mYear, p_in, p_street e1 ht, p_streetFull e1 ht, p_ren51 e2 ht, ub_some, bI_z, ite_not, i_lt, i_le, e2]
  rw [show (1 : Int32).toInt = 1 from by decide, show (3 : Int32).toInt = 3 from by decide, show (-100 : Int32).toInt = -100 from by decide, show (100 : Int32).toInt = 100 from by decide, show (0 : Int32).toInt = 0 from by decide, nI_toInt (by omega)]
  by_cases h1 : 1700 ≤ a1.toInt ∧ a1.toInt ≤ 2100
  · rw [if_pos h1, if_pos h1]
    by_cases h2 : 1 ≤ a2.toInt ∧ a2.toInt ≤ 3
    · rw [if_neg (show ¬ a2.toInt < 1 by omega), if_neg (show ¬ 3 < a2.toInt by omega), if_pos h2]
      by_cases h3 : -100 ≤ a3.toInt ∧ a3.toInt ≤ 100
      · rw [if_neg (show ¬ a3.toInt < -100 by omega), if_pos h3.2, if_pos h3]
        have fin : ∃ (r : Int32) (x' y' : St), (if 8 ≤ t then some (-2, x) else ub (f_X6_add x a1 a2 a3) fun r7 σ8 => some (σ8 71 3, σ8)) = some (r, x') ∧ (if t = 8 then some (-2, y) else some (nI (t + 1), us (us (us (us y 22 t a1) 23 t a2) 24 t a3) 0 26 (nI (t + 1)))) = some (r, y') ∧ Rel x' y' := by
          by_cases hf : t = 8
          · rw [if_pos (show 8 ≤ t by omega), if_pos hf]; exact ⟨_, _, _, rfl, rfl, h⟩
          · have hlt : t < 8 := by omega
            rw [if_neg (show ¬ 8 ≤ t by omega), if_neg hf, p_streetAdd e1 hlt, ub_some]
            refine ⟨nI (t + 1), us (us (us (us x 72 t a1) 73 t a2) 74 t a3) 71 3 (nI (t + 1)), us (us (us (us y 22 t a1) 23 t a2) 24 t a3) 0 26 (nI (t + 1)), by rw [us_at], rfl, Rel_G h (fun q hq => ?_) (fun q hq => ?_) rfl rfl rfl rfl rfl rfl ⟨⟨t + 1, by omega, us_at, us_at, fun i hi => ?_⟩, g1, g2, g3, g4⟩⟩
            · rw [us_n (by omega), us_n (by omega), us_n (by omega), us_n (by omega)]
            · rw [us_n (by omega), us_n (by omega), us_n (by omega), us_n (by omega)]
            · show upd (x 72) t a1 i = upd (y 22) t a1 i ∧ upd (x 73) t a2 i = upd (y 23) t a2 i ∧ upd (x 74) t a3 i = upd (y 24) t a3 i ∧ (1700 ≤ (upd (x 72) t a1 i).toInt ∧ (upd (x 72) t a1 i).toInt ≤ 2100) ∧ (1 ≤ (upd (x 73) t a2 i).toInt ∧ (upd (x 73) t a2 i).toInt ≤ 3) ∧ (-100 ≤ (upd (x 74) t a3 i).toInt ∧ (upd (x 74) t a3 i).toInt ≤ 100)
              unfold upd
              by_cases e : i = t
              · simp only [if_pos e]; exact ⟨trivial, trivial, trivial, h1, h2, h3⟩
              · simp only [if_neg e]; exact hr i (by omega)
        by_cases h0 : t = 0
        · rw [if_pos h0, if_pos (show (1699 : Int32).toInt < a1.toInt by rw [show (1699 : Int32).toInt = 1699 from by decide]; omega), if_pos (show (t : Int) ≤ 0 by omega)]
          exact fin
        · have e : nI t - 1 = nI (t - 1) := by rw [show (1 : Int32) = nI 1 from by decide]; exact pk_sub (by omega)
          rw [if_neg h0, if_neg (show ¬ (t : Int) ≤ 0 by omega), e, ui_n (show t - 1 < 8 by omega) (by decide), nI_clamp (by omega), ← (hr (t - 1) (by omega)).1]
          by_cases hy : (x 72 (t - 1)).toInt < a1.toInt
          · rw [if_pos hy, if_pos hy]; exact fin
          · rw [if_neg hy, if_neg hy]; exact ⟨_, _, _, rfl, rfl, h⟩
      · rw [if_neg h3]
        by_cases g : a3.toInt < -100
        · rw [if_pos g]; exact ⟨_, _, _, rfl, rfl, h⟩
        · rw [if_neg g, if_neg (show ¬ a3.toInt ≤ 100 by omega)]; exact ⟨_, _, _, rfl, rfl, h⟩
    · rw [if_neg h2]
      by_cases g : a2.toInt < 1
      · rw [if_pos g]; exact ⟨_, _, _, rfl, rfl, h⟩
      · rw [if_neg g, if_pos (show 3 < a2.toInt by omega)]; exact ⟨_, _, _, rfl, rfl, h⟩
  · rw [if_neg h1, if_neg h1]; exact ⟨_, _, _, rfl, rfl, h⟩
