-- firm
theorem firm_put {x y : St} {W s n : Nat} {a2 a3 a4 a5 v6 k : Int32} (h : Rel x y) (hD : RD W x y) (hlt : W < 16) (hs : s < 4) (hn : n ≤ 10) (e1 : x 3 s = nI n) (e2 : y 3 s = nI n) (hy3 : yr3 a2 a3 a4) (h5 : (a5 = -9 ∧ v6 = 0 ∧ k = 1) ∨ (v6 = 1 ∧ k = 2 ∧ ∃ w, w < W ∧ a5 = nI w ∧ (x 12 w = 1 ∨ x 12 w = 2))) : ∃ (r : Int32) (x' y' : St), f_X9_firm_142 x (nI s) a2 a3 a4 a5 v6 = some (r, x') ∧ (ub (f_X10_put y (nI s) k a2 a3 a4 a5) fun r σ => some (r, σ)) = some (r, y') ∧ Rel x' y' := by
  obtain ⟨hW, w1, w2, -⟩ := id hD
  obtain ⟨-, hC2⟩ := h.2.2.1 s hs
  unfold f_X9_firm_142
  rw [p_makes hs hn e1, ub_some]
  simp only [bI_z, ite_not, ui_n hs (show 4 < 2 ^ 31 by decide), nI_clamp (show s < 2 ^ 31 by omega)]
  by_cases hL : 1 ≤ sm n (isl x s) ∧ sm n (isl x s) ≤ 8
  · rw [if_pos hL, e1]
    obtain ⟨y', g1, g2⟩ := p_put hlt w2 hs hn e2 (fun j hj => (hC2 j hj).1) hL k a2 a3 a4 a5
    rw [g1, ub_some]
    rcases h5 with ⟨q1, q2, q3⟩ | ⟨q2, q3, q4⟩
    · obtain ⟨x', f1, f2⟩ := p_addX hlt w1 hs hn hL.2 (fun j hj => (hC2 j hj).2) 1 a5
      obtain ⟨x2, f3, f4⟩ := p_settle hlt f2 a2 a3 a4
      rw [if_pos q2, f1, ub_some, f3, ub_some]
      subst q3
      exact ⟨_, _, _, rfl, rfl, new_rel h hlt hD hL f4 g2 (Or.inr (Or.inl ⟨rfl, q1, hy3⟩))⟩
    · obtain ⟨x', f1, f2⟩ := p_addX hlt w1 hs hn hL.2 (fun j hj => (hC2 j hj).2) 2 a5
      obtain ⟨x2, f3, f4⟩ := p_settle hlt f2 a2 a3 a4
      rw [if_neg (by rw [q2]; decide), f1, ub_some, f3, ub_some]
      subst q3
      exact ⟨_, _, _, rfl, rfl, new_rel h hlt hD hL f4 g2 (Or.inr (Or.inr ⟨Or.inl rfl, hy3, q4⟩))⟩
  · rw [if_neg hL, p_putB hs hn e2 (fun j hj => (hC2 j hj).1) hL, p_refuse x (k := 5) (by decide) (by decide), ub_some, ub_some]
    exact ⟨_, _, _, rfl, rfl, rel_rf (by decide) h⟩
theorem firm_body {x y : St} {W s : Nat} {a2 a3 a4 a5 v6 : Int32} (h : Rel x y) (hD : RD W x y) (hs : s < 4) (hy3 : yr3 a2 a3 a4) (h5 : (a5 = -9 ∧ v6 = 0) ∨ (v6 = 1 ∧ ∃ w, w < W ∧ a5 = nI w)) : ∃ (r : Int32) (x' y' : St), f_X9_firm_47 x (nI s) a2 a3 a4 a5 v6 = some (r, x') ∧ f_X10_firm_51 y (nI s) a2 a3 a4 a5 = some (r, y') ∧ Rel x' y' := by
  obtain ⟨hW, w1, w2, hwd, hst, -⟩ := id hD
  obtain ⟨hC1, hC2⟩ := h.2.2.1 s hs
  unfold f_X9_firm_47 f_X10_firm_51
  have uj : ∀ {α : Type} {k : Option α}, ui (nI s) 4 k = k := ui_n hs (by decide)
  have cj : (nI s).toNatClampNeg = s := nI_clamp (by omega)
  simp only [p_year, p_wFull w1 hW, ub_some, bI_z, ite_not, i_le]
  rw [if_pos (show 1700 ≤ a3.toInt ∧ a3.toInt ≤ 2100 by have := hy3.2; omega), if_pos (show 1700 ≤ a4.toInt ∧ a4.toInt ≤ 2100 by have := hy3.2; omega), if_pos hy3.2.2.1, w2]
  by_cases hf : W = 16
  · rw [if_pos (show 16 ≤ W by omega), if_pos (by rw [hf]; decide)]; exact ⟨_, _, _, rfl, rfl, h⟩
  · have hlt : W < 16 := by omega
    rw [if_neg (show ¬ 16 ≤ W by omega), if_neg (nI_nq (k := 16) (by decide) hf (by omega) (by decide)), p_there hs, ub_some]
    simp only [bI_z, Decidable.not_not, uj, cj]
    rcases hC1 with ⟨e1, e2⟩ | ⟨n, hn, e1, e2⟩
    · rw [if_pos e1, e2, if_pos (show (-9 : Int32) < 0 by decide), p_refuse x (k := 1) (by decide) (by decide), p_meets y (k := 1) (by decide) (by decide), ub_some, ub_some]
      exact ⟨_, _, _, rfl, rfl, rel_rf (by decide) h⟩
    · rw [if_neg (show ¬ x 3 s = -1 by rw [e1]; exact nI_m1 (by omega)), if_neg (show ¬ y 3 s < 0 by rw [e2]; exact nI_pos (by omega))]
      unfold f_X10_firm_95
      rcases h5 with ⟨q1, q2⟩ | ⟨q2, w, hw, q1⟩
      · rw [if_pos q2, if_pos q2, if_pos q1, if_pos q1, if_pos q1]
        exact firm_put h hD hlt hs hn e1 e2 hy3 (Or.inl ⟨q1, q2, rfl⟩)
      · have h16 : w < 16 := by omega
        have n9 : ¬ a5 = -9 := by rw [q1]; exact nI_m9 (by omega)
        have uw : ∀ {α : Type} {k : Option α}, ui (nI w) 16 k = k := ui_n h16 (by decide)
        have cw : (nI w).toNatClampNeg = w := nI_clamp (by omega)
        obtain ⟨-, k1, -⟩ := hwd w hw
        have z6 : ¬ v6 = 0 := by rw [q2]; decide
        simp only [if_neg z6, if_neg n9]
        rw [q1]
        simp only [uw, cw, ← (hst w h16).1]
        by_cases hz : x 17 w = 0
        · rw [if_pos hz, if_pos hz, p_isOf h16, p_isFirmM h16 k1, ub_some, ub_some]
          simp only [bI_z, ite_not]
          by_cases hq : x 12 w = 1 ∨ (True ∧ x 12 w = 2)
          · rw [if_pos hq, if_pos hq]
            exact firm_put h hD hlt hs hn e1 e2 hy3 (Or.inr ⟨q2, rfl, w, hw, rfl, hq.imp id (fun q => q.2)⟩)
          · rw [if_neg hq, if_neg hq, p_refuse x (k := 3) (by decide) (by decide), p_meets y (k := 3) (by decide) (by decide), ub_some, ub_some]
            exact ⟨_, _, _, rfl, rfl, rel_rf (by decide) h⟩
        · rw [if_neg hz, if_neg hz, p_refuse x (k := 1) (by decide) (by decide), p_meets y (k := 1) (by decide) (by decide), ub_some, ub_some]
          exact ⟨_, _, _, rfl, rfl, rel_rf (by decide) h⟩
theorem firm_bad {x : St} {a1 a2 a3 a4 a5 v6 : Int32} (hb : ¬ (1700 ≤ a3.toInt ∧ a3.toInt ≤ 2100 ∧ a3.toInt ≤ a4.toInt ∧ a4.toInt ≤ 2100)) : f_X9_firm_47 x a1 a2 a3 a4 a5 v6 = some (-1, x) := by
  unfold f_X9_firm_47
  simp only [p_year, ub_some, bI_z, ite_not, i_le]
  by_cases c1 : 1700 ≤ a3.toInt ∧ a3.toInt ≤ 2100
  · rw [if_pos c1]
    by_cases c2 : 1700 ≤ a4.toInt ∧ a4.toInt ≤ 2100
    · rw [if_pos c2, if_neg (by omega)]
    · rw [if_neg c2]
  · rw [if_neg c1]
theorem op_firm {x y : St} (h : Rel x y) (a1 a2 a3 a4 a5 : Int32) : ∃ (r : Int32) (x' y' : St), f_X9_firm x a1 a2 a3 a4 a5 = some (r, x') ∧ f_X10_firm y a1 a2 a3 a4 a5 = some (r, y') ∧ Rel x' y' := by
  obtain ⟨W, hD, -⟩ := h.2.2.2.2.2.2.2
  obtain ⟨hW, w1, w2, -⟩ := id hD
  unfold f_X9_firm f_X10_firm
  simp only [p_sheetNo, p_mSheet, p_houseNo, p_mHouse, p_mYear, p_in, p_wordNo w1 hW, p_mWord w2 hW, ub_some, bI_z, ite_not]
  rw [show (2100 : Int32).toInt = 2100 from by decide]
  by_cases h1 : 0 ≤ a1.toInt ∧ a1.toInt ≤ 3
  · simp only [if_pos h1]
    by_cases h2 : 1 ≤ a2.toInt ∧ a2.toInt ≤ 200
    · simp only [if_pos h2]
      obtain ⟨s, hs, rfl⟩ := n_of (N := 4) (v := a1) (by omega) (by decide)
      by_cases hb : 1700 ≤ a3.toInt ∧ a3.toInt ≤ 2100 ∧ a3.toInt ≤ a4.toInt ∧ a4.toInt ≤ 2100
      · rw [if_pos (show 1700 ≤ a3.toInt ∧ a3.toInt ≤ 2100 by omega), if_pos (show a3.toInt ≤ a4.toInt ∧ a4.toInt ≤ 2100 by omega)]
        have hy3 : yr3 a2 a3 a4 := ⟨h2, hb.1, hb.2.2⟩
        by_cases c5 : a5 = -9
        · rw [if_pos c5, if_pos c5]
          exact firm_body h hD hs hy3 (Or.inl ⟨c5, rfl⟩)
        · rw [if_neg c5, if_neg c5]
          by_cases h5 : 0 ≤ a5.toInt ∧ a5.toInt ≤ (W : Int) - 1
          · rw [if_pos h5, if_pos h5]
            obtain ⟨w, hw, rfl⟩ := n_of (N := W) (v := a5) (by omega) (by omega)
            exact firm_body h hD hs hy3 (Or.inr ⟨rfl, w, hw, rfl⟩)
          · rw [if_neg h5, if_neg h5]; exact ⟨_, _, _, rfl, rfl, h⟩
      · refine ⟨-1, x, y, ?_, ?_, h⟩
        · by_cases c5 : a5 = -9
          · rw [if_pos c5]; exact firm_bad hb
          · rw [if_neg c5]
            by_cases h5 : 0 ≤ a5.toInt ∧ a5.toInt ≤ (W : Int) - 1
            · rw [if_pos h5]; exact firm_bad hb
            · rw [if_neg h5]
        · by_cases c3 : 1700 ≤ a3.toInt ∧ a3.toInt ≤ 2100
          · rw [if_pos c3, if_neg (by omega)]
          · rw [if_neg c3]
    · simp only [if_neg h2]
      refine ⟨-1, x, y, ?_, rfl, h⟩
      by_cases c5 : a5 = -9
      · rw [if_pos c5]
      · rw [if_neg c5]
  · simp only [if_neg h1]
    refine ⟨-1, x, y, ?_, rfl, h⟩
    by_cases c5 : a5 = -9
    · rw [if_pos c5]
    · rw [if_neg c5]
