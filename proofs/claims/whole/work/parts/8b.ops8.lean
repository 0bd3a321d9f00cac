theorem cut_rng (w : Int32) : 1 ≤ (cutN w).toInt ∧ (cutN w).toInt ≤ 200 := by
  unfold cutN
  simp only [i_lt]
  have e1 : (1 : Int32).toInt = 1 := by decide
  have e2 : (200 : Int32).toInt = 200 := by decide
  by_cases c : w.toInt < (1 : Int32).toInt
  · rw [if_pos c, e1]; omega
  · rw [if_neg c]
    by_cases d : (200 : Int32).toInt < w.toInt
    · rw [if_pos d, e2]; omega
    · rw [if_neg d]; omega
theorem bc_rng {x : St} {a b v : Int32} (h : 1 ≤ v.toInt ∧ v.toInt ≤ 200) : ∀ i, 1 ≤ (bcN x a b v i).toInt ∧ (bcN x a b v i).toInt ≤ 200
  | 0 => h
  | i + 1 => by
    have ih := bc_rng (x := x) (a := a) (b := b) h i
    show 1 ≤ (stN x a b (bcN x a b v i) i).toInt ∧ (stN x a b (bcN x a b v i) i).toInt ≤ 200
    unfold stN
    by_cases c1 : x 72 i ≤ a
    · rw [if_pos c1]; exact ih
    · rw [if_neg c1]
      by_cases c2 : b < x 72 i
      · rw [if_pos c2]; exact ih
      · rw [if_neg c2]; exact cut_rng _
/-- a word has a span -/
def spN (x : St) (t w : Nat) : Prop := x 12 w = 0 ∨ (x 71 5 ≤ x 16 w ∧ bcN x (x 71 5) (x 16 w) (x 71 4) t = bcN x (x 15 w) (x 16 w) (x 14 w) t)
def spB (x : St) (t w : Nat) : Int32 := if x 12 w = 0 then 1 else if x 71 5 ≤ x 16 w then (if bcN x (x 71 5) (x 16 w) (x 71 4) t = bcN x (x 15 w) (x 16 w) (x 14 w) t then 1 else 0) else 0
theorem p_spanX {x : St} {t w : Nat} (ht : x 71 3 = nI t) (h8 : t ≤ 8) (hw : w < 16) (hh : 1 ≤ (x 71 4).toInt ∧ (x 71 4).toInt ≤ 200) (hk : x 12 w = 0 ∨ yrs x w) : f_X9_hasSpan x (nI w) = some (spB x t w, x) := by
  unfold f_X9_hasSpan spB
  simp only [ui_n hw (show 16 < 2 ^ 31 by decide), nI_clamp (show w < 2 ^ 31 by omega), ul_eq, p_became ht h8]
  by_cases c0 : x 12 w = 0
  · rw [if_pos c0, if_pos c0]
  · rw [if_neg c0, if_neg c0]
    by_cases c1 : x 71 5 ≤ x 16 w
    · have n9 : ¬ bcN x (x 71 5) (x 16 w) (x 71 4) t = -9 := fun e => by
        have := bc_rng (x := x) (a := x 71 5) (b := x 16 w) hh t
        rw [e, show (-9 : Int32).toInt = -9 from by decide] at this
        omega
      have c2 : x 15 w ≤ x 16 w := by rw [i_le]; exact (hk.resolve_left c0).2.2.1
      rw [if_pos c1, if_pos c1, ub_some, if_neg n9, p_became ht h8, if_pos c2, ub_some]
      by_cases c3 : bcN x (x 71 5) (x 16 w) (x 71 4) t = bcN x (x 15 w) (x 16 w) (x 14 w) t
      · rw [if_pos c3, if_pos c3]
      · rw [if_neg c3, if_neg c3]
    · rw [if_neg c1, if_neg c1, ub_some, if_pos rfl]
theorem p_spanM {x y : St} {t w : Nat} (ht : y 0 26 = nI t) (h8 : t ≤ 8) (he : ∀ i, i < t → x 72 i = y 22 i ∧ x 73 i = y 23 i ∧ x 74 i = y 24 i) (hw : w < 16) (g1 : x 71 4 = y 0 30) (g2 : x 71 5 = y 0 31) (k1 : x 12 w = y 6 w) (k2 : x 14 w = y 10 w) (k3 : x 15 w = y 11 w) (k4 : x 16 w = y 12 w) (hk : x 12 w = 0 ∨ yrs x w) : f_X10_hasSpan y (nI w) = some (spB x t w, y) := by
  unfold f_X10_hasSpan spB
  simp only [ui_n hw (show 16 < 2 ^ 31 by decide), nI_clamp (show w < 2 ^ 31 by omega), ul_eq, p_numberIn ht h8 he, ← g1, ← g2, ← k1, ← k2, ← k3, ← k4]
  by_cases c0 : x 12 w = 0
  · rw [if_pos c0, if_pos c0]
  · rw [if_neg c0, if_neg c0]
    by_cases c1 : x 71 5 ≤ x 16 w
    · have c2 : x 15 w ≤ x 16 w := by rw [i_le]; exact (hk.resolve_left c0).2.2.1
      have c4 : ¬ x 16 w < x 71 5 := by rw [i_le] at c1; rw [i_lt]; omega
      rw [if_neg c4, if_pos c1, if_pos c1, ub_some, p_numberIn ht h8 he, ← k2, ← k3, ← k4, if_pos c2, ub_some]
      by_cases c3 : bcN x (x 71 5) (x 16 w) (x 71 4) t = bcN x (x 15 w) (x 16 w) (x 14 w) t
      · rw [if_pos c3, if_pos c3]
      · rw [if_neg c3, if_neg c3]
    · have c4 : x 16 w < x 71 5 := by rw [i_le] at c1; rw [i_lt]; omega
      rw [if_pos c4, if_neg c1]
theorem p_asked {y : St} {w : Nat} {W : Nat} (hW : y 0 7 = nI W) (h : W ≤ 16) (hw : w < W) : f_X10_askedFor y (nI w) = if y 9 w = 0 then some (0, y) else some (-3, rfY y 1) := by
  unfold f_X10_askedFor
  rw [p_mWord hW h, ub_some]
  simp only [bI_z, ite_not]
  rw [if_pos (by rw [nI_toInt (by omega)]; omega), ui_n (by omega) (by decide), nI_clamp (by omega), p_meets y (k := 1) (by decide) (by decide), ub_some]
theorem p_askedB {y : St} {W : Nat} {v : Int32} (hW : y 0 7 = nI W) (h : W ≤ 16) (hv : ¬ (0 ≤ v.toInt ∧ v.toInt ≤ (W : Int) - 1)) : f_X10_askedFor y v = some (-1, y) := by
  unfold f_X10_askedFor
  rw [p_mWord hW h, ub_some]
  simp only [bI_z, ite_not]
  rw [if_neg hv]
theorem kind_yrs {x : St} {w : Nat} (h : kindOK x w) : x 12 w = 0 ∨ yrs x w := by
  rcases h with h | h | h
  · exact Or.inl h.1
  · exact Or.inr h.2.2
  · exact Or.inr h.2.1
theorem op_span {x y : St} (h : Rel x y) (a1 a2 : Int32) : ∃ (r : Int32) (x' y' : St), f_X9_span x a1 a2 = some (r, x') ∧ f_X10_span y a1 a2 = some (r, y') ∧ Rel x' y' := by
  obtain ⟨⟨t, ht, e1, e2, hr⟩, g1, g2, g3, g4⟩ := h.2.2.2.2.1
  have he : ∀ i, i < t → x 72 i = y 22 i ∧ x 73 i = y 23 i ∧ x 74 i = y 24 i := fun i hi => ⟨(hr i hi).1, (hr i hi).2.1, (hr i hi).2.2.1⟩
  obtain ⟨W, hD, -⟩ := h.2.2.2.2.2.2.2
  obtain ⟨hW, w1, w2, hwd, hst, -⟩ := hD
  unfold f_X9_span f_X10_span
  rw [p_wordNo w1 hW, ub_some]
  simp only [bI_z, ite_not]
  by_cases hp : 0 ≤ a1.toInt ∧ a1.toInt ≤ (W : Int) - 1
  · rw [if_pos hp]
    obtain ⟨w, hw, rfl⟩ := n_of (N := W) (v := a1) (by omega) (by omega)
    obtain ⟨-, k1, -, k2, k3, k4, kk⟩ := hwd w hw
    have hk := kind_yrs kk
    have h16 : w < 16 := by omega
    rw [p_asked w2 hW hw, ui_n h16 (by decide), nI_clamp (by omega), ← (hst w h16).1]
    by_cases hs : x 17 w = 0
    · rw [if_pos hs, if_pos hs, ub_some, if_pos (by decide), p_spanX e1 ht h16 g3 hk, p_spanM e2 ht he h16 g1 g2 k1 k2 k3 k4 hk, ub_some, ub_some]
      by_cases hz : spB x t w = 0
      · rw [if_pos hz, if_pos hz]; exact ⟨_, _, _, rfl, rfl, h⟩
      · rw [if_neg hz, if_neg hz]
        unfold f_X9_firstYear f_X9_lastYear f_X10_yearOf
        simp only [ui_n h16 (show 16 < 2 ^ 31 by decide), nI_clamp (show w < 2 ^ 31 by omega), ← k1, ← k3, ← k4]
        by_cases c0 : x 12 w = 0
        · simp only [if_pos c0]
          by_cases b0 : a2 = 0
          · simp only [if_pos b0, ub_some]; exact ⟨_, _, _, rfl, rfl, h⟩
          · simp only [if_neg b0, ub_some]; exact ⟨_, _, _, rfl, rfl, h⟩
        · simp only [if_neg c0]
          by_cases b0 : a2 = 0
          · simp only [if_pos b0, ub_some]; exact ⟨_, _, _, rfl, rfl, h⟩
          · simp only [if_neg b0, ub_some]; exact ⟨_, _, _, rfl, rfl, h⟩
    · rw [if_neg hs, if_neg hs, p_refuse x (k := 1) (by decide) (by decide), ub_some, ub_some, if_neg (by decide)]
      exact ⟨_, _, _, rfl, rfl, rel_rf (by decide) h⟩
  · rw [if_neg hp, p_askedB w2 hW hp, ub_some, if_neg (by decide)]; exact ⟨_, _, _, rfl, rfl, h⟩
