theorem p_valueAt {x : St} {l s c v : Nat} (hs : s < 10) (hc : c < 15) (hv : v ≤ 4) (hb : ∀ u, u < 4 → bt (x (35 + 9 * l + 2 + u) s) c = decide (u = v)) : f_X2_valueAt x l (nI s) (nI c) = some (nI v, x) := by
  unfold f_X2_valueAt
  have := loop_fu (fun fuel j => f_X2_valueAt_2 fuel x l (nI s) (nI c) (nI j)) v (some (nI v, x)) (by omega) (fun fuel => ?_) (fun fuel j hj => ?_)
  · simpa only [nI_0] using this
  · show f_X2_valueAt_2 (fuel + 1) _ _ _ _ _ = _
    rw [f_X2_valueAt_2]
    by_cases e : v = 4
    · subst e
      rw [if_pos (by decide)]
      rfl
    · have h4 : v < 4 := by omega
      rw [if_neg (show ¬ (3 : Int32) < nI v from by rw [show (3 : Int32) = nI 3 from by decide]; exact nI_nlt (by omega) (by decide)), ui_n h4 (by decide), ui_n hs (by decide), nI_clamp (by omega), nI_clamp (by omega), b_test _ (by omega), hb v h4]
      simp
  · right
    show f_X2_valueAt_2 (fuel + 1) _ _ _ _ _ = f_X2_valueAt_2 fuel _ _ _ _ _
    have h4 : j < 4 := by omega
    rw [f_X2_valueAt_2, if_neg (show ¬ (3 : Int32) < nI j from by rw [show (3 : Int32) = nI 3 from by decide]; exact nI_nlt (by omega) (by decide)), ui_n h4 (by decide), ui_n hs (by decide), nI_clamp (by omega), nI_clamp (by omega), b_test _ (by omega), hb j h4]
    have e : ¬ j = v := by omega
    simp only [e, decide_false, Bool.false_eq_true, if_false, if_true, ul_eq, nI_1]
theorem op_seen {x y : St} (h : Rel x y) (a1 a2 a3 : Int32) : ∃ (r : Int32) (x' y' : St), f_X9_seen x a1 a2 a3 = some (r, x') ∧ f_X10_seen y a1 a2 a3 = some (r, y') ∧ Rel x' y' := by
  unfold f_X9_seen f_X10_seen
  simp only [p_isLine, p_mLine, p_isSlot, p_mSlot, p_in, ub_some, bI_z, ite_not, i_lt]
  rw [show (0 : Int32).toInt = 0 from by decide, show (15 : Int32).toInt = 15 from by decide, show (14 : Int32).toInt = 14 from by decide]
  by_cases h1 : 0 ≤ a1.toInt ∧ a1.toInt ≤ 3
  · rw [if_pos h1, if_pos h1]
    by_cases h3 : 0 ≤ a3.toInt ∧ a3.toInt ≤ 14
    · rw [if_neg (show ¬ a3.toInt < 0 by omega), if_pos (show a3.toInt < 15 by omega), if_pos h3]
      by_cases h2 : 0 ≤ a2.toInt ∧ a2.toInt ≤ 9
      · rw [if_pos h2, if_pos h2]
        obtain ⟨l, hl, rfl⟩ := n_of (N := 4) (v := a1) (by omega) (by decide)
        obtain ⟨s, hs, rfl⟩ := n_of (N := 10) (v := a2) (by omega) (by decide)
        obtain ⟨c, hc, rfl⟩ := n_of (N := 15) (v := a3) (by omega) (by decide)
        obtain ⟨v, hv, e1, hb⟩ := (h.2.2.2.1 l hl s hs).2 c hc
        have ei : (150 : Int32) * nI l + 15 * nI s + nI c = nI (150 * l + 15 * s + c) := by
          rw [show (150 : Int32) = nI 150 from by decide, show (15 : Int32) = nI 15 from by decide, pk_mul, pk_mul, nI_add, nI_add]
        rw [ui_n hl (by decide), nI_clamp (by omega), p_valueAt hs hc hv hb, ub_some, ei, ui_n (by omega) (by decide), nI_clamp (by omega), e1]
        exact ⟨_, _, _, rfl, rfl, h⟩
      · rw [if_neg h2, if_neg h2, p_refuse x (k := 2) (by decide) (by decide), p_meets y (k := 2) (by decide) (by decide), ub_some, ub_some]
        exact ⟨_, _, _, rfl, rfl, rel_rf (by decide) h⟩
    · rw [if_neg h3]
      by_cases g : a3.toInt < 0
      · rw [if_pos g]; exact ⟨_, _, _, rfl, rfl, h⟩
      · rw [if_neg g, if_neg (show ¬ a3.toInt < 15 by omega)]; exact ⟨_, _, _, rfl, rfl, h⟩
  · rw [if_neg h1, if_neg h1]; exact ⟨_, _, _, rfl, rfl, h⟩
