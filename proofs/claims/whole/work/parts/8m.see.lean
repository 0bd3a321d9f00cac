/-! ===== see ===== -/
def shX (x : St) (l s : Nat) (m : Int32) (j : Nat) : St := fun q => if 35 + 9 * l + 2 ≤ q ∧ q < 35 + 9 * l + 2 + j then upd (x q) s (x q s &&& (m ^^^ (-1))) else x q
theorem shX_s {x : St} {l s j : Nat} {m : Int32} : us (shX x l s m j) (35 + 9 * l + 2 + j) s (shX x l s m j (35 + 9 * l + 2 + j) s &&& (m ^^^ (-1))) = shX x l s m (j + 1) := by
  have e : shX x l s m j (35 + 9 * l + 2 + j) = x (35 + 9 * l + 2 + j) := by unfold shX; rw [if_neg (by omega)]
  funext q
  unfold us
  rw [e]
  by_cases h : q = 35 + 9 * l + 2 + j
  · rw [if_pos h, h]
    unfold shX
    rw [if_pos (by omega)]
  · rw [if_neg h]
    unfold shX
    by_cases g : 35 + 9 * l + 2 ≤ q ∧ q < 35 + 9 * l + 2 + j
    · rw [if_pos g, if_pos (by omega)]
    · rw [if_neg g, if_neg (by omega)]
def seX (x : St) (l s v : Nat) (m : Int32) : St := if v = 4 then shX x l s m 4 else us (shX x l s m 4) (35 + 9 * l + 2 + v) s (shX x l s m 4 (35 + 9 * l + 2 + v) s ||| m)
theorem p_show28 {x : St} {l s v : Nat} {m b : Int32} (hm : m15 m) (hs : s < 10) (hv : v ≤ 4) : f_X2_show_28 fu x l (nI s) m (nI v) b 0 = some (nI (pc (m &&& (b ^^^ (-1)))), seX x l s v m) := by
  have z : shX x l s m 0 = x := by
    funext q
    unfold shX
    rw [if_neg (by omega)]
  have := loop_fu (fun fuel j => f_X2_show_28 fuel (shX x l s m j) l (nI s) m (nI v) b (nI j)) 4 (some (nI (pc (m &&& (b ^^^ (-1)))), seX x l s v m)) (by decide) (fun fuel => ?_) (fun fuel j hj => ?_)
  · rw [nI_0, z] at this; exact this
  · show f_X2_show_28 (fuel + 1) _ _ _ _ _ _ _ = _
    rw [f_X2_show_28, if_pos (by decide)]
    unfold seX
    by_cases e : v = 4
    · rw [if_pos (by rw [e]; decide), if_pos e, p_bc (m15_andL hm), ub_some]
    · rw [if_neg (nI_nq (k := 4) (by decide) e (by omega) (by decide)), if_neg e, ui_n (show v < 4 by omega) (by decide), ui_n hs (by decide), ui_n hs (by decide), nI_clamp (show v < 2 ^ 31 by omega), nI_clamp (show s < 2 ^ 31 by omega), ul_eq, p_bc (m15_andL hm), ub_some]
  · right
    show f_X2_show_28 (fuel + 1) _ _ _ _ _ _ _ = f_X2_show_28 fuel _ _ _ _ _ _ _
    have h3 : ¬ (3 : Int32) < nI j := by rw [show (3 : Int32) = nI 3 from by decide]; exact nI_nlt (by omega) (by decide)
    rw [f_X2_show_28, if_neg h3, ui_n hj (by decide), ui_n hs (by decide), ui_n hs (by decide), nI_clamp (show j < 2 ^ 31 by omega), nI_clamp (show s < 2 ^ 31 by omega), ul_eq, ul_eq, shX_s, nI_1]
def shY (y : St) (b : Nat) (m v : Int32) (j : Nat) : St := uf y 14 (fun q => if b ≤ q ∧ q < b + j ∧ bt m (q - b) = true then v else y 14 q)
theorem shY_s {y : St} {b j : Nat} {m v : Int32} (h : bt m j = true) : us (shY y b m v j) 14 (b + j) v = shY y b m v (j + 1) := by
  funext k q
  unfold us shY uf upd
  by_cases hk : k = 14
  · subst hk
    simp only [if_true]
    by_cases e : q = b + j
    · have e2 : q - b = j := by omega
      rw [if_pos e, if_pos ⟨by omega, by omega, by rw [e2]; exact h⟩]
    · rw [if_neg e]
      by_cases g : b ≤ q ∧ q < b + j ∧ bt m (q - b) = true
      · rw [if_pos g, if_pos ⟨g.1, by omega, g.2.2⟩]
      · rw [if_neg g, if_neg (fun q2 => g ⟨q2.1, by omega, q2.2.2⟩)]
  · simp [hk]
theorem shY_n {y : St} {b j : Nat} {m v : Int32} (h : ¬ bt m j = true) : shY y b m v j = shY y b m v (j + 1) := by
  funext k q
  unfold shY uf
  by_cases hk : k = 14
  · subst hk
    simp only [if_true]
    by_cases g : b ≤ q ∧ q < b + j ∧ bt m (q - b) = true
    · rw [if_pos g, if_pos ⟨g.1, by omega, g.2.2⟩]
    · rw [if_neg g, if_neg (fun q2 => g ⟨q2.1, by
        by_cases e : q = b + j
        · have e2 : q - b = j := by omega
          rw [e2] at q2; exact absurd q2.2.2 h
        · omega, q2.2.2⟩)]
  · simp [hk]
def sec (y : St) (b : Nat) (m v : Int32) (c : Nat) : Nat := bN (bt m c && !decide (y 14 (b + c) = v))
theorem p_see49 {y : St} {l s : Nat} {m v : Int32} (hl : l < 4) (hs : s < 10) : f_X10_see_49 fu y (nI l) (nI s) m v 0 0 = some (nI (sm 15 (sec y (150 * l + 15 * s) m v)), shY y (150 * l + 15 * s) m v 15) := by
  have z : shY y (150 * l + 15 * s) m v 0 = y := by
    funext k q
    unfold shY uf
    by_cases hk : k = 14
    · subst hk
      rw [if_pos rfl, if_neg (fun g => by omega)]
    · rw [if_neg hk]
  have := loop_fu (fun fuel j => f_X10_see_49 fuel (shY y (150 * l + 15 * s) m v j) (nI l) (nI s) m v (nI (sm j (sec y (150 * l + 15 * s) m v))) (nI j)) 15 (some (nI (sm 15 (sec y (150 * l + 15 * s) m v)), shY y (150 * l + 15 * s) m v 15)) (by decide) (fun fuel => ?_) (fun fuel j hj => ?_)
  · rw [z] at this; exact this
  · show f_X10_see_49 (fuel + 1) _ _ _ _ _ _ _ = _
    rw [f_X10_see_49, if_pos (by decide)]
  · right
    show f_X10_see_49 (fuel + 1) _ _ _ _ _ _ _ = f_X10_see_49 fuel _ _ _ _ _ _ _
    have ei : (150 : Int32) * nI l + 15 * nI s + nI j = nI (150 * l + 15 * s + j) := by
      rw [show (150 : Int32) = nI 150 from by decide, show (15 : Int32) = nI 15 from by decide, pk_mul, pk_mul, nI_add, nI_add]
    have h15 : ¬ (15 : Int32) ≤ nI j := by rw [show (15 : Int32) = nI 15 from by decide]; exact nI_ge hj (by decide)
    rw [f_X10_see_49, if_neg h15, ul_eq, ei, b_test _ (by omega)]
    have eo : shY y (150 * l + 15 * s) m v j 14 (150 * l + 15 * s + j) = y 14 (150 * l + 15 * s + j) := by
      unfold shY uf
      rw [if_pos rfl, if_neg (fun g => by omega)]
    by_cases hb : bt m j = true
    · rw [if_pos (by rw [if_pos hb]), ui_n (by omega) (by decide), nI_clamp (show 150 * l + 15 * s + j < 2 ^ 31 by omega), eo]
      simp only [ul_eq, nI_1, nI_p0, shY_s hb, sm_s, ui_n (show 150 * l + 15 * s + j < 600 by omega) (show 600 < 2 ^ 31 by decide)]
      by_cases e : y 14 (150 * l + 15 * s + j) = v
      · rw [if_pos e, show sec y (150 * l + 15 * s) m v j = 0 from by unfold sec; simp [e, bN]]
        rfl
      · rw [if_neg e, show sec y (150 * l + 15 * s) m v j = 1 from by unfold sec; simp [e, hb, bN]]
    · rw [if_neg (by rw [if_neg hb]; decide), ul_eq, nI_1, ← shY_n hb, sm_s, show sec y (150 * l + 15 * s) m v j = 0 from by unfold sec; simp [hb, bN]]
      rfl
theorem op_see {x y : St} (h : Rel x y) (a1 a2 a3 a4 : Int32) : ∃ (r : Int32) (x' y' : St), f_X9_see x a1 a2 a3 a4 = some (r, x') ∧ f_X10_see y a1 a2 a3 a4 = some (r, y') ∧ Rel x' y' := by
  unfold f_X9_see f_X10_see
  simp only [p_isLine, p_mLine, p_isCells, p_in, p_isSlot, p_mSlot, ub_some, bI_z, ite_not, i_lt, i_le]
  rw [show (0 : Int32).toInt = 0 from by decide, show (4 : Int32).toInt = 4 from by decide, show (32767 : Int32).toInt = 32767 from by decide]
  by_cases h1 : 0 ≤ a1.toInt ∧ a1.toInt ≤ 3
  · rw [if_pos h1, if_pos h1]
    by_cases h3 : 0 ≤ a3.toInt ∧ a3.toInt ≤ 32767
    · rw [if_pos h3, if_pos h3]
      by_cases h4 : 0 ≤ a4.toInt ∧ a4.toInt ≤ 4
      · rw [if_neg (show ¬ a4.toInt < 0 by omega), if_pos h4.2, if_pos h4]
        by_cases h2 : 0 ≤ a2.toInt ∧ a2.toInt ≤ 9
        · rw [if_pos h2, if_pos h2]
          obtain ⟨l, hl, rfl⟩ := n_of (N := 4) (v := a1) (by omega) (by decide)
          obtain ⟨s, hs, rfl⟩ := n_of (N := 10) (v := a2) (by omega) (by decide)
          obtain ⟨k, hk, rfl⟩ := n_of (N := 32768) (v := a3) (by omega) (by decide)
          obtain ⟨v, hv, rfl⟩ := n_of (N := 5) (v := a4) (by omega) (by decide)
          have hm : m15 (nI k) := ⟨k, hk, rfl⟩
          have hE := h.2.2.2.1
          generalize nI k = m at hm
          rw [ui_n hl (by decide), nI_clamp (by omega), p_see49 hl hs]
          have hbase : ∀ c, c < 15 → ∃ v0, v0 ≤ 4 ∧ y 14 (150 * l + 15 * s + c) = nI v0 ∧ (∀ u, u < 4 → sn x l u (15 * s + c) = decide (u = v0)) ∧ kn x l (15 * s + c) = decide (¬ v0 = 4) := fun c hc => by
            have := sees hE hl (show 15 * s + c < 150 by omega)
            rw [← Nat.add_assoc] at this
            exact this
          have hX : f_X2_show x l (nI s) m (nI v) = some (nI (sm 15 (sec y (150 * l + 15 * s) m (nI v))), seX x l s v m) := by
            unfold f_X2_show
            by_cases e : v = 4
            · rw [if_pos (by rw [e]; decide), p_known hs, ub_some, ul_eq, p_show28 hm hs (by omega)]
              congr 2
              congr 1
              unfold pc
              apply sm_congr
              intro c hc
              obtain ⟨v0, g1, g2, g3, g4⟩ := hbase c hc
              unfold sec
              rw [b_and, b_not _ (by omega), b_not _ (by omega), b_knm hc, g4, g2, e]
              have : (nI v0 = nI 4) ↔ v0 = 4 := nI_eq (by omega) (by omega)
              by_cases q : v0 = 4
              · simp [q]
              · simp [q, this]
            · rw [if_neg (nI_nq (k := 4) (by decide) e (by omega) (by decide)), ui_n (show v < 4 by omega) (by decide), ui_n hs (by decide), ul_eq, nI_clamp (show v < 2 ^ 31 by omega), nI_clamp (show s < 2 ^ 31 by omega), p_show28 hm hs (by omega)]
              congr 2
              congr 1
              unfold pc
              apply sm_congr
              intro c hc
              obtain ⟨v0, g1, g2, g3, g4⟩ := hbase c hc
              have g5 := g3 v (by omega)
              unfold sn mk at g5
              rw [(d15 hc).1, (d15 hc).2] at g5
              unfold sec
              rw [b_and, b_not _ (by omega), g5, g2]
              have : (nI v0 = nI v) ↔ v0 = v := nI_eq (by omega) (by omega)
              by_cases q : v0 = v
              · simp [q]
              · have q' : ¬ v = v0 := fun e => q e.symm
                simp [q, q', this]
          rw [hX, ub_some]
          refine ⟨_, _, _, rfl, rfl, Rel_E h (fun q hq => ?_) (fun q hq => ?_) (fun l' hl' => ?_) ?_⟩
          · unfold seX
            by_cases e : v = 4
            · rw [if_pos e]; unfold shX; rw [if_neg (by omega)]
            · rw [if_neg e, us_n (by omega)]; unfold shX; rw [if_neg (by omega)]
          · unfold shY uf; rw [if_neg hq]
          · have hq : ∀ q, (q = 35 + 9 * l' ∨ q = 35 + 9 * l' + 6 ∨ q = 35 + 9 * l' + 7 ∨ q = 35 + 9 * l' + 8) → seX x l s v m q = x q := fun q hq => by
              unfold seX
              by_cases e : v = 4
              · rw [if_pos e]; unfold shX; rw [if_neg (by omega)]
              · rw [if_neg e, us_n (by omega)]; unfold shX; rw [if_neg (by omega)]
            exact ⟨hq _ (by omega), hq _ (by omega), hq _ (by omega), hq _ (by omega)⟩
          · -- the cells
            have hM : ∀ u, u < 4 → seX x l s v m (35 + 9 * l + 2 + u) = upd (x (35 + 9 * l + 2 + u)) s (seX x l s v m (35 + 9 * l + 2 + u) s) ∧ ∀ i, i < 32 → bt (seX x l s v m (35 + 9 * l + 2 + u) s) i = if bt m i = true then decide (u = v) else bt (x (35 + 9 * l + 2 + u) s) i := fun u hu => by
              have e1 : shX x l s m 4 (35 + 9 * l + 2 + u) = upd (x (35 + 9 * l + 2 + u)) s (x (35 + 9 * l + 2 + u) s &&& (m ^^^ (-1))) := by unfold shX; rw [if_pos (by omega)]
              have us' : ∀ (f : Nat → Int32) (w : Int32), upd f s w s = w := fun f w => by unfold upd; rw [if_pos rfl]
              unfold seX
              by_cases e : v = 4
              · rw [if_pos e, e1, us']
                refine ⟨rfl, fun i hi => ?_⟩
                rw [b_and, b_not _ hi]
                have : ¬ u = v := by omega
                cases bt m i <;> simp [this]
              · rw [if_neg e]
                by_cases e2 : u = v
                · subst e2
                  rw [us_e, us', e1, us', upd_upd]
                  refine ⟨rfl, fun i hi => ?_⟩
                  rw [b_or, b_and, b_not _ hi]
                  cases bt m i <;> simp
                · rw [us_n (by omega), e1, us']
                  refine ⟨rfl, fun i hi => ?_⟩
                  rw [b_and, b_not _ hi]
                  cases bt m i <;> simp [e2]
            intro l' hl' s' hs'
            by_cases el : l' = l
            · subst el
              by_cases es : s' = s
              · subst es
                refine ⟨fun u hu => m15_of (fun i h1 h2 => ?_), fun c hc => ?_⟩
                · rw [(hM u hu).2 i h2, m15_bt hm h1]
                  rw [if_neg (by decide)]
                  exact m15_bt ((hE l' hl' s' hs').1 u hu) h1
                · obtain ⟨v0, g1, g2, g3⟩ := (hE l' hl' s' hs').2 c hc
                  have ey : shY y (150 * l' + 15 * s') m (nI v) 15 14 (150 * l' + 15 * s' + c) = if bt m c = true then nI v else y 14 (150 * l' + 15 * s' + c) := by
                    unfold shY uf
                    rw [if_pos rfl, show 150 * l' + 15 * s' + c - (150 * l' + 15 * s') = c by omega]
                    by_cases q : bt m c = true
                    · rw [if_pos ⟨by omega, by omega, q⟩, if_pos q]
                    · rw [if_neg (fun g => q g.2.2), if_neg q]
                  rw [ey]
                  by_cases q : bt m c = true
                  · rw [if_pos q]
                    refine ⟨v, by omega, rfl, fun u hu => ?_⟩
                    rw [(hM u hu).2 c (by omega), if_pos q]
                  · rw [if_neg q]
                    refine ⟨v0, g1, g2, fun u hu => ?_⟩
                    rw [(hM u hu).2 c (by omega), if_neg q]
                    exact g3 u hu
              · have hq : ∀ u, u < 4 → seX x l' s v m (35 + 9 * l' + 2 + u) s' = x (35 + 9 * l' + 2 + u) s' := fun u hu => by
                  rw [(hM u hu).1]; unfold upd; rw [if_neg es]
                refine ⟨fun u hu => by rw [hq u hu]; exact (hE l' hl' s' hs').1 u hu, fun c hc => ?_⟩
                obtain ⟨v0, g1, g2, g3⟩ := (hE l' hl' s' hs').2 c hc
                refine ⟨v0, g1, ?_, fun u hu => by rw [hq u hu]; exact g3 u hu⟩
                unfold shY uf
                rw [if_pos rfl, if_neg (fun g => by omega)]; exact g2
            · have hq : ∀ u, u < 4 → seX x l s v m (35 + 9 * l' + 2 + u) = x (35 + 9 * l' + 2 + u) := fun u hu => by
                unfold seX
                by_cases e : v = 4
                · rw [if_pos e]; unfold shX; rw [if_neg (by omega)]
                · rw [if_neg e, us_n (by omega)]; unfold shX; rw [if_neg (by omega)]
              refine ⟨fun u hu => by rw [hq u hu]; exact (hE l' hl' s' hs').1 u hu, fun c hc => ?_⟩
              obtain ⟨v0, g1, g2, g3⟩ := (hE l' hl' s' hs').2 c hc
              refine ⟨v0, g1, ?_, fun u hu => by rw [hq u hu]; exact g3 u hu⟩
              unfold shY uf
              rw [if_pos rfl, if_neg (fun g => by omega)]; exact g2
        · rw [if_neg h2, if_neg h2, p_refuse x (k := 2) (by decide) (by decide), p_meets y (k := 2) (by decide) (by decide), ub_some, ub_some]
          exact ⟨_, _, _, rfl, rfl, rel_rf (by decide) h⟩
      · rw [if_neg h4]
        by_cases g : a4.toInt < 0
        · rw [if_pos g]; exact ⟨_, _, _, rfl, rfl, h⟩
        · rw [if_neg g, if_neg (show ¬ a4.toInt ≤ 4 by omega)]; exact ⟨_, _, _, rfl, rfl, h⟩
    · rw [if_neg h3, if_neg h3]; exact ⟨_, _, _, rfl, rfl, h⟩
  · rw [if_neg h1, if_neg h1]; exact ⟨_, _, _, rfl, rfl, h⟩
