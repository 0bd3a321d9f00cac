-- strike
/-- line l has a layer of the word -/
def lw1 (x : St) (v : Int32) (l i : Nat) : Bool := decide (x (35 + 9 * l + 6) i = v)
def lwN (x : St) (v : Int32) (l : Nat) : Bool := anyN (x (35 + 9 * l) 4).toNatClampNeg (lw1 x v l)
theorem p_hasOf {x : St} {l n : Nat} (hn : x (35 + 9 * l) 4 = nI n) (h3 : n ≤ 3) (v : Int32) : f_X2_hasLayerOf x l v = some (iB (lwN x v l), x) := by
  have eN : lwN x v l = anyN n (lw1 x v l) := by unfold lwN; rw [hn, nI_clamp (by omega)]
  rw [eN]
  unfold f_X2_hasLayerOf
  have := loop_P (fun fuel j => f_X2_hasLayerOf_2 fuel x l v (nI j)) n (some (iB (anyN n (lw1 x v l)), x)) (fun j => ∀ i, i < j → lw1 x v l i = false) (by omega) (fun i hi => absurd hi (by omega)) (fun fuel hP => ?_) (fun fuel j hj hP => ?_)
  · rw [nI_0] at this; exact this
  · show f_X2_hasLayerOf_2 (fuel + 1) _ _ _ _ = _
    rw [f_X2_hasLayerOf_2, hn, if_pos (nI_le (Nat.le_refl _) (by omega))]
    have : anyN n (lw1 x v l) = false := by
      cases e : anyN n (lw1 x v l)
      · rfl
      · obtain ⟨i, hi, g⟩ := anyN_iff.mp e
        rw [hP i hi] at g; cases g
    rw [this]; rfl
  · show f_X2_hasLayerOf_2 (fuel + 1) _ _ _ _ = _ ∨ (_ ∧ f_X2_hasLayerOf_2 (fuel + 1) _ _ _ _ = f_X2_hasLayerOf_2 fuel _ _ _ _)
    rw [f_X2_hasLayerOf_2, hn, if_neg (nI_ge hj (by omega)), ui_n (show j < 3 by omega) (by decide), nI_clamp (show j < 2 ^ 31 by omega), ul_eq, nI_1]
    by_cases c : x (35 + 9 * l + 6) j = v
    · left
      rw [if_pos c]
      have : anyN n (lw1 x v l) = true := anyN_iff.mpr ⟨j, hj, by unfold lw1; simp [c]⟩
      rw [this]; rfl
    · right
      rw [if_neg c]
      refine ⟨fun i hi => ?_, rfl⟩
      by_cases e : i = j
      · rw [e]; unfold lw1; simp [c]
      · exact hP i (by omega)
theorem p_isLayer {x : St} (hn : ∀ l, l < 4 → ∃ n, n ≤ 3 ∧ x (35 + 9 * l) 4 = nI n) (v : Int32) : f_X9_isLayer x v = some (iB (anyN 4 (lwN x v)), x) := by
  unfold f_X9_isLayer
  have := loop_P (fun fuel j => f_X9_isLayer_2 fuel x v (nI j)) 4 (some (iB (anyN 4 (lwN x v)), x)) (fun j => ∀ i, i < j → lwN x v i = false) (by omega) (fun i hi => absurd hi (by omega)) (fun fuel hP => ?_) (fun fuel j hj hP => ?_)
  · rw [nI_0] at this; exact this
  · show f_X9_isLayer_2 (fuel + 1) _ _ _ = _
    rw [f_X9_isLayer_2, if_pos (by decide)]
    have : anyN 4 (lwN x v) = false := by
      cases e : anyN 4 (lwN x v)
      · rfl
      · obtain ⟨i, hi, g⟩ := anyN_iff.mp e
        rw [hP i hi] at g; cases g
    rw [this]; rfl
  · show f_X9_isLayer_2 (fuel + 1) _ _ _ = _ ∨ (_ ∧ f_X9_isLayer_2 (fuel + 1) _ _ _ = f_X9_isLayer_2 fuel _ _ _)
    obtain ⟨n, h3, e⟩ := hn j hj
    have h4 : ¬ (4 : Int32) ≤ nI j := by rw [show (4 : Int32) = nI 4 from by decide]; exact nI_ge hj (by decide)
    rw [f_X9_isLayer_2, if_neg h4, ui_n hj (by decide), nI_clamp (show j < 2 ^ 31 by omega), p_hasOf e h3, ub_some, ul_eq, nI_1]
    by_cases c : lwN x v j = true
    · left
      rw [if_neg (fun q => by rw [iB_z, c] at q; cases q)]
      have : anyN 4 (lwN x v) = true := anyN_iff.mpr ⟨j, hj, c⟩
      rw [this]; rfl
    · right
      simp only [Bool.not_eq_true] at c
      rw [if_pos (iB_z.mpr c)]
      refine ⟨fun i hi => ?_, rfl⟩
      by_cases e : i = j
      · rw [e]; exact c
      · exact hP i (by omega)
theorem p_strike38 {x y : St} {l n : Nat} (k : St → Int32 → Int32 → Int32 → Option (Int32 × St)) (hl : l < 4) (hn : x (35 + 9 * l) 4 = nI n) (hy : y 16 l = nI n) (h3 : n ≤ 3) (hr : ∀ i, i < n → x (35 + 9 * l + 6) i = y 17 (3 * l + i)) (v : Int32) (b : Bool) : f_X10_strike_38 k fu y v (iB b) (nI l) 0 = k y v (iB (b || lwN x v l)) (nI (l + 1)) := by
  have eN : lwN x v l = anyN n (lw1 x v l) := by unfold lwN; rw [hn, nI_clamp (by omega)]
  rw [eN]
  have := loop_fu (fun fuel j => f_X10_strike_38 k fuel y v (iB (b || anyN j (lw1 x v l))) (nI l) (nI j)) n (k y v (iB (b || anyN n (lw1 x v l))) (nI (l + 1))) (by omega) (fun fuel => ?_) (fun fuel j hj => ?_)
  · rw [nI_0, show anyN 0 (lw1 x v l) = false from rfl, Bool.or_false] at this; exact this
  · show f_X10_strike_38 k (fuel + 1) _ _ _ _ _ = _
    rw [f_X10_strike_38, ui_n hl (by decide), nI_clamp (show l < 2 ^ 31 by omega), hy, if_pos (nI_le (Nat.le_refl _) (by omega)), ul_eq, nI_1]
  · right
    show f_X10_strike_38 k (fuel + 1) _ _ _ _ _ = f_X10_strike_38 k fuel _ _ _ _ _
    have e3 : (3 : Int32) * nI l + nI j = nI (3 * l + j) := by rw [show (3 : Int32) = nI 3 from by decide, pk_mul, nI_add]
    rw [f_X10_strike_38, ui_n hl (by decide), nI_clamp (show l < 2 ^ 31 by omega), hy, if_neg (nI_ge hj (by omega)), e3, ui_n (show 3 * l + j < 12 by omega) (by decide), nI_clamp (show 3 * l + j < 2 ^ 31 by omega), ← hr j hj, anyN_s]
    simp only [ul_eq, nI_1]
    cases hb : (b || anyN j (lw1 x v l))
    · rw [if_pos (show iB false = 0 from rfl)]
      have : (b || (anyN j (lw1 x v l) || lw1 x v l j)) = lw1 x v l j := by rw [← Bool.or_assoc, hb]; rfl
      rw [this]
      unfold lw1
      by_cases c : x (35 + 9 * l + 6) j = v
      · rw [if_pos c]; simp [c, iB]
      · rw [if_neg c]; simp [c, iB]
    · rw [if_neg (show ¬ iB true = 0 by decide)]
      have : (b || (anyN j (lw1 x v l) || lw1 x v l j)) = true := by rw [← Bool.or_assoc, hb]; rfl
      rw [this]; rfl
theorem Rel_S {x x' y y' : St} (h : Rel x y) (hx : ∀ k, k ≠ 17 → x' k = x k) (hy : ∀ k, k ≠ 9 → y' k = y k) (hn : ∀ W, RD W x y → RD W x' y') : Rel x' y' := by
  obtain ⟨hA, hB, hC, hE, hG, hH, hJ, W, hD, hF, hI⟩ := h
  exact ⟨RA_of (by rw [hx 0 (by omega)]) (by rw [hx 0 (by omega)]) (hx _ (by omega)) (by rw [hy 0 (by omega)]) (by rw [hy 0 (by omega)]) (hy _ (by omega)) hA, RB_of (hx _ (by omega)) (hy _ (by omega)) hB, RC_of (hx _ (by omega)) (fun s hs => hx _ (by omega)) (hy _ (by omega)) (hy _ (by omega)) hC, RE_of (fun l u hl hu => hx _ (by omega)) (hy _ (by omega)) hE, RG_of (hx _ (by omega)) (hx _ (by omega)) (hx _ (by omega)) (hx _ (by omega)) (by rw [hy 0 (by omega)]) (by rw [hy 0 (by omega)]) (by rw [hy 0 (by omega)]) (hy _ (by omega)) (hy _ (by omega)) (hy _ (by omega)) hG, RH_of (hx _ (by omega)) (hx _ (by omega)) (hx _ (by omega)) (hx _ (by omega)) (hx _ (by omega)) (by rw [hy 0 (by omega)]) (hy _ (by omega)) (hy _ (by omega)) (hy _ (by omega)) (hy _ (by omega)) hH, RJ_of (hx _ (by omega)) (hx _ (by omega)) (hx _ (by omega)) (by rw [hy 0 (by omega)]) (hy _ (by omega)) (hy _ (by omega)) (hy _ (by omega)) hJ, W, hn W hD, RF_of (fun l hl => by rw [hx (35 + 9 * l) (by omega)]) (fun l hl => hx _ (by omega)) (fun l hl => hx _ (by omega)) (fun l hl => hx _ (by omega)) (hx _ (by omega)) (hy _ (by omega)) (hy _ (by omega)) (hy _ (by omega)) (hy _ (by omega)) hF, RI_of (hx _ (by omega)) (hx _ (by omega)) (hx _ (by omega)) (by rw [hy 0 (by omega)]) (hy _ (by omega)) (hy _ (by omega)) hI⟩
theorem p_strike29 {x y : St} {W w : Nat} (hF : RF W x y) (hw : w < 16) (v : Int32) (hv : v = nI w) (b : Bool) : f_X10_strike_29 fu y v (iB b) 0 = if (b || anyN 4 (lwN x v)) = true then some (-4, y) else some (1, us y 9 w 1) := by
  have := loop_fu (fun fuel j => f_X10_strike_29 fuel y v (iB (b || anyN j (lwN x v))) (nI j)) 4 (if (b || anyN 4 (lwN x v)) = true then some (-4, y) else some (1, us y 9 w 1)) (by omega) (fun fuel => ?_) (fun fuel j hj => ?_)
  · rw [nI_0, show anyN 0 (lwN x v) = false from rfl, Bool.or_false] at this; exact this
  · show f_X10_strike_29 (fuel + 1) _ _ _ _ = _
    rw [f_X10_strike_29, if_pos (by decide), hv, ui_n hw (by decide), nI_clamp (by omega), ul_eq, show vp_nar .boolean 1 = 1 from by decide]
    cases (b || anyN 4 (lwN x (nI w)))
    · rw [if_pos (by decide), if_neg (by decide)]
    · rw [if_neg (by decide), if_pos rfl]
  · right
    show f_X10_strike_29 (fuel + 1) _ _ _ _ = f_X10_strike_29 fuel _ _ _ _
    obtain ⟨n, h3, e1, e2, hr, -⟩ := hF j hj
    have h4 : ¬ (4 : Int32) ≤ nI j := by rw [show (4 : Int32) = nI 4 from by decide]; exact nI_ge hj (by decide)
    rw [f_X10_strike_29, if_neg h4, p_strike38 _ hj e1 e2 h3 (fun i hi => (hr i hi).1), anyN_s, Bool.or_assoc]
theorem op_strike {x y : St} (h : Rel x y) (a1 : Int32) : ∃ (r : Int32) (x' y' : St), f_X9_strike x a1 = some (r, x') ∧ f_X10_strike y a1 = some (r, y') ∧ Rel x' y' := by
  obtain ⟨W, hD, hF, -⟩ := h.2.2.2.2.2.2.2
  obtain ⟨hW, w1, w2, hwd, hst, -⟩ := id hD
  unfold f_X9_strike f_X10_strike
  simp only [p_wordNo w1 hW, ub_some, bI_z, ite_not]
  by_cases h1 : 0 ≤ a1.toInt ∧ a1.toInt ≤ (W : Int) - 1
  · rw [if_pos h1]
    obtain ⟨w, hw, rfl⟩ := n_of (N := W) (v := a1) (by omega) (by omega)
    have h16 : w < 16 := by omega
    rw [p_asked w2 hW hw, ui_n h16 (by decide), nI_clamp (by omega), ← (hst w h16).1]
    by_cases hs : x 17 w = 0
    · have b0 : f_X10_strike_29 fu y (nI w) 0 0 = if (false || anyN 4 (lwN x (nI w))) = true then some (-4, y) else some (1, us y 9 w 1) := p_strike29 hF h16 (nI w) rfl false
      have b1 : f_X10_strike_29 fu y (nI w) 1 0 = if (true || anyN 4 (lwN x (nI w))) = true then some (-4, y) else some (1, us y 9 w 1) := p_strike29 hF h16 (nI w) rfl true
      rw [if_pos hs, if_pos hs, ub_some, if_pos (by decide), p_isLayer (fun l hl => by obtain ⟨n, h3, e1, -⟩ := hF l hl; exact ⟨n, h3, e1⟩), ub_some, p_house hD, ub_some, p_children hD, ub_some, b0, b1, ui_n h16 (by decide), ul_eq, show vp_nar .boolean 1 = 1 from by decide]
      cases hb : anyN 4 (lwN x (nI w))
      · rw [if_pos (show iB false = 0 from rfl)]
        by_cases c : nI (sm W (hs1 x (nI w))) ≤ 0
        · rw [if_pos c, if_pos c, if_neg (by decide)]
          refine ⟨1, us x 17 w 1, us y 9 w 1, rfl, rfl, Rel_S h (fun k hk => us_n hk) (fun k hk => us_n hk) (fun W' hD' => ?_)⟩
          obtain ⟨d1, d2, d3, d4, d5, d6⟩ := hD'
          have eW : W' = W := (nI_eq (by omega) (by omega)).mp (d2.symm.trans w1)
          subst eW
          refine ⟨d1, d2, d3, fun i hi => wordOK_of (us_n (by omega)) rfl rfl rfl rfl rfl rfl rfl rfl rfl rfl rfl rfl rfl (d4 i hi), fun i hi => ?_, fun i h1 h2 => ?_⟩
          · show upd (x 17) w 1 i = upd (y 9) w 1 i ∧ (upd (x 17) w 1 i = 0 ∨ upd (x 17) w 1 i = 1)
            unfold upd
            by_cases e : i = w
            · rw [if_pos e, if_pos e]; exact ⟨rfl, Or.inr rfl⟩
            · rw [if_neg e, if_neg e]; exact d5 i hi
          · show upd (x 17) w 1 i = 0
            unfold upd
            rw [if_neg (by omega)]; exact d6 i h1 h2
        · rw [if_neg c, if_neg c, if_pos (by decide)]; exact ⟨_, _, _, rfl, rfl, h⟩
      · rw [if_neg (show ¬ iB true = 0 by decide)]
        by_cases c : nI (sm W (hs1 x (nI w))) ≤ 0
        · rw [if_pos c, if_pos (by decide)]; exact ⟨_, _, _, rfl, rfl, h⟩
        · rw [if_neg c, if_pos (by decide)]; exact ⟨_, _, _, rfl, rfl, h⟩
    · rw [if_neg hs, if_neg hs, p_refuse x (k := 1) (by decide) (by decide), ub_some, ub_some, if_neg (by decide)]
      exact ⟨_, _, _, rfl, rfl, rel_rf (by decide) h⟩
  · rw [if_neg h1, p_askedB w2 hW h1, ub_some, if_neg (by decide)]; exact ⟨_, _, _, rfl, rfl, h⟩
