/-! ===== layers ===== -/
theorem Rel_F2 {x x' y y' : St} (h : Rel x y) (hx : ∀ k, (k < 35 ∨ (70 < k ∧ k < 86) ∨ k = 98) → x' k = x k) (hm : ∀ l u, l < 4 → u < 4 → x' (35 + 9 * l + 2 + u) = x (35 + 9 * l + 2 + u)) (hy : ∀ k, k ≠ 0 → k ≠ 5 → k ≠ 15 → (k < 16 ∨ 21 < k) → y' k = y k) (w0 : y' 0 0 = y 0 0) (w2 : y' 0 2 = y 0 2) (w7 : y' 0 7 = y 0 7) (w26 : y' 0 26 = y 0 26) (w30 : y' 0 30 = y 0 30) (w31 : y' 0 31 = y 0 31) (w32 : y' 0 32 = y 0 32) (w37 : y' 0 37 = y 0 37) (w40 : y' 0 40 = y 0 40) (hn : ∀ W, RD W x y → RF W x y → RF W x' y') : Rel x' y' := by
  obtain ⟨hA, hB, hC, hE, hG, hH, hJ, W, hD, hF, hI⟩ := h
  exact ⟨RA_of (by rw [hx 0 (by omega)]) (by rw [hx 0 (by omega)]) (hx _ (by omega)) w0 w2 (hy _ (by omega) (by omega) (by omega) (by omega)) hA, RB_of (hx _ (by omega)) (hy _ (by omega) (by omega) (by omega) (by omega)) hB, RC_of (hx _ (by omega)) (fun s hs => hx _ (by omega)) (hy _ (by omega) (by omega) (by omega) (by omega)) (hy _ (by omega) (by omega) (by omega) (by omega)) hC, RE_of hm (hy _ (by omega) (by omega) (by omega) (by omega)) hE, RG_of (hx _ (by omega)) (hx _ (by omega)) (hx _ (by omega)) (hx _ (by omega)) w26 w30 w31 (hy _ (by omega) (by omega) (by omega) (by omega)) (hy _ (by omega) (by omega) (by omega) (by omega)) (hy _ (by omega) (by omega) (by omega) (by omega)) hG, RH_of (hx _ (by omega)) (hx _ (by omega)) (hx _ (by omega)) (hx _ (by omega)) (hx _ (by omega)) w32 (hy _ (by omega) (by omega) (by omega) (by omega)) (hy _ (by omega) (by omega) (by omega) (by omega)) (hy _ (by omega) (by omega) (by omega) (by omega)) (hy _ (by omega) (by omega) (by omega) (by omega)) hH, RJ_of (hx _ (by omega)) (hx _ (by omega)) (hx _ (by omega)) w40 (hy _ (by omega) (by omega) (by omega) (by omega)) (hy _ (by omega) (by omega) (by omega) (by omega)) (hy _ (by omega) (by omega) (by omega) (by omega)) hJ, W, RD_of (by rw [hx 8 (by omega)]) (fun w hw => hx _ (by omega)) (hx _ (by omega)) (hx _ (by omega)) (hx _ (by omega)) (hx _ (by omega)) (hx _ (by omega)) (hx _ (by omega)) (hx _ (by omega)) w7 (hy _ (by omega) (by omega) (by omega) (by omega)) (hy _ (by omega) (by omega) (by omega) (by omega)) (hy _ (by omega) (by omega) (by omega) (by omega)) (hy _ (by omega) (by omega) (by omega) (by omega)) (hy _ (by omega) (by omega) (by omega) (by omega)) (hy _ (by omega) (by omega) (by omega) (by omega)) (hy _ (by omega) (by omega) (by omega) (by omega)) (hy _ (by omega) (by omega) (by omega) (by omega)) hD, hn W hD hF, RI_of (hx _ (by omega)) (hx _ (by omega)) (hx _ (by omega)) w37 (hy _ (by omega) (by omega) (by omega) (by omega)) (hy _ (by omega) (by omega) (by omega) (by omega)) hI⟩
def lc1 (x : St) (v : Int32) (l i : Nat) : Bool := decide (x (35 + 9 * l + 8) i = v)
theorem p_hasIn {x : St} {l n : Nat} (hn : x (35 + 9 * l) 4 = nI n) (h3 : n ≤ 3) (v : Int32) : f_X2_hasLayerIn x l v = some (iB (anyN n (lc1 x v l)), x) := by
  unfold f_X2_hasLayerIn
  have := loop_P (fun fuel j => f_X2_hasLayerIn_2 fuel x l v (nI j)) n (some (iB (anyN n (lc1 x v l)), x)) (fun j => ∀ i, i < j → lc1 x v l i = false) (by omega) (fun i hi => absurd hi (by omega)) (fun fuel hP => ?_) (fun fuel j hj hP => ?_)
  · rw [nI_0] at this; exact this
  · show f_X2_hasLayerIn_2 (fuel + 1) _ _ _ _ = _
    rw [f_X2_hasLayerIn_2, hn, if_pos (nI_le (Nat.le_refl _) (by omega))]
    have : anyN n (lc1 x v l) = false := by
      cases e : anyN n (lc1 x v l)
      · rfl
      · obtain ⟨i, hi, g⟩ := anyN_iff.mp e
        rw [hP i hi] at g; cases g
    rw [this]; rfl
  · show f_X2_hasLayerIn_2 (fuel + 1) _ _ _ _ = _ ∨ (_ ∧ f_X2_hasLayerIn_2 (fuel + 1) _ _ _ _ = f_X2_hasLayerIn_2 fuel _ _ _ _)
    rw [f_X2_hasLayerIn_2, hn, if_neg (nI_ge hj (by omega)), ui_n (show j < 3 by omega) (by decide), nI_clamp (show j < 2 ^ 31 by omega), ul_eq, nI_1]
    by_cases c : x (35 + 9 * l + 8) j = v
    · left
      rw [if_pos c]
      have : anyN n (lc1 x v l) = true := anyN_iff.mpr ⟨j, hj, by unfold lc1; simp [c]⟩
      rw [this]; rfl
    · right
      rw [if_neg c]
      refine ⟨fun i hi => ?_, rfl⟩
      by_cases e : i = j
      · rw [e]; unfold lc1; simp [c]
      · exact hP i (by omega)
/-- a layer over the others: the numbers behind it -/
def alX (x : St) (l n : Nat) (w s u : Int32) : St := us (us (us (us x (35 + 9 * l + 6) n w) (35 + 9 * l + 7) n s) (35 + 9 * l + 8) n u) (35 + 9 * l) 4 (nI (n + 1))
def alY (y : St) (l n : Nat) (w s u : Int32) : St := us (us (us (us y 17 (3 * l + n) w) 18 (3 * l + n) s) 19 (3 * l + n) u) 16 l (nI (n + 1))
theorem p_addLayer {x : St} {l n : Nat} (hn : x (35 + 9 * l) 4 = nI n) (h3 : n < 3) (w s u : Int32) : f_X2_addLayer x l w s u = some ((), alX x l n w s u) := by
  have d6 : ∀ (z : St) (a : Int32), us z (35 + 9 * l + 6) n a (35 + 9 * l) 4 = z (35 + 9 * l) 4 := fun z a => by rw [us_n (by omega)]
  have d7 : ∀ (z : St) (a : Int32), us z (35 + 9 * l + 7) n a (35 + 9 * l) 4 = z (35 + 9 * l) 4 := fun z a => by rw [us_n (by omega)]
  have d8 : ∀ (z : St) (a : Int32), us z (35 + 9 * l + 8) n a (35 + 9 * l) 4 = z (35 + 9 * l) 4 := fun z a => by rw [us_n (by omega)]
  unfold f_X2_addLayer alX
  simp only [ul_eq, hn, ui_n h3 (show 3 < 2 ^ 31 by decide), nI_clamp (show n < 2 ^ 31 by omega), d6, d7, d8, nI_1]
theorem p_lays {y : St} {l n : Nat} (hl : l < 4) (hn : y 16 l = nI n) (h3 : n < 3) (w s u : Int32) : f_X10_lays y (nI l) w s u = some ((), alY y l n w s u) := by
  have e3 : (3 : Int32) * nI l + nI n = nI (3 * l + n) := by rw [show (3 : Int32) = nI 3 from by decide, pk_mul, nI_add]
  unfold f_X10_lays alY
  simp only [ui_n hl (show 4 < 2 ^ 31 by decide), nI_clamp (show l < 2 ^ 31 by omega), ul_eq, hn, e3, ui_n (show 3 * l + n < 12 by omega) (show 12 < 2 ^ 31 by decide), nI_clamp (show 3 * l + n < 2 ^ 31 by omega), us_d (k := 17) (q := 16) rfl, us_d (k := 18) (q := 16) rfl, us_d (k := 19) (q := 16) rfl, nI_1]
theorem alX_n {x : St} {l n q : Nat} {w s u : Int32} (h : q < 35 + 9 * l ∨ (35 + 9 * l < q ∧ q < 35 + 9 * l + 6) ∨ 35 + 9 * l + 8 < q) : alX x l n w s u q = x q := by
  unfold alX
  rw [us_n (by omega), us_n (by omega), us_n (by omega), us_n (by omega)]
theorem alY_n {y : St} {l n q : Nat} {w s u : Int32} (h : q < 16 ∨ 19 < q) : alY y l n w s u q = y q := by
  unfold alY
  rw [us_n (by omega), us_n (by omega), us_n (by omega), us_n (by omega)]
theorem al6 {x : St} {l n : Nat} {w s u : Int32} : alX x l n w s u (35 + 9 * l + 6) = upd (x (35 + 9 * l + 6)) n w := by
  unfold alX
  rw [us_n (by omega), us_n (by omega), us_n (by omega), us_e]
theorem al7 {x : St} {l n : Nat} {w s u : Int32} : alX x l n w s u (35 + 9 * l + 7) = upd (x (35 + 9 * l + 7)) n s := by
  unfold alX
  rw [us_n (by omega), us_n (by omega), us_e, us_n (by omega)]
theorem al8 {x : St} {l n : Nat} {w s u : Int32} : alX x l n w s u (35 + 9 * l + 8) = upd (x (35 + 9 * l + 8)) n u := by
  unfold alX
  rw [us_n (by omega), us_e, us_n (by omega), us_n (by omega)]
theorem al0 {x : St} {l n : Nat} {w s u : Int32} : alX x l n w s u (35 + 9 * l) 4 = nI (n + 1) := by
  unfold alX
  exact us_at
/-- one more layer, both sides -/
theorem RF_add {x y : St} {W l n w t u n9 : Nat} (hl : l < 4) (h3 : n < 3) (h : RF W x y) (hn : x (35 + 9 * l) 4 = nI n) (hw : w < W) (e9 : x 11 w = nI n9) (ht : t + n9 ≤ 10) (hu : 1 ≤ u ∧ u ≤ 3) (hf : ∀ i, i < n → ¬ x (35 + 9 * l + 8) i = nI u) : RF W (alX x l n (nI w) (nI t) (nI u)) (alY y l n (nI w) (nI t) (nI u)) := by
  intro l' hl'
  obtain ⟨n', h3', f1, f2, hr, hq⟩ := h l' hl'
  have e11 : alX x l n (nI w) (nI t) (nI u) 11 = x 11 := alX_n (by omega)
  have y16 : alY y l n (nI w) (nI t) (nI u) 16 = upd (y 16) l (nI (n + 1)) := rfl
  have y17 : alY y l n (nI w) (nI t) (nI u) 17 = upd (y 17) (3 * l + n) (nI w) := rfl
  have y18 : alY y l n (nI w) (nI t) (nI u) 18 = upd (y 18) (3 * l + n) (nI t) := rfl
  have y19 : alY y l n (nI w) (nI t) (nI u) 19 = upd (y 19) (3 * l + n) (nI u) := rfl
  rw [e11, y16, y17, y18, y19]
  by_cases e : l' = l
  · subst e
    have en : n' = n := (nI_eq (by omega) (by omega)).mp (f1.symm.trans hn)
    subst en
    rw [al0, al6, al7, al8]
    refine ⟨n' + 1, by omega, rfl, ?_, fun i hi => ?_, fun i j hi hj => ?_⟩
    · unfold upd; rw [if_pos rfl]
    · unfold upd
      by_cases ei : i = n'
      · subst ei
        simp only [if_true]
        exact ⟨trivial, trivial, trivial, ⟨w, hw, rfl, n9, t, e9, rfl, ht⟩, u, hu.1, hu.2, rfl⟩
      · simp only [if_neg ei, if_neg (show ¬ 3 * l' + i = 3 * l' + n' by omega)]
        exact hr i (by omega)
    · unfold upd
      by_cases ei : i = n'
      · by_cases ej : j = n'
        · intro _; omega
        · simp only [if_pos ei, if_neg ej]
          intro g; exact absurd g.symm (hf j (by omega))
      · by_cases ej : j = n'
        · simp only [if_neg ei, if_pos ej]
          intro g; exact absurd g (hf i (by omega))
        · simp only [if_neg ei, if_neg ej]
          exact hq i j (by omega) (by omega)
  · rw [alX_n (q := 35 + 9 * l') (by omega), alX_n (q := 35 + 9 * l' + 6) (by omega), alX_n (q := 35 + 9 * l' + 7) (by omega), alX_n (q := 35 + 9 * l' + 8) (by omega)]
    refine ⟨n', h3', f1, ?_, fun i hi => ?_, hq⟩
    · unfold upd; rw [if_neg e]; exact f2
    · unfold upd
      rw [if_neg (by omega), if_neg (by omega), if_neg (by omega)]
      exact hr i hi
theorem p_layer41 {x y : St} {W l n w : Nat} {a3 a4 : Int32} (hF : RF W x y) (hl : l < 4) (h3 : n < 3) (e1 : x (35 + 9 * l) 4 = nI n) (e2 : y 16 l = nI n) (hr : ∀ i, i < n → x (35 + 9 * l + 8) i = y 19 (3 * l + i)) (hw : w < 16) (hk : wordOK x y w) (es : x 17 w = y 9 w) : f_X10_layer_41 fu y (nI l) (nI w) a3 a4 0 = if anyN n (lc1 x a4 l) = true then some (-4, y) else if x 17 w = 0 then (if 0 ≤ a3.toInt ∧ a3.toInt ≤ 10 - (ln x w : Int) then some (nI (n + 1), alY y l n (nI w) a3 a4) else some (-3, rfY y 2)) else some (-3, rfY y 1) := by
  have := loop_P (fun fuel j => f_X10_layer_41 fuel y (nI l) (nI w) a3 a4 (nI j)) n (if anyN n (lc1 x a4 l) = true then some (-4, y) else if x 17 w = 0 then (if 0 ≤ a3.toInt ∧ a3.toInt ≤ 10 - (ln x w : Int) then some (nI (n + 1), alY y l n (nI w) a3 a4) else some (-3, rfY y 2)) else some (-3, rfY y 1)) (fun j => ∀ i, i < j → lc1 x a4 l i = false) (by omega) (fun i hi => absurd hi (by omega)) (fun fuel hP => ?_) (fun fuel j hj hP => ?_)
  · rw [nI_0] at this; exact this
  · show f_X10_layer_41 (fuel + 1) _ _ _ _ _ _ = _
    have ha : ¬ anyN n (lc1 x a4 l) = true := fun e => by
      obtain ⟨i, hi, g⟩ := anyN_iff.mp e
      rw [hP i hi] at g; cases g
    rw [f_X10_layer_41, ui_n hl (by decide), nI_clamp (show l < 2 ^ 31 by omega), e2, if_pos (nI_le (Nat.le_refl _) (by omega)), ui_n hw (by decide), nI_clamp (show w < 2 ^ 31 by omega), ← es, if_neg ha, p_meets y (k := 1) (by decide) (by decide), p_onY hw hk, ub_some, ub_some, p_meets y (k := 2) (by decide) (by decide), ub_some, p_lays hl e2 h3, ub_some, ui_n hl (by decide)]
    simp only [bI_z, ite_not]
    have : alY y l n (nI w) a3 a4 16 l = nI (n + 1) := us_at
    rw [this]
  · show f_X10_layer_41 (fuel + 1) _ _ _ _ _ _ = _ ∨ (_ ∧ f_X10_layer_41 (fuel + 1) _ _ _ _ _ _ = f_X10_layer_41 fuel _ _ _ _ _ _)
    have e3 : (3 : Int32) * nI l + nI j = nI (3 * l + j) := by rw [show (3 : Int32) = nI 3 from by decide, pk_mul, nI_add]
    rw [f_X10_layer_41, ui_n hl (by decide), nI_clamp (show l < 2 ^ 31 by omega), e2, if_neg (nI_ge hj (by omega)), e3, ui_n (show 3 * l + j < 12 by omega) (by decide), nI_clamp (show 3 * l + j < 2 ^ 31 by omega), ← hr j hj, ul_eq, nI_1]
    by_cases c : x (35 + 9 * l + 8) j = a4
    · left
      rw [if_pos c, if_pos (anyN_iff.mpr ⟨j, hj, by unfold lc1; simp [c]⟩)]
    · right
      rw [if_neg c]
      refine ⟨fun i hi => ?_, rfl⟩
      by_cases e : i = j
      · rw [e]; unfold lc1; simp [c]
      · exact hP i (by omega)
theorem op_layer {x y : St} (h : Rel x y) (a1 a2 a3 a4 : Int32) : ∃ (r : Int32) (x' y' : St), f_X9_layer x a1 a2 a3 a4 = some (r, x') ∧ f_X10_layer y a1 a2 a3 a4 = some (r, y') ∧ Rel x' y' := by
  obtain ⟨W, hD, hF, -⟩ := h.2.2.2.2.2.2.2
  obtain ⟨hW, w1, w2, hwd, hst, -⟩ := id hD
  unfold f_X9_layer f_X10_layer
  simp only [p_isLine, p_mLine, p_isColour, p_mColour, p_wordNo w1 hW, p_mWord w2 hW, ub_some, bI_z, ite_not]
  by_cases h1 : 0 ≤ a1.toInt ∧ a1.toInt ≤ 3
  · rw [if_pos h1, if_pos h1]
    by_cases h4 : 1 ≤ a4.toInt ∧ a4.toInt ≤ 3
    · rw [if_pos h4, if_pos h4]
      by_cases h2 : 0 ≤ a2.toInt ∧ a2.toInt ≤ (W : Int) - 1
      · rw [if_pos h2, if_pos h2]
        obtain ⟨l, hl, rfl⟩ := n_of (N := 4) (v := a1) (by omega) (by decide)
        obtain ⟨w, hw, rfl⟩ := n_of (N := W) (v := a2) (by omega) (by omega)
        have h16 : w < 16 := by omega
        have hk := hwd w hw
        obtain ⟨n, h3, e1, e2, hr, hq⟩ := hF l hl
        rw [ui_n hl (by decide), ui_n hl (by decide), nI_clamp (show l < 2 ^ 31 by omega), e2]
        unfold f_X2_isFull
        rw [e1, bI_full (n := n) (N := 3) (v := 3) (by decide) (by omega) (by decide), ub_some]
        simp only [bI_z, ite_not]
        by_cases hf : n = 3
        · subst hf
          rw [if_pos (show 3 ≤ 3 by omega), if_pos (show nI 3 = 3 by decide)]; exact ⟨_, _, _, rfl, rfl, h⟩
        · have hlt : n < 3 := by omega
          rw [if_neg (show ¬ 3 ≤ n by omega), if_neg (show ¬ nI n = 3 from nI_nq (k := 3) (by decide) hf (by omega) (by decide)), p_hasIn e1 h3, ub_some, p_layer41 hF hl hlt e1 e2 (fun i hi => (hr i hi).2.2.1) h16 hk (hst w h16).1, ui_n h16 (by decide), nI_clamp (show w < 2 ^ 31 by omega), p_onX h16 hk, ub_some]
          simp only [bI_z, ite_not, iB_z]
          cases hb : anyN n (lc1 x a4 l)
          · rw [if_pos rfl, if_neg (show ¬ false = true by decide)]
            by_cases hs : x 17 w = 0
            · rw [if_pos hs, if_pos hs]
              by_cases h5 : 0 ≤ a3.toInt ∧ a3.toInt ≤ 10 - (ln x w : Int)
              · rw [if_pos h5, if_pos h5, p_addLayer e1 hlt, ub_some, al0]
                obtain ⟨t, ht, rfl⟩ := n_of (N := 11) (v := a3) (by omega) (by decide)
                obtain ⟨u, hu, rfl⟩ := n_of (N := 4) (v := a4) (by omega) (by decide)
                refine ⟨_, _, _, rfl, rfl, Rel_F2 h (fun k hk => alX_n (by omega)) (fun l' u' hl' hu' => alX_n (by omega)) (fun k k0 k5 k15 hk => alY_n (by omega)) rfl rfl rfl rfl rfl rfl rfl rfl rfl (fun W' hD' hF' => ?_)⟩
                have eW : W' = W := (nI_eq (by have := hD'.1; omega) (by omega)).mp (hD'.2.1.symm.trans w1)
                subst eW
                obtain ⟨⟨n9, q1, q8, g1, -⟩, -⟩ := hk
                have hln : ln x w = n9 := by unfold ln; rw [g1, nI_clamp (by omega)]
                rw [nI_toInt (by omega), hln] at h5
                rw [nI_toInt (by omega)] at h4
                refine RF_add hl hlt hF' e1 hw g1 (by omega) (by omega) (fun i hi e => ?_)
                have : anyN n (lc1 x (nI u) l) = true := anyN_iff.mpr ⟨i, hi, by unfold lc1; simp [e]⟩
                rw [hb] at this; cases this
              · rw [if_neg h5, if_neg h5, p_refuse x (k := 2) (by decide) (by decide), ub_some]
                exact ⟨_, _, _, rfl, rfl, rel_rf (by decide) h⟩
            · rw [if_neg hs, if_neg hs, p_refuse x (k := 1) (by decide) (by decide), ub_some]
              exact ⟨_, _, _, rfl, rfl, rel_rf (by decide) h⟩
          · rw [if_neg (by decide), if_pos rfl]; exact ⟨_, _, _, rfl, rfl, h⟩
      · rw [if_neg h2, if_neg h2]; exact ⟨_, _, _, rfl, rfl, h⟩
    · rw [if_neg h4, if_neg h4]
      by_cases h2 : 0 ≤ a2.toInt ∧ a2.toInt ≤ (W : Int) - 1
      · rw [if_pos h2]; exact ⟨_, _, _, rfl, rfl, h⟩
      · rw [if_neg h2]; exact ⟨_, _, _, rfl, rfl, h⟩
  · rw [if_neg h1, if_neg h1]; exact ⟨_, _, _, rfl, rfl, h⟩
