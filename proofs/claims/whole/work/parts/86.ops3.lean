theorem nI_nq {n k : Nat} {v : Int32} (hv : v = nI k) (h : ¬ n = k) (hn : n < 2 ^ 31) (hk : k < 2 ^ 31) : ¬ nI n = v := by
  rw [hv, nI_eq hn hk]
  exact h
theorem us_d {σ : St} {k j q i : Nat} {v : Int32} (h : (decide (q = k)) = false) : us σ k j v q i = σ q i := by
  unfold us
  rw [if_neg (of_decide_eq_false h)]
theorem us_at {σ : St} {k j : Nat} {v : Int32} : us σ k j v k j = v := by
  rw [us_e]
  unfold upd
  rw [if_pos rfl]
theorem bI_full {n N : Nat} {v : Int32} {x : St} (hv : v = nI N) (hn : n < 2 ^ 31) (hN : N < 2 ^ 31) : (if nI n < v then some ((0 : Int32), x) else some ((1 : Int32), x)) = some (bI (N ≤ n), x) := by
  rw [hv]
  unfold bI
  by_cases h : n < N
  · rw [if_pos (nI_lt h hN), if_neg (by omega)]
  · rw [if_neg (nI_nlt (by omega) hn), if_pos (by omega)]
theorem p_lightFull {x : St} {n : Nat} (hn : x 75 4 = nI n) (h : n ≤ 30) : f_X1_isFull x = some (bI (30 ≤ n), x) := by
  unfold f_X1_isFull
  rw [hn]
  exact bI_full (by decide) (by omega) (by decide)
theorem p_lightAdd {x : St} {n : Nat} (hn : x 75 4 = nI n) (h : n < 30) (a b c d : Int32) : f_X1_add x a b c d = some ((), us (us (us (us (us x 76 n a) 77 n b) 78 n c) 79 n d) 75 4 (nI (n + 1))) := by
  unfold f_X1_add
  simp only [ul_eq, us_d (k := 76) (q := 75) rfl, us_d (k := 77) (q := 75) rfl, us_d (k := 78) (q := 75) rfl, us_d (k := 79) (q := 75) rfl, hn, ui_n h (show 30 < 2 ^ 31 by decide), nI_clamp (show n < 2 ^ 31 by omega), nI_1]
theorem op_light {x y : St} (h : Rel x y) (a1 a2 a3 a4 : Int32) : ∃ (r : Int32) (x' y' : St), f_X9_light x a1 a2 a3 a4 = some (r, x') ∧ f_X10_light y a1 a2 a3 a4 = some (r, y') ∧ Rel x' y' := by
  unfold f_X9_light f_X10_light
  simp only [p_lightNo, p_isLine, p_isCells, p_isSlot, p_in, p_mLine, p_mSlot, ub_some, bI_z, ite_not]
  rw [show (0 : Int32).toInt = 0 from by decide, show (5 : Int32).toInt = 5 from by decide, show (32767 : Int32).toInt = 32767 from by decide]
  by_cases h1 : 0 ≤ a1.toInt ∧ a1.toInt ≤ 5
  · rw [if_pos h1, if_pos h1]
    by_cases h2 : 0 ≤ a2.toInt ∧ a2.toInt ≤ 3
    · rw [if_pos h2, if_pos h2]
      by_cases h4 : 0 ≤ a4.toInt ∧ a4.toInt ≤ 32767
      · rw [if_pos h4, if_pos h4]
        have hH := h.2.2.2.2.2.1
        obtain ⟨n, hn, e1, e2, hr⟩ := hH
        rw [p_lightFull e1 hn, ub_some, e2]
        simp only [bI_z]
        by_cases hf : n = 30
        · subst hf
          rw [if_neg (show ¬ ¬ 30 ≤ 30 by omega), if_pos (show nI 30 = 30 by decide)]; exact ⟨_, _, _, rfl, rfl, h⟩
        · have hlt : n < 30 := by omega
          rw [if_pos (show ¬ 30 ≤ n by omega), if_neg (show ¬ nI n = 30 from nI_nq (k := 30) (by decide) hf (by omega) (by decide))]
          by_cases h3 : 0 ≤ a3.toInt ∧ a3.toInt ≤ 9
          · rw [if_pos h3, if_pos h3, p_lightAdd e1 hlt, ub_some]
            simp only [ul_eq, us_d (k := 25) (q := 0) rfl, us_d (k := 26) (q := 0) rfl, us_d (k := 27) (q := 0) rfl, us_d (k := 28) (q := 0) rfl, e2, ui_n hlt (show 30 < 2 ^ 31 by decide), nI_clamp (show n < 2 ^ 31 by omega), nI_1, us_at]
            obtain ⟨t, ht, rfl⟩ := n_of (N := 10) (v := a3) (by omega) (by decide)
            obtain ⟨k, hk, rfl⟩ := n_of (N := 32768) (v := a4) (by omega) (by decide)
            refine ⟨nI (n + 1), us (us (us (us (us x 76 n a1) 77 n a2) 78 n (nI t)) 79 n (nI k)) 75 4 (nI (n + 1)), us (us (us (us (us y 25 n a1) 26 n a2) 27 n (nI t)) 28 n (nI k)) 0 32 (nI (n + 1)), rfl, rfl, Rel_H h (fun q hq => ?_) (fun q hq => ?_) rfl rfl rfl rfl rfl rfl rfl rfl ?_⟩
            · rw [us_n (by omega), us_n (by omega), us_n (by omega), us_n (by omega), us_n (by omega)]
            · rw [us_n (by omega), us_n (by omega), us_n (by omega), us_n (by omega), us_n (by omega)]
            · refine ⟨n + 1, by omega, us_at, us_at, fun i hi => ?_⟩
              show upd (x 76) n a1 i = upd (y 25) n a1 i ∧ upd (x 77) n a2 i = upd (y 26) n a2 i ∧ upd (x 78) n (nI t) i = upd (y 27) n (nI t) i ∧ upd (x 79) n (nI k) i = upd (y 28) n (nI k) i ∧ m15 (upd (x 79) n (nI k) i) ∧ ∃ t', t' < 10 ∧ upd (x 78) n (nI t) i = nI t'
              unfold upd
              by_cases e : i = n
              · simp only [if_pos e]; exact ⟨trivial, trivial, trivial, trivial, ⟨k, hk, rfl⟩, t, ht, rfl⟩
              · simp only [if_neg e]; exact hr i (by omega)
          · rw [if_neg h3, if_neg h3, p_refuse x (k := 2) (by decide) (by decide), p_meets y (k := 2) (by decide) (by decide), ub_some, ub_some]
            exact ⟨_, _, _, rfl, rfl, rel_rf (by decide) h⟩
      · rw [if_neg h4, if_neg h4]; exact ⟨_, _, _, rfl, rfl, h⟩
    · rw [if_neg h2, if_neg h2]; exact ⟨_, _, _, rfl, rfl, h⟩
  · rw [if_neg h1, if_neg h1]; exact ⟨_, _, _, rfl, rfl, h⟩
theorem Rel_I {x x' y y' : St} (h : Rel x y) (hx : ∀ k, (k < 80 ∨ 82 < k) → x' k = x k) (hy : ∀ k, k ≠ 0 ∧ k ≠ 29 ∧ k ≠ 30 → y' k = y k) (w0 : y' 0 0 = y 0 0) (w2 : y' 0 2 = y 0 2) (w7 : y' 0 7 = y 0 7) (w26 : y' 0 26 = y 0 26) (w30 : y' 0 30 = y 0 30) (w31 : y' 0 31 = y 0 31) (w32 : y' 0 32 = y 0 32) (w40 : y' 0 40 = y 0 40) (hn : ∀ W, RD W x y → RI W x y → RI W x' y') : Rel x' y' := by
  obtain ⟨hA, hB, hC, hE, hG, hH, hJ, W, hD, hF, hI⟩ := h
  exact ⟨RA_of (by rw [hx 0 (by omega)]) (by rw [hx 0 (by omega)]) (hx _ (by omega)) w0 w2 (hy _ (by omega)) hA, RB_of (hx _ (by omega)) (hy _ (by omega)) hB, RC_of (hx _ (by omega)) (fun s hs => hx _ (by omega)) (hy _ (by omega)) (hy _ (by omega)) hC, RE_of (fun l u hl hu => hx _ (by omega)) (hy _ (by omega)) hE, RG_of (hx _ (by omega)) (hx _ (by omega)) (hx _ (by omega)) (hx _ (by omega)) w26 w30 w31 (hy _ (by omega)) (hy _ (by omega)) (hy _ (by omega)) hG, RH_of (hx _ (by omega)) (hx _ (by omega)) (hx _ (by omega)) (hx _ (by omega)) (hx _ (by omega)) w32 (hy _ (by omega)) (hy _ (by omega)) (hy _ (by omega)) (hy _ (by omega)) hH, RJ_of (hx _ (by omega)) (hx _ (by omega)) (hx _ (by omega)) w40 (hy _ (by omega)) (hy _ (by omega)) (hy _ (by omega)) hJ, W, RD_of (by rw [hx 8 (by omega)]) (fun w hw => hx _ (by omega)) (hx _ (by omega)) (hx _ (by omega)) (hx _ (by omega)) (hx _ (by omega)) (hx _ (by omega)) (hx _ (by omega)) (hx _ (by omega)) w7 (hy _ (by omega)) (hy _ (by omega)) (hy _ (by omega)) (hy _ (by omega)) (hy _ (by omega)) (hy _ (by omega)) (hy _ (by omega)) (hy _ (by omega)) hD, RF_of (fun l hl => by rw [hx (35 + 9 * l) (by omega)]) (fun l hl => hx _ (by omega)) (fun l hl => hx _ (by omega)) (fun l hl => hx _ (by omega)) (hx _ (by omega)) (hy _ (by omega)) (hy _ (by omega)) (hy _ (by omega)) (hy _ (by omega)) hF, hn W hD hI⟩
theorem p_wordNo {x : St} {W : Nat} (hW : x 8 9 = nI W) (h : W ≤ 16) (v : Int32) : f_X8_isNumber x v = some (bI (0 ≤ v.toInt ∧ v.toInt ≤ (W : Int) - 1), x) := by
  unfold f_X8_isNumber
  rw [hW]
  exact rng2 x v 0 (nI W) (by decide) (by rw [nI_toInt (by omega)]; omega)
theorem p_mWord {y : St} {W : Nat} (hW : y 0 7 = nI W) (h : W ≤ 16) (v : Int32) : f_X10_isWord y v = some (bI (0 ≤ v.toInt ∧ v.toInt ≤ (W : Int) - 1), y) := by
  unfold f_X10_isWord
  rw [p_in, ub_some, ug_ok unz_bI, hW]
  simp only [nI_m (v := 1) (k := 1) (by decide) (show W < 2 ^ 30 by omega) (by decide), show (0 : Int32).toInt = 0 from by decide]
  rfl
theorem p_handFull {x : St} {n : Nat} (hn : x 80 2 = nI n) (h : n ≤ 12) : f_X0_isFull x = some (bI (12 ≤ n), x) := by
  unfold f_X0_isFull
  rw [hn]
  exact bI_full (by decide) (by omega) (by decide)
theorem p_handAdd {x : St} {n : Nat} (hn : x 80 2 = nI n) (h : n < 12) (a b : Int32) : f_X0_add x a b = some ((), us (us (us x 81 n a) 82 n b) 80 2 (nI (n + 1))) := by
  unfold f_X0_add
  simp only [ul_eq, us_d (k := 81) (q := 80) rfl, us_d (k := 82) (q := 80) rfl, hn, ui_n h (show 12 < 2 ^ 31 by decide), nI_clamp (show n < 2 ^ 31 by omega), nI_1]
theorem op_read {x y : St} (h : Rel x y) (a1 a2 : Int32) : ∃ (r : Int32) (x' y' : St), f_X9_read x a1 a2 = some (r, x') ∧ f_X10_read y a1 a2 = some (r, y') ∧ Rel x' y' := by
  obtain ⟨W, hD, -, hI⟩ := h.2.2.2.2.2.2.2
  obtain ⟨hW, w1, w2, -, hst, -⟩ := hD
  obtain ⟨n, hn, e1, e2, hr⟩ := hI
  unfold f_X9_read f_X10_read
  simp only [p_isLine, p_mLine, p_wordNo w1 hW, p_mWord w2 hW, p_handFull e1 hn, ub_some, bI_z, ite_not]
  by_cases h1 : 0 ≤ a1.toInt ∧ a1.toInt ≤ 3
  · rw [if_pos h1, if_pos h1]
    by_cases h2 : 0 ≤ a2.toInt ∧ a2.toInt ≤ (W : Int) - 1
    · rw [if_pos h2, if_pos h2, e2]
      by_cases hf : n = 12
      · subst hf
        rw [if_pos (show 12 ≤ 12 by omega), if_pos (show nI 12 = 12 by decide)]; exact ⟨_, _, _, rfl, rfl, h⟩
      · have hlt : n < 12 := by omega
        rw [if_neg (show ¬ 12 ≤ n by omega), if_neg (show ¬ nI n = 12 from nI_nq (k := 12) (by decide) hf (by omega) (by decide))]
        obtain ⟨w, hw, rfl⟩ := n_of (N := W) (v := a2) (by omega) (by omega)
        rw [ui_n (show w < 16 by omega) (by decide), ui_n (show w < 16 by omega) (by decide), nI_clamp (by omega), ← (hst w (by omega)).1]
        by_cases hs : x 17 w = 0
        · rw [if_pos hs, if_pos hs, p_handAdd e1 hlt, ub_some]
          simp only [ul_eq, us_d (k := 29) (q := 0) rfl, us_d (k := 30) (q := 0) rfl, e2, ui_n hlt (show 12 < 2 ^ 31 by decide), nI_clamp (show n < 2 ^ 31 by omega), nI_1, us_at]
          refine ⟨nI (n + 1), us (us (us x 81 n a1) 82 n (nI w)) 80 2 (nI (n + 1)), us (us (us y 29 n a1) 30 n (nI w)) 0 37 (nI (n + 1)), rfl, rfl, Rel_I h (fun q hq => ?_) (fun q hq => ?_) rfl rfl rfl rfl rfl rfl rfl rfl ?_⟩
          · rw [us_n (by omega), us_n (by omega), us_n (by omega)]
          · rw [us_n (by omega), us_n (by omega), us_n (by omega)]
          · intro W' hD' hI'
            have eW : W' = W := (nI_eq (by have := hD'.1; omega) (by omega)).mp (hD'.2.1.symm.trans w1)
            subst eW
            refine ⟨n + 1, by omega, us_at, us_at, fun i hi => ?_⟩
            show upd (x 81) n a1 i = upd (y 29) n a1 i ∧ upd (x 82) n (nI w) i = upd (y 30) n (nI w) i ∧ ∃ w', w' < W' ∧ upd (x 82) n (nI w) i = nI w'
            unfold upd
            by_cases e : i = n
            · simp only [if_pos e]; exact ⟨trivial, trivial, w, hw, rfl⟩
            · simp only [if_neg e]; exact hr i (by omega)
        · rw [if_neg hs, if_neg hs, p_refuse x (k := 1) (by decide) (by decide), p_meets y (k := 1) (by decide) (by decide), ub_some, ub_some]
          exact ⟨_, _, _, rfl, rfl, rel_rf (by decide) h⟩
    · rw [if_neg h2, if_neg h2]; exact ⟨_, _, _, rfl, rfl, h⟩
  · rw [if_neg h1, if_neg h1]; exact ⟨_, _, _, rfl, rfl, h⟩
