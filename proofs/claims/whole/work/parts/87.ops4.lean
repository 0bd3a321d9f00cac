theorem nf_sh : ∀ l, l < 32 → ((1 : Int32) <<< (nI l &&& 31)).toBitVec = BitVec.twoPow 32 l := by decide +kernel
theorem b_or (x y : Int32) (i : Nat) : bt (x ||| y) i = (bt x i || bt y i) := by unfold bt; rw [Int32.toBitVec_or, BitVec.getLsbD_or]
theorem b_and (x y : Int32) (i : Nat) : bt (x &&& y) i = (bt x i && bt y i) := by unfold bt; rw [Int32.toBitVec_and, BitVec.getLsbD_and]
theorem b_xor (x y : Int32) (i : Nat) : bt (x ^^^ y) i = (bt x i ^^ bt y i) := by unfold bt; rw [Int32.toBitVec_xor, BitVec.getLsbD_xor]
theorem b_one {n i : Nat} (hn : n < 32) : bt ((1 : Int32) <<< (nI n &&& 31)) i = decide (i = n) := by
  unfold bt
  rw [nf_sh n hn, BitVec.getLsbD_twoPow]
  by_cases e : i = n
  · subst e; simp [hn]
  · have e' : ¬ n = i := fun q => e q.symm
    simp [e, e']
theorem b_set (m : Int32) {n i : Nat} (hn : n < 32) : bt (m ||| ((1 : Int32) <<< (nI n &&& 31))) i = (bt m i || decide (i = n)) := by
  rw [b_or, b_one hn]
theorem p_wallFull {x : St} {n : Nat} (hn : x 83 3 = nI n) (h : n ≤ 12) : f_X7_isFull x = some (bI (12 ≤ n), x) := by
  unfold f_X7_isFull
  rw [hn]
  exact bI_full (by decide) (by omega) (by decide)
def wlX (x : St) (n : Nat) (a b m : Int32) : St := us (us (us (us x 84 n a) 85 n b) 83 2 m) 83 3 (nI (n + 1))
theorem p_wallAdd {x : St} {n : Nat} (hn : x 83 3 = nI n) (h : n < 12) (a b c : Int32) : ∃ x', f_X7_add x a b c = some (nI n, x') ∧ (∀ k, k < 83 ∨ 85 < k → x' k = x k) ∧ x' 83 3 = nI (n + 1) ∧ x' 83 2 = (if c = 0 then x 83 2 else x 83 2 ||| ((1 : Int32) <<< (nI n &&& 31))) ∧ x' 84 = upd (x 84) n a ∧ x' 85 = upd (x 85) n b := by
  have s1 : nI (n + 1) - 1 = nI n := nI_pred n
  have d3 : ∀ (z : St) (v : Int32), us z 83 2 v 83 3 = z 83 3 := fun z v => rfl
  unfold f_X7_add
  simp only [ul_eq, us_d (k := 84) (q := 83) rfl, us_d (k := 85) (q := 83) rfl, hn, ui_n h (show 12 < 2 ^ 31 by decide), nI_clamp (show n < 2 ^ 31 by omega), nI_1, us_at, d3, s1]
  by_cases hc : c = 0
  · rw [if_pos hc, if_pos hc]
    exact ⟨_, rfl, fun k hk => by rw [us_n (by omega), us_n (by omega), us_n (by omega)], us_at, rfl, rfl, rfl⟩
  · rw [if_neg hc, if_neg hc]
    exact ⟨_, rfl, fun k hk => by rw [us_n (by omega), us_n (by omega), us_n (by omega), us_n (by omega)], us_at, rfl, rfl, rfl⟩
theorem op_wall {x y : St} (h : Rel x y) (a1 a2 a3 : Int32) (hz : a3 = 0 ∨ a3 = 1) : ∃ (r : Int32) (x' y' : St), f_X9_wall x a1 a2 a3 = some (r, x') ∧ f_X10_wall y a1 a2 a3 = some (r, y') ∧ Rel x' y' := by
  obtain ⟨n, hn, e1, e2, hr, hb⟩ := h.2.2.2.2.2.2.1
  unfold f_X9_wall f_X10_wall
  simp only [p_in, p_wallFull e1 hn, ub_some, bI_z, ite_not, i_lt, i_le]
  rw [show (0 : Int32).toInt = 0 from by decide, show (1 : Int32).toInt = 1 from by decide, show (1000 : Int32).toInt = 1000 from by decide]
  by_cases h1 : 0 ≤ a1.toInt ∧ a1.toInt ≤ 1000
  · rw [if_neg (show ¬ a1.toInt < 0 by omega), if_neg (show ¬ 1000 < a1.toInt by omega), if_pos h1]
    by_cases h2 : 1 ≤ a2.toInt ∧ a2.toInt ≤ 1000
    · rw [if_neg (show ¬ a2.toInt < 1 by omega), if_pos h2.2, if_pos h2, e2]
      by_cases hf : n = 12
      · subst hf
        rw [if_pos (show 12 ≤ 12 by omega), if_pos (show nI 12 = 12 by decide)]; exact ⟨_, _, _, rfl, rfl, h⟩
      · have hlt : n < 12 := by omega
        rw [if_neg (show ¬ 12 ≤ n by omega), if_neg (show ¬ nI n = 12 from nI_nq (k := 12) (by decide) hf (by omega) (by decide))]
        obtain ⟨x', f1, f2, f3, f4, f5, f6⟩ := p_wallAdd e1 hlt a1 a2 a3
        have s1 : nI (n + 1) - 1 = nI n := nI_pred n
        rw [f1, ub_some]
        simp only [ul_eq, us_d (k := 31) (q := 0) rfl, us_d (k := 32) (q := 0) rfl, us_d (k := 33) (q := 0) rfl, e2, ui_n hlt (show 12 < 2 ^ 31 by decide), nI_clamp (show n < 2 ^ 31 by omega), nI_1, us_at, s1]
        refine ⟨nI n, x', us (us (us (us y 31 n a1) 32 n a2) 33 n (vp_nar .boolean a3)) 0 40 (nI (n + 1)), rfl, rfl, Rel_J h f2 (fun q hq => ?_) rfl rfl rfl rfl rfl rfl rfl rfl ?_⟩
        · rw [us_n (by omega), us_n (by omega), us_n (by omega), us_n (by omega)]
        · have hv : vp_nar .boolean a3 = a3 := by rcases hz with rfl | rfl <;> decide
          have hbt : ∀ i, bt (x' 83 2) i = (bt (x 83 2) i || decide (i = n ∧ a3 = 1)) := fun i => by
            rw [f4]
            rcases hz with rfl | rfl
            · rw [if_pos rfl]; simp
            · rw [if_neg (by decide), b_set _ (by omega)]; simp
          refine ⟨n + 1, by omega, f3, us_at, fun i hi => ?_, fun i hi => ?_⟩
          · rw [f5, f6, hbt]
            show upd (x 84) n a1 i = upd (y 31) n a1 i ∧ upd (x 85) n a2 i = upd (y 32) n a2 i ∧ (0 ≤ (upd (x 84) n a1 i).toInt ∧ (upd (x 84) n a1 i).toInt ≤ 1000) ∧ (1 ≤ (upd (x 85) n a2 i).toInt ∧ (upd (x 85) n a2 i).toInt ≤ 1000) ∧ (upd (y 33) n (vp_nar .boolean a3) i = 0 ∨ upd (y 33) n (vp_nar .boolean a3) i = 1) ∧ (bt (x 83 2) i || decide (i = n ∧ a3 = 1)) = decide (upd (y 33) n (vp_nar .boolean a3) i = 1)
            rw [hv]
            unfold upd
            by_cases e : i = n
            · simp only [if_pos e]
              refine ⟨trivial, trivial, h1, h2, hz, ?_⟩
              rw [hb i (by omega)]
              simp [e]
            · simp only [if_neg e]
              obtain ⟨g1, g2, g3, g4, g5, g6⟩ := hr i (by omega)
              exact ⟨g1, g2, g3, g4, g5, by rw [g6]; simp [e]⟩
          · rw [hbt, hb i (by omega)]
            simp
            omega
    · rw [if_neg h2]
      by_cases g : a2.toInt < 1
      · rw [if_pos g]; exact ⟨_, _, _, rfl, rfl, h⟩
      · rw [if_neg g, if_neg (show ¬ a2.toInt ≤ 1000 by omega)]; exact ⟨_, _, _, rfl, rfl, h⟩
  · rw [if_neg h1]
    by_cases g : a1.toInt < 0
    · rw [if_pos g]; exact ⟨_, _, _, rfl, rfl, h⟩
    · rw [if_neg g, if_pos (show 1000 < a1.toInt by omega)]; exact ⟨_, _, _, rfl, rfl, h⟩
