/-! ===== keep ===== -/
/-- the sum of the numbers at the bits of a set, of the first j -/
def sw (f : Nat → Int32) (s : Int32) : Nat → Int32
  | 0 => 0
  | j + 1 => if bt s j = true then sw f s j + f j else sw f s j
theorem sw_congr {f g : Nat → Int32} {s : Int32} {n : Nat} (h : ∀ i, i < n → f i = g i) : sw f s n = sw g s n := by
  induction n with
  | zero => rfl
  | succ n ih =>
    show (if bt s n = true then sw f s n + f n else sw f s n) = (if bt s n = true then sw g s n + g n else sw g s n)
    rw [ih (fun i hi => h i (by omega)), h n (by omega)]
theorem sw_ext {f : Nat → Int32} {s : Int32} {n m : Nat} (h : ∀ i, n ≤ i → bt s i = false) : sw f s (n + m) = sw f s n := by
  induction m with
  | zero => rfl
  | succ m ih =>
    show (if bt s (n + m) = true then sw f s (n + m) + f (n + m) else sw f s (n + m)) = _
    rw [h (n + m) (by omega), ih]
    rfl
theorem p_sumOf {x : St} {r : Nat} (s : Int32) : f_X7_sumOf x r s = some (sw (x r) s 12, x) := by
  unfold f_X7_sumOf
  have := loop_fu (fun fuel j => f_X7_sumOf_4 fuel x r s (sw (x r) s j) (nI j)) 12 (some (sw (x r) s 12, x)) (by decide) (fun fuel => ?_) (fun fuel j hj => ?_)
  · exact this
  · show f_X7_sumOf_4 (fuel + 1) _ _ _ _ _ = _
    rw [f_X7_sumOf_4, if_pos (by decide)]
  · right
    show f_X7_sumOf_4 (fuel + 1) _ _ _ _ _ = f_X7_sumOf_4 fuel _ _ _ (if bt s j = true then sw (x r) s j + x r j else sw (x r) s j) _
    have h12 : ¬ (12 : Int32) ≤ nI j := by rw [show (12 : Int32) = nI 12 from by decide]; exact nI_ge hj (by decide)
    rw [f_X7_sumOf_4, if_neg h12, b_test _ (by omega), ui_n hj (by decide), nI_clamp (show j < 2 ^ 31 by omega)]
    simp only [ul_eq, nI_1]
    by_cases g : bt s j = true
    · rw [if_pos g, if_pos g, if_neg (by decide)]
    · rw [if_neg g, if_neg g, if_pos rfl]
/-- all of the set have leave, of the first j -/
def my (y : St) (s : Int32) : Nat → Bool
  | 0 => true
  | j + 1 => my y s j && (!bt s j || decide (¬ y 33 j = 0))
theorem my_iff {y : St} {s : Int32} {n : Nat} : my y s n = true ↔ ∀ i, i < n → bt s i = true → ¬ y 33 i = 0 := by
  induction n with
  | zero =>
    constructor
    · intro _ i hi; exact absurd hi (by omega)
    · intro _; rfl
  | succ n ih =>
    show (my y s n && (!bt s n || decide (¬ y 33 n = 0))) = true ↔ _
    rw [Bool.and_eq_true, ih, Bool.or_eq_true]
    constructor
    · rintro ⟨h1, h2⟩ i hi hb
      by_cases e : i = n
      · subst e
        rcases h2 with h2 | h2
        · rw [hb] at h2; cases h2
        · exact of_decide_eq_true h2
      · exact h1 i (by omega) hb
    · intro h
      refine ⟨fun i hi hb => h i (by omega) hb, ?_⟩
      cases hb : bt s n
      · left; rfl
      · right; exact decide_eq_true (h n (by omega) hb)
def bst (x y : St) (n : Nat) (v : Int32) : Nat → Int32 × Int32 × Int32
  | 0 => (0, 0, 0)
  | j + 1 => if my y (nI (j + 1)) n = true ∧ ¬ v < sw (x 85) (nI (j + 1)) 12 ∧ ((bst x y n v j).2.1 < sw (x 84) (nI (j + 1)) 12 ∨ (sw (x 84) (nI (j + 1)) 12 = (bst x y n v j).2.1 ∧ ¬ (bst x y n v j).2.2 ≤ sw (x 85) (nI (j + 1)) 12)) then (nI (j + 1), sw (x 84) (nI (j + 1)) 12, sw (x 85) (nI (j + 1)) 12) else bst x y n v j
theorem bst_w {x y : St} {n : Nat} {v : Int32} : ∀ j, (bst x y n v j).2.1 = sw (x 84) (bst x y n v j).1 12
  | 0 => by
    show (0 : Int32) = sw (x 84) 0 12
    have : sw (x 84) 0 (0 + 12) = sw (x 84) 0 0 := sw_ext (fun i _ => b_0 i)
    exact this.symm
  | j + 1 => by
    show (if _ then _ else _ : Int32 × Int32 × Int32).2.1 = sw (x 84) (if _ then _ else _ : Int32 × Int32 × Int32).1 12
    split
    · rfl
    · exact bst_w j
theorem sh1 : ∀ n, n < 13 → (1 : Int32) <<< (nI n &&& 31) = nI (2 ^ n) := by decide +kernel
theorem pw12 {n : Nat} (h : n ≤ 12) : 1 ≤ 2 ^ n ∧ 2 ^ n ≤ 4096 := ⟨Nat.one_le_two_pow, by have : 2 ^ n ≤ 2 ^ 12 := Nat.pow_le_pow_right (by omega) h; omega⟩
theorem bt_hi {n s i : Nat} (h : s < 2 ^ n) (hi : n ≤ i) : bt (nI s) i = false := by
  by_cases h2 : i < 32
  · rw [bt_nI h2]
    exact Nat.testBit_lt_two_pow (Nat.lt_of_lt_of_le h (Nat.pow_le_pow_right (by omega) hi))
  · exact b_big (by omega)
theorem lv_iff {x y : St} {n s : Nat} (hJ : ∀ i, i < n → (y 33 i = 0 ∨ y 33 i = 1) ∧ bt (x 83 2) i = decide (y 33 i = 1)) (h : s < 2 ^ n) : (nI s &&& (x 83 2 ^^^ (-1))) = 0 ↔ my y (nI s) n = true := by
  rw [my_iff]
  constructor
  · intro e i hi hb
    by_cases h32 : i < 32
    · have := congrArg (fun z => bt z i) e
      simp only [b_and, b_0, b_not _ h32, hb, (hJ i hi).2] at this
      rcases (hJ i hi).1 with q | q
      · rw [q] at this; simp at this
      · rw [q]; decide
    · rw [b_big (by omega)] at hb; cases hb
  · intro g
    apply b_ext
    intro i h32
    rw [b_0, b_and, b_not _ h32]
    cases hb : bt (nI s) i
    · rfl
    · have hi : i < n := by
        by_cases q : i < n
        · exact q
        · rw [bt_hi h (by omega)] at hb; cases hb
      have := g i hi hb
      rw [(hJ i hi).2, (hJ i hi).1.resolve_left this]
      rfl
theorem p_best {x y : St} {n : Nat} (hn : n ≤ 12) (e : x 83 3 = nI n) (hJ : ∀ i, i < n → (y 33 i = 0 ∨ y 33 i = 1) ∧ bt (x 83 2) i = decide (y 33 i = 1)) (v : Int32) : f_X7_bestSet x v = some ((bst x y n v (2 ^ n - 1)).1, x) := by
  obtain ⟨p1, p2⟩ := pw12 hn
  unfold f_X7_bestSet
  have := loop_fu (fun fuel j => f_X7_bestSet_10 fuel x v (bst x y n v j).1 (bst x y n v j).2.1 (bst x y n v j).2.2 (nI (j + 1))) (2 ^ n - 1) (some ((bst x y n v (2 ^ n - 1)).1, x)) (by omega) (fun fuel => ?_) (fun fuel j hj => ?_)
  · exact this
  · show f_X7_bestSet_10 (fuel + 1) _ _ _ _ _ _ = _
    rw [f_X7_bestSet_10, e, sh1 n (by omega), show 2 ^ n - 1 + 1 = 2 ^ n by omega, if_pos (nI_le (Nat.le_refl _) (by omega))]
  · right
    show f_X7_bestSet_10 (fuel + 1) _ _ _ _ _ _ = f_X7_bestSet_10 fuel _ _ _ _ _ _
    rw [f_X7_bestSet_10, e, sh1 n (by omega), if_neg (nI_ge (by omega) (by omega)), p_sumOf, ub_some, p_sumOf, ub_some]
    simp only [ul_eq, nI_1, lv_iff hJ (show j + 1 < 2 ^ n by omega)]
    have eb : bst x y n v (j + 1) = if my y (nI (j + 1)) n = true ∧ ¬ v < sw (x 85) (nI (j + 1)) 12 ∧ ((bst x y n v j).2.1 < sw (x 84) (nI (j + 1)) 12 ∨ (sw (x 84) (nI (j + 1)) 12 = (bst x y n v j).2.1 ∧ ¬ (bst x y n v j).2.2 ≤ sw (x 85) (nI (j + 1)) 12)) then (nI (j + 1), sw (x 84) (nI (j + 1)) 12, sw (x 85) (nI (j + 1)) 12) else bst x y n v j := rfl
    by_cases c1 : my y (nI (j + 1)) n = true
    · by_cases c2 : v < sw (x 85) (nI (j + 1)) 12
      · rw [show bst x y n v (j + 1) = bst x y n v j from eb.trans (if_neg (fun q => q.2.1 c2))]
        simp only [if_pos c1, if_pos c2, ite_self]
      · by_cases c3 : (bst x y n v j).2.1 < sw (x 84) (nI (j + 1)) 12
        · rw [show bst x y n v (j + 1) = (nI (j + 1), sw (x 84) (nI (j + 1)) 12, sw (x 85) (nI (j + 1)) 12) from eb.trans (if_pos ⟨c1, c2, Or.inl c3⟩)]
          simp only [if_pos c1, if_neg c2, if_pos c3]
        · by_cases c4 : sw (x 84) (nI (j + 1)) 12 = (bst x y n v j).2.1
          · by_cases c5 : (bst x y n v j).2.2 ≤ sw (x 85) (nI (j + 1)) 12
            · rw [show bst x y n v (j + 1) = bst x y n v j from eb.trans (if_neg (fun q => q.2.2.elim c3 (fun q => q.2 c5)))]
              simp only [if_pos c1, if_neg c2, if_neg c3, if_pos c4, if_pos c5]
            · rw [show bst x y n v (j + 1) = (nI (j + 1), sw (x 84) (nI (j + 1)) 12, sw (x 85) (nI (j + 1)) 12) from eb.trans (if_pos ⟨c1, c2, Or.inr ⟨c4, c5⟩⟩)]
              simp only [if_pos c1, if_neg c2, if_neg c3, if_pos c4, if_neg c5]
          · rw [show bst x y n v (j + 1) = bst x y n v j from eb.trans (if_neg (fun q => q.2.2.elim c3 (fun q => c4 q.1)))]
            simp only [if_pos c1, if_neg c2, if_neg c3, if_neg c4]
    · rw [show bst x y n v (j + 1) = bst x y n v j from eb.trans (if_neg (fun q => c1 q.1))]
      simp only [if_neg c1]
theorem p_keep46 {y : St} {n : Nat} (k : St → Int32 → Int32 → Int32 → Int32 → Int32 → Option (Int32 × St)) (hn : n ≤ 12) (e : y 0 40 = nI n) (v a b c s : Int32) : f_X10_keep_46 k fu y v a b c s 0 0 1 0 = if my y s n = true ∧ ¬ v < sw (y 32) s n ∧ (b < sw (y 31) s n ∨ (sw (y 31) s n = b ∧ ¬ c ≤ sw (y 32) s n)) then k y v s (sw (y 31) s n) (sw (y 32) s n) (s + 1) else k y v a b c (s + 1) := by
  have := loop_fu (fun fuel j => f_X10_keep_46 k fuel y v a b c s (sw (y 31) s j) (sw (y 32) s j) (iB (my y s j)) (nI j)) n (if my y s n = true ∧ ¬ v < sw (y 32) s n ∧ (b < sw (y 31) s n ∨ (sw (y 31) s n = b ∧ ¬ c ≤ sw (y 32) s n)) then k y v s (sw (y 31) s n) (sw (y 32) s n) (s + 1) else k y v a b c (s + 1)) (by omega) (fun fuel => ?_) (fun fuel j hj => ?_)
  · exact this
  · show f_X10_keep_46 k (fuel + 1) _ _ _ _ _ _ _ _ _ _ = _
    rw [f_X10_keep_46, e, if_pos (nI_le (Nat.le_refl _) (by omega))]
    simp only [ul_eq, iB_z]
    by_cases c1 : my y s n = true
    · rw [if_neg (by rw [c1]; decide)]
      by_cases c2 : v < sw (y 32) s n
      · rw [if_pos c2, if_neg (fun q => q.2.1 c2)]
      · rw [if_neg c2]
        by_cases c3 : b < sw (y 31) s n
        · rw [if_pos c3, if_pos ⟨c1, c2, Or.inl c3⟩]
        · rw [if_neg c3]
          by_cases c4 : sw (y 31) s n = b
          · rw [if_pos c4]
            by_cases c5 : c ≤ sw (y 32) s n
            · rw [if_pos c5, if_neg (fun q => q.2.2.elim c3 (fun q => q.2 c5))]
            · rw [if_neg c5, if_pos ⟨c1, c2, Or.inr ⟨c4, c5⟩⟩]
          · rw [if_neg c4, if_neg (fun q => q.2.2.elim c3 (fun q => c4 q.1))]
    · rw [if_pos (by simpa using c1), if_neg (fun q => c1 q.1)]
  · right
    show f_X10_keep_46 k (fuel + 1) _ _ _ _ _ _ _ _ _ _ = f_X10_keep_46 k fuel _ _ _ _ _ _ (if bt s j = true then sw (y 31) s j + y 31 j else sw (y 31) s j) (if bt s j = true then sw (y 32) s j + y 32 j else sw (y 32) s j) (iB (my y s j && (!bt s j || decide (¬ y 33 j = 0)))) _
    rw [f_X10_keep_46, e, if_neg (nI_ge hj (by omega)), b_test _ (by omega)]
    unfold f_X10_keep_71 f_X10_keep_112
    simp only [ul_eq, nI_1, nI_p0, ui_n (show j < 12 by omega) (show 12 < 2 ^ 31 by decide), nI_clamp (show j < 2 ^ 31 by omega), show ¬ (1 : Int32) = 0 from by decide, if_true, if_false, iB_z]
    by_cases g : bt s j = true
    · simp only [if_pos g, if_true]
      cases hm : my y s j
      · simp only [if_true, Bool.false_and]
        rfl
      · simp only [Bool.true_eq_false, if_false, g, Bool.not_true, Bool.false_or, Bool.true_and]
        by_cases q : y 33 j = 0
        · simp only [if_pos q, q, not_true, decide_false]; rfl
        · simp only [if_neg q, q, not_false_iff, decide_true]; rfl
    · simp only [if_neg g, show ¬ (0 : Int32) = 1 from by decide, if_false]
      simp only [Bool.not_eq_true] at g
      cases hm : my y s j
      · simp only [if_true, Bool.false_and]
        rfl
      · simp only [Bool.true_eq_false, if_false, g, Bool.not_false, Bool.true_or, Bool.true_and]
        rfl
theorem op_keep {x y : St} (h : Rel x y) (a1 : Int32) : ∃ (r : Int32) (x' y' : St), f_X9_keep x a1 = some (r, x') ∧ f_X10_keep y a1 = some (r, y') ∧ Rel x' y' := by
  obtain ⟨n, hn, e1, e2, hr, -⟩ := h.2.2.2.2.2.2.1
  obtain ⟨p1, p2⟩ := pw12 hn
  have hJ : ∀ i, i < n → (y 33 i = 0 ∨ y 33 i = 1) ∧ bt (x 83 2) i = decide (y 33 i = 1) := fun i hi => ⟨(hr i hi).2.2.2.2.1, (hr i hi).2.2.2.2.2⟩
  unfold f_X9_keep f_X10_keep
  rw [p_best hn e1 hJ, ub_some, ul_eq, us_at, p_sumOf, ub_some, p_in, ub_some]
  simp only [bI_z, ite_not, i_lt, i_le]
  rw [show (0 : Int32).toInt = 0 from by decide, show (12000 : Int32).toInt = 12000 from by decide]
  by_cases h1 : 0 ≤ a1.toInt ∧ a1.toInt ≤ 12000
  · rw [if_neg (show ¬ a1.toInt < 0 by omega), if_pos h1.2, if_pos h1, us_n (show 84 ≠ 0 by omega)]
    have hy : f_X10_keep_23 fu y a1 0 0 0 1 = some ((bst x y n a1 (2 ^ n - 1)).2.1, us y 0 2 (bst x y n a1 (2 ^ n - 1)).1) := by
      have := loop_fu (fun fuel j => f_X10_keep_23 fuel y a1 (bst x y n a1 j).1 (bst x y n a1 j).2.1 (bst x y n a1 j).2.2 (nI (j + 1))) (2 ^ n - 1) (some ((bst x y n a1 (2 ^ n - 1)).2.1, us y 0 2 (bst x y n a1 (2 ^ n - 1)).1)) (by omega) (fun fuel => ?_) (fun fuel j hj => ?_)
      · exact this
      · show f_X10_keep_23 (fuel + 1) _ _ _ _ _ _ = _
        rw [f_X10_keep_23, e2, sh1 n (by omega), show 2 ^ n - 1 + 1 = 2 ^ n by omega, if_pos (nI_le (Nat.le_refl _) (by omega)), ul_eq]
      · right
        show f_X10_keep_23 (fuel + 1) _ _ _ _ _ _ = f_X10_keep_23 fuel _ _ _ _ _ _
        have hlt : j + 1 < 2 ^ n := by omega
        have s31 : sw (y 31) (nI (j + 1)) n = sw (x 84) (nI (j + 1)) 12 := by
          have : sw (x 84) (nI (j + 1)) (n + (12 - n)) = sw (x 84) (nI (j + 1)) n := sw_ext (fun i hi => bt_hi hlt hi)
          rw [show n + (12 - n) = 12 by omega] at this
          rw [this]
          exact (sw_congr (fun i hi => (hr i hi).1)).symm
        have s32 : sw (y 32) (nI (j + 1)) n = sw (x 85) (nI (j + 1)) 12 := by
          have : sw (x 85) (nI (j + 1)) (n + (12 - n)) = sw (x 85) (nI (j + 1)) n := sw_ext (fun i hi => bt_hi hlt hi)
          rw [show n + (12 - n) = 12 by omega] at this
          rw [this]
          exact (sw_congr (fun i hi => (hr i hi).2.1)).symm
        rw [f_X10_keep_23, e2, sh1 n (by omega), if_neg (nI_ge (by omega) (by omega)), p_keep46 _ hn e2, s31, s32, nI_1]
        have eb : bst x y n a1 (j + 1) = if my y (nI (j + 1)) n = true ∧ ¬ a1 < sw (x 85) (nI (j + 1)) 12 ∧ ((bst x y n a1 j).2.1 < sw (x 84) (nI (j + 1)) 12 ∨ (sw (x 84) (nI (j + 1)) 12 = (bst x y n a1 j).2.1 ∧ ¬ (bst x y n a1 j).2.2 ≤ sw (x 85) (nI (j + 1)) 12)) then (nI (j + 1), sw (x 84) (nI (j + 1)) 12, sw (x 85) (nI (j + 1)) 12) else bst x y n a1 j := rfl
        rw [eb]
        split <;> rfl
    rw [hy, ← bst_w]
    refine ⟨_, _, _, rfl, rfl, Rel_K (x := x) (y := y) (fun q q1 q2 => us_n (by omega)) ⟨fun q q1 q2 _ _ _ _ => us_n (by omega), rfl, rfl, rfl, rfl, rfl, rfl, rfl⟩ ⟨h.1.1, ?_, h.1.2.2⟩ h⟩
    rw [us_at, us_at]
  · rw [if_neg h1]
    by_cases g : a1.toInt < 0
    · rw [if_pos g]; exact ⟨_, _, _, rfl, rfl, h⟩
    · rw [if_neg g, if_neg (show ¬ a1.toInt ≤ 12000 by omega)]; exact ⟨_, _, _, rfl, rfl, h⟩
