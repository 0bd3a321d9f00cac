/-! ===== new words ===== -/
theorem sm_mono {f : Nat → Nat} {a b : Nat} (h : a ≤ b) : sm a f ≤ sm b f := by
  have e : b = a + (b - a) := by omega
  rw [e, sm_split]; omega
/-- every number below a sum of noughts and ones is met -/
theorem sm_hit {f : Nat → Nat} {n i : Nat} (hf : ∀ p, p < n → f p ≤ 1) (h : i < sm n f) : ∃ p, p < n ∧ f p = 1 ∧ sm p f = i := by
  induction n with
  | zero => exact absurd h (by show ¬ i < 0; omega)
  | succ n ih =>
    rw [sm_s] at h
    have h1 := hf n (by omega)
    by_cases g : i < sm n f
    · obtain ⟨p, a, b, c⟩ := ih (fun p hp => hf p (by omega)) g
      exact ⟨p, by omega, b, c⟩
    · exact ⟨n, by omega, by omega, by omega⟩
/-- byte i of a sheet is a letter -/
def isl (x : St) (s i : Nat) : Nat := if 97 ≤ (x (4 + s) i).toInt ∧ (x (4 + s) i).toInt ≤ 122 then 1 else 0
theorem isl_1 (x : St) (s i : Nat) : isl x s i ≤ 1 := by unfold isl; split <;> omega
theorem p_lettersIn {x : St} {s n : Nat} (hn : n ≤ 10) : f_X8_lettersIn x s (nI n) = some (nI (sm n (isl x s)), x) := by
  unfold f_X8_lettersIn
  have := loop_fu (fun fuel j => f_X8_lettersIn_4 fuel x s (nI n) (nI (sm j (isl x s))) (nI j)) n (some (nI (sm n (isl x s)), x)) (by omega) (fun fuel => ?_) (fun fuel j hj => ?_)
  · exact this
  · show f_X8_lettersIn_4 (fuel + 1) _ _ _ _ _ = _
    rw [f_X8_lettersIn_4, if_pos (nI_le (Nat.le_refl _) (by omega))]
  · right
    show f_X8_lettersIn_4 (fuel + 1) _ _ _ _ _ = f_X8_lettersIn_4 fuel _ _ _ _ _
    rw [f_X8_lettersIn_4, if_neg (nI_ge hj (by omega)), ui_n (show j < 10 by omega) (by decide), nI_clamp (show j < 2 ^ 31 by omega), p_isLetter, ub_some, sm_s]
    simp only [ul_eq, nI_1, bI_z]
    unfold isl
    by_cases c : 97 ≤ (x (4 + s) j).toInt ∧ (x (4 + s) j).toInt ≤ 122
    · rw [if_neg (fun q => q c), if_pos c]
    · rw [if_pos c, if_neg c]; rfl
theorem e10 {s j : Nat} : (10 : Int32) * nI s + nI j = nI (10 * s + j) := by rw [show (10 : Int32) = nI 10 from by decide, pk_mul, nI_add]
theorem p_lettersOn {x y : St} {s n : Nat} (hs : s < 4) (hn : n ≤ 10) (e : y 3 s = nI n) (hr : ∀ j, j < 10 → x (4 + s) j = y 4 (10 * s + j)) : f_X10_lettersOn y (nI s) = some (nI (sm n (isl x s)), y) := by
  unfold f_X10_lettersOn
  have := loop_fu (fun fuel j => f_X10_lettersOn_4 fuel y (nI s) (nI (sm j (isl x s))) (nI j)) n (some (nI (sm n (isl x s)), y)) (by omega) (fun fuel => ?_) (fun fuel j hj => ?_)
  · exact this
  · show f_X10_lettersOn_4 (fuel + 1) _ _ _ _ = _
    rw [f_X10_lettersOn_4, ui_n hs (by decide), nI_clamp (show s < 2 ^ 31 by omega), e, if_pos (nI_le (Nat.le_refl _) (by omega))]
  · right
    show f_X10_lettersOn_4 (fuel + 1) _ _ _ _ = f_X10_lettersOn_4 fuel _ _ _ _
    rw [f_X10_lettersOn_4, ui_n hs (by decide), nI_clamp (show s < 2 ^ 31 by omega), e, if_neg (nI_ge hj (by omega)), e10, ui_n (show 10 * s + j < 40 by omega) (by decide), nI_clamp (show 10 * s + j < 2 ^ 31 by omega), ← hr j (by omega), p_mLetter, ub_some, sm_s]
    simp only [ul_eq, nI_1, bI_z, nI_p0]
    unfold isl
    by_cases c : 97 ≤ (x (4 + s) j).toInt ∧ (x (4 + s) j).toInt ≤ 122
    · rw [if_neg (fun q => q c), if_pos c]
    · rw [if_pos c, if_neg c]; rfl
theorem p_makes {x : St} {s n : Nat} (hs : s < 4) (hn : n ≤ 10) (e : x 3 s = nI n) : f_X9_makesWord x (nI s) = some (bI (1 ≤ sm n (isl x s) ∧ sm n (isl x s) ≤ 8), x) := by
  have hle : sm n (isl x s) ≤ 10 := by have := sm_1 (n := n) (f := isl x s) (fun i _ => isl_1 x s i); omega
  unfold f_X9_makesWord bI
  rw [ui_n hs (by decide), ui_n hs (by decide), nI_clamp (show s < 2 ^ 31 by omega), e, p_lettersIn hn, ub_some, show (1 : Int32) = nI 1 from by decide, show (8 : Int32) = nI 8 from by decide]
  by_cases c : sm n (isl x s) < 1
  · rw [if_pos (nI_lt c (by decide)), if_neg (by omega)]
  · rw [if_neg (nI_nlt (by omega) (by omega))]
    by_cases d : 8 < sm n (isl x s)
    · rw [if_pos (nI_lt d (by omega)), if_neg (by omega)]
    · rw [if_neg (nI_nlt (by omega) (by decide)), if_pos (by omega)]
/-- the numbers of the class behind a new word W, out of sheet s of n bytes -/
def NWX (x x' : St) (W s n : Nat) (k o a b c : Int32) : Prop := (∀ q, q ≠ 8 → q < 11 ∨ 16 < q → q ≠ 18 + W → x' q = x q) ∧ x' 8 9 = nI (W + 1) ∧ x' 11 = upd (x 11) W (nI (sm n (isl x s))) ∧ x' 12 = upd (x 12) W k ∧ x' 13 = upd (x 13) W o ∧ x' 14 = upd (x 14) W a ∧ x' 15 = upd (x 15) W b ∧ x' 16 = upd (x 16) W c ∧ ∀ p, p < n → isl x s p = 1 → x' (18 + W) (sm p (isl x s)) = x (4 + s) p
def NWY (x y y' : St) (W s n : Nat) (k o a b c : Int32) : Prop := (∀ q, q ≠ 0 → q < 6 ∨ q = 9 ∨ 13 < q → y' q = y q) ∧ (∀ i, i ≠ 7 → y' 0 i = y 0 i) ∧ y' 0 7 = nI (W + 1) ∧ y' 7 = upd (y 7) W (nI (sm n (isl x s))) ∧ y' 6 = upd (y 6) W k ∧ y' 13 = upd (y 13) W o ∧ y' 10 = upd (y 10) W a ∧ y' 11 = upd (y 11) W b ∧ y' 12 = upd (y 12) W c ∧ (∀ i, i < 8 * W → y' 8 i = y 8 i) ∧ ∀ p, p < n → isl x s p = 1 → y' 8 (8 * W + sm p (isl x s)) = x (4 + s) p - 97
theorem upd_upd {f : Nat → Int32} {k : Nat} {a b : Int32} : upd (upd f k a) k b = upd f k b := by
  funext j
  unfold upd
  by_cases h : j = k
  · rw [if_pos h, if_pos h]
  · rw [if_neg h, if_neg h, if_neg h]
theorem p_settle {x x' : St} {W s n : Nat} {k o a b c : Int32} (hW : W < 16) (h : NWX x x' W s n k o a b c) (a' b' c' : Int32) : ∃ x2, f_X8_settle x' (nI W) a' b' c' = some ((), x2) ∧ NWX x x2 W s n k o a' b' c' := by
  unfold f_X8_settle
  simp only [ui_n hW (show 16 < 2 ^ 31 by decide), nI_clamp (show W < 2 ^ 31 by omega), ul_eq]
  obtain ⟨h1, h2, h3, h4, h5, h6, h7, h8, h9⟩ := h
  refine ⟨_, rfl, fun q q1 q2 q3 => ?_, h2, h3, h4, h5, ?_, ?_, ?_, fun p hp hi => ?_⟩
  · rw [us_n (by omega), us_n (by omega), us_n (by omega)]; exact h1 q q1 q2 q3
  · show upd (x' 14) W a' = _
    rw [h6, upd_upd]
  · show upd (x' 15) W b' = _
    rw [h7, upd_upd]
  · show upd (x' 16) W c' = _
    rw [h8, upd_upd]
  · rw [us_n (by omega), us_n (by omega), us_n (by omega)]; exact h9 p hp hi
theorem p_addX {x : St} {W s n : Nat} (hW : W < 16) (e8 : x 8 9 = nI W) (hs : s < 4) (hn : n ≤ 10) (hL : sm n (isl x s) ≤ 8) (hb : ∀ j, j < 10 → byt (x (4 + s) j)) (k o : Int32) : ∃ x', f_X8_add x s (nI n) k o = some (nI W, x') ∧ NWX x x' W s n k o (-9) (-9) (-9) := by
  unfold f_X8_add
  rw [ul_eq, e8]
  have key := loop_J (fun fuel j (σ : St) => f_X8_add_12 fuel σ s (nI n) k o (nI W) (nI (sm j (isl x s))) (nI j)) n
    (fun j σ => (∀ q, q ≠ 18 + W → σ q = x q) ∧ ∀ p, p < j → isl x s p = 1 → σ (18 + W) (sm p (isl x s)) = x (4 + s) p)
    (fun r => ∃ σ : St, r = f_X8_add_58 σ k o (nI W) (nI (sm n (isl x s))) ∧ (∀ q, q ≠ 18 + W → σ q = x q) ∧ ∀ p, p < n → isl x s p = 1 → σ (18 + W) (sm p (isl x s)) = x (4 + s) p)
    (by omega) x ⟨fun q _ => rfl, fun p hp => absurd hp (by omega)⟩ (fun fuel σ hI => ?_) (fun fuel j σ hj hI => ?_)
  · obtain ⟨σ, r1, r2, r3⟩ := key
    have r1' : f_X8_add_12 fu x s (nI n) k o (nI W) 0 0 = f_X8_add_58 σ k o (nI W) (nI (sm n (isl x s))) := r1
    rw [r1']
    unfold f_X8_add_58 f_X8_settle
    simp only [ui_n hW (show 16 < 2 ^ 31 by decide), nI_clamp (show W < 2 ^ 31 by omega), ul_eq, ub_some]
    refine ⟨_, rfl, fun q q1 q2 q3 => ?_, ?_, ?_, ?_, ?_, ?_, ?_, ?_, fun p hp hi => ?_⟩
    · rw [us_n (by omega), us_n (by omega), us_n (by omega), us_n (by omega), us_n (by omega), us_n (by omega), us_n (by omega)]; exact r2 q q3
    · show σ 8 9 + 1 = nI (W + 1)
      rw [r2 8 (by omega), e8, nI_1]
    · show upd (σ 11) W _ = _
      rw [r2 11 (by omega)]
    · show upd (σ 12) W _ = _
      rw [r2 12 (by omega)]
    · show upd (σ 13) W _ = _
      rw [r2 13 (by omega)]
    · show upd (σ 14) W _ = _
      rw [r2 14 (by omega)]
    · show upd (σ 15) W _ = _
      rw [r2 15 (by omega)]
    · show upd (σ 16) W _ = _
      rw [r2 16 (by omega)]
    · rw [us_n (by omega), us_n (by omega), us_n (by omega), us_n (by omega), us_n (by omega), us_n (by omega), us_n (by omega)]; exact r3 p hp hi
  · show ∃ σ' : St, f_X8_add_12 (fuel + 1) σ s (nI n) k o (nI W) (nI (sm n (isl x s))) (nI n) = _ ∧ _
    rw [f_X8_add_12, if_pos (nI_le (Nat.le_refl _) (by omega))]
    exact ⟨σ, rfl, hI.1, hI.2⟩
  · show (∃ σ' : St, f_X8_add_12 (fuel + 1) σ s (nI n) k o (nI W) (nI (sm j (isl x s))) (nI j) = _ ∧ _) ∨ ∃ σ', _ ∧ f_X8_add_12 (fuel + 1) σ s (nI n) k o (nI W) (nI (sm j (isl x s))) (nI j) = f_X8_add_12 fuel σ' s (nI n) k o (nI W) (nI (sm (j + 1) (isl x s))) (nI (j + 1))
    obtain ⟨i1, i2⟩ := hI
    have hjn : sm j (isl x s) ≤ sm n (isl x s) := sm_mono (by omega)
    rw [f_X8_add_12, if_neg (nI_ge hj (by omega)), show (8 : Int32) = nI 8 from by decide]
    by_cases g : 8 ≤ sm j (isl x s)
    · left
      rw [if_pos (nI_le g (by omega))]
      refine ⟨σ, by rw [show sm j (isl x s) = sm n (isl x s) by omega], i1, fun p hp hi => ?_⟩
      by_cases q : p < j
      · exact i2 p q hi
      · have h1 : sm j (isl x s) ≤ sm p (isl x s) := sm_mono (by omega)
        have h2 : sm (p + 1) (isl x s) ≤ sm n (isl x s) := sm_mono (by omega)
        rw [sm_s, hi] at h2
        omega
    · right
      have e4 : σ (4 + s) = x (4 + s) := i1 _ (by omega)
      rw [if_neg (nI_ge (by omega) (by decide)), ui_n (show j < 10 by omega) (by decide), nI_clamp (show j < 2 ^ 31 by omega), e4, p_isLetter, ub_some]
      simp only [bI_z, ul_eq, nI_1, ite_not]
      by_cases c : 97 ≤ (x (4 + s) j).toInt ∧ (x (4 + s) j).toInt ≤ 122
      · have i3 : isl x s j = 1 := if_pos c
        rw [if_pos c, ui_n hW (by decide), ui_n (show j < 10 by omega) (by decide), ui_n (show sm j (isl x s) < 8 by omega) (by decide), nI_clamp (show W < 2 ^ 31 by omega), nI_clamp (show sm j (isl x s) < 2 ^ 31 by omega), e4]
        have hv : vp_nar .byte (x (4 + s) j) = x (4 + s) j := by rw [vp_nar_byte]; exact hb j (by omega)
        rw [hv, sm_s, i3]
        refine ⟨_, ⟨fun q hq => by rw [us_n hq]; exact i1 q hq, fun p hp hi => ?_⟩, rfl⟩
        rw [us_e]
        unfold upd
        by_cases e : p = j
        · rw [e, if_pos rfl]
        · have h1 : sm (p + 1) (isl x s) ≤ sm j (isl x s) := sm_mono (by omega)
          rw [sm_s, hi] at h1
          rw [if_neg (by omega)]
          exact i2 p (by omega) hi
      · have i3 : isl x s j = 0 := if_neg c
        rw [if_neg c, sm_s, i3]
        refine ⟨σ, ⟨i1, fun p hp hi => ?_⟩, rfl⟩
        by_cases e : p = j
        · rw [e, i3] at hi; cases hi
        · exact i2 p (by omega) hi
theorem p_putB {x y : St} {s n : Nat} (hs : s < 4) (hn : n ≤ 10) (e : y 3 s = nI n) (hr : ∀ j, j < 10 → x (4 + s) j = y 4 (10 * s + j)) (hL : ¬ (1 ≤ sm n (isl x s) ∧ sm n (isl x s) ≤ 8)) (k a b c o : Int32) : f_X10_put y (nI s) k a b c o = some (-3, rfY y 5) := by
  have hle : sm n (isl x s) ≤ 10 := by have := sm_1 (n := n) (f := isl x s) (fun i _ => isl_1 x s i); omega
  unfold f_X10_put
  rw [p_lettersOn hs hn e hr, ub_some, p_in, ub_some]
  simp only [bI_z]
  rw [nI_toInt (by omega), show (1 : Int32).toInt = 1 from by decide, show (8 : Int32).toInt = 8 from by decide, if_pos (by omega), p_meets y (k := 5) (by decide) (by decide), ub_some]
theorem p_put {x y : St} {W s n : Nat} (hW : W < 16) (e7 : y 0 7 = nI W) (hs : s < 4) (hn : n ≤ 10) (e : y 3 s = nI n) (hr : ∀ j, j < 10 → x (4 + s) j = y 4 (10 * s + j)) (hL : 1 ≤ sm n (isl x s) ∧ sm n (isl x s) ≤ 8) (k a b c o : Int32) : ∃ y', f_X10_put y (nI s) k a b c o = some (nI W, y') ∧ NWY x y y' W s n k o a b c := by
  unfold f_X10_put
  rw [p_lettersOn hs hn e hr, ub_some, p_in, ub_some]
  simp only [bI_z, ite_not]
  rw [nI_toInt (by omega), show (1 : Int32).toInt = 1 from by decide, show (8 : Int32).toInt = 8 from by decide, if_pos (by omega)]
  have key := loop_J (fun fuel j (σ : St) => f_X10_put_26 fuel σ (nI s) k a b c o (nI (sm j (isl x s))) (nI j)) n
    (fun j σ => (∀ q, q ≠ 8 → σ q = y q) ∧ (∀ i, i < 8 * W → σ 8 i = y 8 i) ∧ ∀ p, p < j → isl x s p = 1 → σ 8 (8 * W + sm p (isl x s)) = x (4 + s) p - 97)
    (fun r => ∃ y', r = some (nI W, y') ∧ NWY x y y' W s n k o a b c)
    (by omega) y ⟨fun q _ => rfl, fun _ _ => rfl, fun p hp => absurd hp (by omega)⟩ (fun fuel σ hI => ?_) (fun fuel j σ hj hI => ?_)
  · exact key
  · show ∃ y', f_X10_put_26 (fuel + 1) σ (nI s) k a b c o (nI (sm n (isl x s))) (nI n) = some (nI W, y') ∧ _
    obtain ⟨i1, i2, i3⟩ := hI
    have h7 : σ 0 7 = nI W := by rw [i1 0 (by omega), e7]
    rw [f_X10_put_26, ui_n hs (by decide), nI_clamp (show s < 2 ^ 31 by omega), i1 3 (by omega), e, if_pos (nI_le (Nat.le_refl _) (by omega))]
    simp only [ul_eq, us_d (k := 6) (q := 0) rfl, us_d (k := 7) (q := 0) rfl, us_d (k := 10) (q := 0) rfl, us_d (k := 11) (q := 0) rfl, us_d (k := 12) (q := 0) rfl, us_d (k := 13) (q := 0) rfl, h7, ui_n hW (show 16 < 2 ^ 31 by decide), nI_clamp (show W < 2 ^ 31 by omega), us_at, nI_1, nI_pred]
    refine ⟨_, rfl, fun q q1 q2 => ?_, fun i hi => ?_, ?_, ?_, ?_, ?_, ?_, ?_, ?_, fun i hi => ?_, fun p hp hi => ?_⟩
    · rw [us_n (by omega), us_n (by omega), us_n (by omega), us_n (by omega), us_n (by omega), us_n (by omega), us_n (by omega)]; exact i1 q (by omega)
    · show upd (σ 0) 7 _ i = _
      unfold upd
      rw [if_neg hi, i1 0 (by omega)]
    · exact us_at
    · show upd (σ 7) W _ = _
      rw [i1 7 (by omega)]
    · show upd (σ 6) W _ = _
      rw [i1 6 (by omega)]
    · show upd (σ 13) W _ = _
      rw [i1 13 (by omega)]
    · show upd (σ 10) W _ = _
      rw [i1 10 (by omega)]
    · show upd (σ 11) W _ = _
      rw [i1 11 (by omega)]
    · show upd (σ 12) W _ = _
      rw [i1 12 (by omega)]
    · show σ 8 i = _
      exact i2 i hi
    · show σ 8 _ = _
      exact i3 p hp hi
  · show (∃ y', f_X10_put_26 (fuel + 1) σ (nI s) k a b c o (nI (sm j (isl x s))) (nI j) = some (nI W, y') ∧ _) ∨ ∃ σ', _ ∧ f_X10_put_26 (fuel + 1) σ (nI s) k a b c o (nI (sm j (isl x s))) (nI j) = f_X10_put_26 fuel σ' (nI s) k a b c o (nI (sm (j + 1) (isl x s))) (nI (j + 1))
    obtain ⟨i1, i2, i3⟩ := hI
    right
    have h7 : σ 0 7 = nI W := by rw [i1 0 (by omega), e7]
    rw [f_X10_put_26, ui_n hs (by decide), nI_clamp (show s < 2 ^ 31 by omega), i1 3 (by omega), e, if_neg (nI_ge hj (by omega)), e10, ui_n (show 10 * s + j < 40 by omega) (by decide), nI_clamp (show 10 * s + j < 2 ^ 31 by omega), ul_eq, i1 4 (by omega), ← hr j (by omega), p_mLetter, ub_some]
    simp only [bI_z, ul_eq, nI_1, ite_not]
    by_cases q : 97 ≤ (x (4 + s) j).toInt ∧ (x (4 + s) j).toInt ≤ 122
    · have i4 : isl x s j = 1 := if_pos q
      have h1 : sm (j + 1) (isl x s) ≤ sm n (isl x s) := sm_mono (by omega)
      have h2 := h1
      rw [sm_s, i4] at h2
      have e8 : (8 : Int32) * σ 0 7 + nI (sm j (isl x s)) = nI (8 * W + sm j (isl x s)) := by rw [h7, show (8 : Int32) = nI 8 from by decide, pk_mul, nI_add]
      rw [if_pos q, e8, ui_n (by omega) (by decide), nI_clamp (show 8 * W + sm j (isl x s) < 2 ^ 31 by omega), sm_s, i4]
      refine ⟨_, ⟨fun q hq => by rw [us_n hq]; exact i1 q hq, fun i hi => ?_, fun p hp hi => ?_⟩, rfl⟩
      · rw [us_e]
        unfold upd
        rw [if_neg (by omega)]; exact i2 i hi
      · rw [us_e]
        unfold upd
        by_cases e : p = j
        · rw [e, if_pos rfl]
        · have h3 : sm (p + 1) (isl x s) ≤ sm j (isl x s) := sm_mono (by omega)
          rw [sm_s, hi] at h3
          rw [if_neg (by omega)]
          exact i3 p (by omega) hi
    · have i4 : isl x s j = 0 := if_neg q
      rw [if_neg q, sm_s, i4]
      refine ⟨σ, ⟨i1, i2, fun p hp hi => ?_⟩, rfl⟩
      by_cases e : p = j
      · rw [e, i4] at hi; cases hi
      · exact i3 p (by omega) hi
def yr3 (a b c : Int32) : Prop := (1 ≤ a.toInt ∧ a.toInt ≤ 200) ∧ 1700 ≤ b.toInt ∧ b.toInt ≤ c.toInt ∧ c.toInt ≤ 2100
theorem new_rel {x x' y y' : St} {W s n : Nat} {k o a b c : Int32} (h : Rel x y) (hW : W < 16) (hD0 : RD W x y) (hL : 1 ≤ sm n (isl x s) ∧ sm n (isl x s) ≤ 8) (hX : NWX x x' W s n k o a b c) (hY : NWY x y y' W s n k o a b c) (hk : (k = 0 ∧ o = -9) ∨ (k = 1 ∧ o = -9 ∧ yr3 a b c) ∨ ((k = 2 ∨ k = 3) ∧ yr3 a b c ∧ ∃ v, v < W ∧ o = nI v ∧ (x 12 v = 1 ∨ x 12 v = 2))) : Rel x' y' := by
  obtain ⟨hA, hB, hC, hE, hG, hH, hJ, W', hD, hF, hI⟩ := h
  have eW : W' = W := (nI_eq (by have := hD.1; omega) (by omega)).mp (hD.2.1.symm.trans hD0.2.1)
  subst eW
  obtain ⟨x1, x8, x11, x12, x13, x14, x15, x16, x18⟩ := hX
  obtain ⟨y1, y0, y7, y77, y6, y13, y10, y11, y12, y8, y88⟩ := hY
  have hx : ∀ q, q ≠ 8 → q < 11 ∨ 16 < q → q < 18 ∨ 33 < q → x' q = x q := fun q q1 q2 q3 => x1 q q1 q2 (by omega)
  have hy : ∀ q, q ≠ 0 → q < 6 ∨ q = 9 ∨ 13 < q → y' q = y q := y1
  have un : ∀ (f : Nat → Int32) (v : Int32) (w : Nat), w < W' → upd f W' v w = f w := fun f v w hw => by unfold upd; rw [if_neg (by omega)]
  have ue : ∀ (f : Nat → Int32) (v : Int32), upd f W' v W' = v := fun f v => by unfold upd; rw [if_pos rfl]
  refine ⟨RA_of (by rw [hx 0 (by omega) (by omega) (by omega)]) (by rw [hx 0 (by omega) (by omega) (by omega)]) (hx _ (by omega) (by omega) (by omega)) (y0 0 (by omega)) (y0 2 (by omega)) (hy _ (by omega) (by omega)) hA, RB_of (hx _ (by omega) (by omega) (by omega)) (hy _ (by omega) (by omega)) hB, RC_of (hx _ (by omega) (by omega) (by omega)) (fun s hs => hx _ (by omega) (by omega) (by omega)) (hy _ (by omega) (by omega)) (hy _ (by omega) (by omega)) hC, RE_of (fun l u hl hu => hx _ (by omega) (by omega) (by omega)) (hy _ (by omega) (by omega)) hE, RG_of (hx _ (by omega) (by omega) (by omega)) (hx _ (by omega) (by omega) (by omega)) (hx _ (by omega) (by omega) (by omega)) (hx _ (by omega) (by omega) (by omega)) (y0 26 (by omega)) (y0 30 (by omega)) (y0 31 (by omega)) (hy _ (by omega) (by omega)) (hy _ (by omega) (by omega)) (hy _ (by omega) (by omega)) hG, RH_of (hx _ (by omega) (by omega) (by omega)) (hx _ (by omega) (by omega) (by omega)) (hx _ (by omega) (by omega) (by omega)) (hx _ (by omega) (by omega) (by omega)) (hx _ (by omega) (by omega) (by omega)) (y0 32 (by omega)) (hy _ (by omega) (by omega)) (hy _ (by omega) (by omega)) (hy _ (by omega) (by omega)) (hy _ (by omega) (by omega)) hH, RJ_of (hx _ (by omega) (by omega) (by omega)) (hx _ (by omega) (by omega) (by omega)) (hx _ (by omega) (by omega) (by omega)) (y0 40 (by omega)) (hy _ (by omega) (by omega)) (hy _ (by omega) (by omega)) (hy _ (by omega) (by omega)) hJ, W' + 1, ?_, ?_, ?_⟩
  · obtain ⟨d1, d2, d3, d4, d5, d6⟩ := hD
    refine ⟨by omega, x8, y7, fun w hw => ?_, fun w hw => by rw [hx 17 (by omega) (by omega) (by omega), hy 9 (by omega) (by omega)]; exact d5 w hw, fun w h1 h2 => by rw [hx 17 (by omega) (by omega) (by omega)]; exact d6 w (by omega) h2⟩
    by_cases e : w = W'
    · subst e
      refine ⟨⟨sm n (isl x s), hL.1, hL.2, by rw [x11, ue], by rw [y77, ue], fun i hi => ?_⟩, by rw [x12, y6, ue, ue], by rw [x13, y13, ue, ue], by rw [x14, y10, ue, ue], by rw [x15, y11, ue, ue], by rw [x16, y12, ue, ue], ?_⟩
      · obtain ⟨p, p1, p2, p3⟩ := sm_hit (fun p _ => isl_1 x s p) hi
        have q1 := x18 p p1 p2
        have q2 := y88 p p1 p2
        have hc : 97 ≤ (x (4 + s) p).toInt ∧ (x (4 + s) p).toInt ≤ 122 := by
          unfold isl at p2
          by_cases g : 97 ≤ (x (4 + s) p).toInt ∧ (x (4 + s) p).toInt ≤ 122
          · exact g
          · rw [if_neg g] at p2; cases p2
        obtain ⟨t, ht, et⟩ := n_of (N := 123) (v := x (4 + s) p) (by omega) (by decide)
        rw [et, nI_toInt (by omega)] at hc
        rw [p3, et] at q1 q2
        have et' : t = 97 + (t - 97) := by omega
        refine ⟨t - 97, by omega, ?_, ?_⟩
        · rw [q2, show (97 : Int32) = nI 97 from by decide, pk_sub (by omega)]
        · rw [q1, ← et']
      · unfold kindOK yrs
        rw [x12, x13, x14, x15, x16]
        simp only [ue]
        rcases hk with ⟨r1, r2⟩ | ⟨r1, r2, r3⟩ | ⟨r1, r2, v, r3, r4, r5⟩
        · exact Or.inl ⟨r1, r2⟩
        · exact Or.inr (Or.inl ⟨r1, r2, r3⟩)
        · exact Or.inr (Or.inr ⟨r1, r2, v, r3, r4, by rw [un _ _ _ r3]; exact r5⟩)
    · have hw' : w < W' := by omega
      obtain ⟨⟨n', n1, n8, f1, f2, hl⟩, g1, g2, g3, g4, g5, kk⟩ := d4 w hw'
      refine ⟨⟨n', n1, n8, by rw [x11, un _ _ _ hw']; exact f1, by rw [y77, un _ _ _ hw']; exact f2, fun i hi => ?_⟩, by rw [x12, y6, un _ _ _ hw', un _ _ _ hw']; exact g1, by rw [x13, y13, un _ _ _ hw', un _ _ _ hw']; exact g2, by rw [x14, y10, un _ _ _ hw', un _ _ _ hw']; exact g3, by rw [x15, y11, un _ _ _ hw', un _ _ _ hw']; exact g4, by rw [x16, y12, un _ _ _ hw', un _ _ _ hw']; exact g5, ?_⟩
      · obtain ⟨t, t1, t2, t3⟩ := hl i hi
        exact ⟨t, t1, by rw [y8 _ (by omega)]; exact t2, by rw [x1 (18 + w) (by omega) (by omega) (by omega)]; exact t3⟩
      · unfold kindOK yrs
        rw [x12, x13, x14, x15, x16]
        simp only [un _ _ _ hw']
        rcases kk with r | r | ⟨r1, r2, v, r3, r4, r5⟩
        · exact Or.inl r
        · exact Or.inr (Or.inl r)
        · exact Or.inr (Or.inr ⟨r1, r2, v, r3, r4, by rw [un _ _ _ (show v < W' by omega)]; exact r5⟩)
  · intro l hl
    obtain ⟨n', h3, f1, f2, hr, hu⟩ := hF l hl
    rw [hx (35 + 9 * l) (by omega) (by omega) (by omega), hx (35 + 9 * l + 6) (by omega) (by omega) (by omega), hx (35 + 9 * l + 7) (by omega) (by omega) (by omega), hx (35 + 9 * l + 8) (by omega) (by omega) (by omega), hy 16 (by omega) (by omega), hy 17 (by omega) (by omega), hy 18 (by omega) (by omega), hy 19 (by omega) (by omega)]
    refine ⟨n', h3, f1, f2, fun i hi => ?_, hu⟩
    obtain ⟨g1, g2, g3, ⟨w, g4, g5, n9, t, g6, g7, g8⟩, g9⟩ := hr i hi
    exact ⟨g1, g2, g3, ⟨w, by omega, g5, n9, t, by rw [x11, un _ _ _ g4]; exact g6, g7, g8⟩, g9⟩
  · obtain ⟨n', h3, f1, f2, hr⟩ := hI
    refine ⟨n', h3, by rw [hx 80 (by omega) (by omega) (by omega)]; exact f1, by rw [y0 37 (by omega)]; exact f2, fun i hi => ?_⟩
    rw [hx 81 (by omega) (by omega) (by omega), hx 82 (by omega) (by omega) (by omega), hy 29 (by omega) (by omega), hy 30 (by omega) (by omega)]
    obtain ⟨g1, g2, w, g3, g4⟩ := hr i hi
    exact ⟨g1, g2, w, by omega, g4⟩
theorem p_wFull {x : St} {n : Nat} (hn : x 8 9 = nI n) (h : n ≤ 16) : f_X8_isFull x = some (bI (16 ≤ n), x) := by
  unfold f_X8_isFull
  rw [hn]
  exact bI_full (by decide) (by omega) (by decide)
theorem op_word {x y : St} (h : Rel x y) (a1 : Int32) : ∃ (r : Int32) (x' y' : St), f_X9_word x a1 = some (r, x') ∧ f_X10_word y a1 = some (r, y') ∧ Rel x' y' := by
  obtain ⟨W, hD, -⟩ := h.2.2.2.2.2.2.2
  obtain ⟨hW, w1, w2, -⟩ := id hD
  unfold f_X9_word f_X10_word
  simp only [p_sheetNo, p_mSheet, p_wFull w1 hW, ub_some, bI_z, ite_not]
  by_cases h1 : 0 ≤ a1.toInt ∧ a1.toInt ≤ 3
  · rw [if_pos h1, if_pos h1, w2]
    obtain ⟨s, hs, rfl⟩ := n_of (N := 4) (v := a1) (by omega) (by decide)
    by_cases hf : W = 16
    · rw [if_pos (show 16 ≤ W by omega), if_pos (by rw [hf]; decide)]; exact ⟨_, _, _, rfl, rfl, h⟩
    · have hlt : W < 16 := by omega
      have uj : ∀ {α : Type} {k : Option α}, ui (nI s) 4 k = k := ui_n hs (by decide)
      have cj : (nI s).toNatClampNeg = s := nI_clamp (by omega)
      obtain ⟨hC1, hC2⟩ := h.2.2.1 s hs
      rw [if_neg (show ¬ 16 ≤ W by omega), if_neg (nI_nq (k := 16) (by decide) hf (by omega) (by decide)), p_there hs, ub_some, uj, cj]
      simp only [bI_z, Decidable.not_not, uj, cj]
      rcases hC1 with ⟨e1, e2⟩ | ⟨n, hn, e1, e2⟩
      · rw [if_pos e1, e2, if_neg (show ¬ (0 : Int32) ≤ -9 by decide), p_refuse x (k := 1) (by decide) (by decide), p_meets y (k := 1) (by decide) (by decide), ub_some, ub_some]
        exact ⟨_, _, _, rfl, rfl, rel_rf (by decide) h⟩
      · rw [if_neg (show ¬ x 3 s = -1 by rw [e1]; exact nI_m1 (by omega)), if_pos (by rw [e2]; exact nI_pos' (by omega)), p_makes hs hn e1, ub_some]
        simp only [bI_z, ite_not]
        by_cases hL : 1 ≤ sm n (isl x s) ∧ sm n (isl x s) ≤ 8
        · obtain ⟨x', f1, f2⟩ := p_addX hlt w1 hs hn hL.2 (fun j hj => (hC2 j hj).2) 0 (-9)
          obtain ⟨y', g1, g2⟩ := p_put hlt w2 hs hn e2 (fun j hj => (hC2 j hj).1) hL 0 (-9) (-9) (-9) (-9)
          rw [if_pos hL, e1, f1, g1, ub_some, ub_some]
          exact ⟨_, _, _, rfl, rfl, new_rel h hlt hD hL f2 g2 (Or.inl ⟨rfl, rfl⟩)⟩
        · rw [if_neg hL, p_putB hs hn e2 (fun j hj => (hC2 j hj).1) hL, p_refuse x (k := 5) (by decide) (by decide), ub_some, ub_some]
          exact ⟨_, _, _, rfl, rfl, rel_rf (by decide) h⟩
  · rw [if_neg h1, if_neg h1]; exact ⟨_, _, _, rfl, rfl, h⟩
theorem p_isFirmM {x y : St} {w : Nat} (hw : w < 16) (k1 : x 12 w = y 6 w) : f_X10_isFirm y (nI w) = some (bI (x 12 w = 1 ∨ ((1 : Int32) = 1 ∧ x 12 w = 2)), y) := by
  unfold f_X10_isFirm bI
  simp only [ui_n hw (show 16 < 2 ^ 31 by decide), nI_clamp (show w < 2 ^ 31 by omega), ← k1]
  by_cases c : x 12 w = 1
  · simp [c]
  · by_cases d : x 12 w = 2
    · simp [d]
    · simp [c, d]
theorem op_slogan {x y : St} (h : Rel x y) (a1 a2 : Int32) : ∃ (r : Int32) (x' y' : St), f_X9_slogan x a1 a2 = some (r, x') ∧ f_X10_slogan y a1 a2 = some (r, y') ∧ Rel x' y' := by
  obtain ⟨W, hD, -⟩ := h.2.2.2.2.2.2.2
  obtain ⟨hW, w1, w2, hwd, hst, -⟩ := id hD
  unfold f_X9_slogan f_X10_slogan
  simp only [p_sheetNo, p_mSheet, p_wordNo w1 hW, p_mWord w2 hW, p_wFull w1 hW, ub_some, bI_z, ite_not]
  by_cases h1 : 0 ≤ a1.toInt ∧ a1.toInt ≤ 3
  · rw [if_pos h1, if_pos h1]
    by_cases h2 : 0 ≤ a2.toInt ∧ a2.toInt ≤ (W : Int) - 1
    · rw [if_pos h2, if_pos h2, w2]
      obtain ⟨s, hs, rfl⟩ := n_of (N := 4) (v := a1) (by omega) (by decide)
      obtain ⟨w, hw, rfl⟩ := n_of (N := W) (v := a2) (by omega) (by omega)
      have h16 : w < 16 := by omega
      by_cases hf : W = 16
      · rw [if_pos (show 16 ≤ W by omega), if_pos (by rw [hf]; decide)]; exact ⟨_, _, _, rfl, rfl, h⟩
      · have hlt : W < 16 := by omega
        have uj : ∀ {α : Type} {k : Option α}, ui (nI s) 4 k = k := ui_n hs (by decide)
        have cj : (nI s).toNatClampNeg = s := nI_clamp (by omega)
        have uw : ∀ {α : Type} {k : Option α}, ui (nI w) 16 k = k := ui_n h16 (by decide)
        have cw : (nI w).toNatClampNeg = w := nI_clamp (by omega)
        obtain ⟨hC1, hC2⟩ := h.2.2.1 s hs
        obtain ⟨-, k1, k2, k3, k4, k5, kk⟩ := hwd w hw
        rw [if_neg (show ¬ 16 ≤ W by omega), if_neg (nI_nq (k := 16) (by decide) hf (by omega) (by decide)), p_there hs, ub_some]
        simp only [bI_z, Decidable.not_not, uj, cj, uw, cw, ← (hst w h16).1]
        rcases hC1 with ⟨e1, e2⟩ | ⟨n, hn, e1, e2⟩
        · rw [if_pos e1, e2, if_pos (show (-9 : Int32) < 0 by decide), p_refuse x (k := 1) (by decide) (by decide), p_meets y (k := 1) (by decide) (by decide), ub_some, ub_some]
          exact ⟨_, _, _, rfl, rfl, rel_rf (by decide) h⟩
        · rw [if_neg (show ¬ x 3 s = -1 by rw [e1]; exact nI_m1 (by omega)), if_neg (show ¬ y 3 s < 0 by rw [e2]; exact nI_pos (by omega))]
          by_cases hz : x 17 w = 0
          · rw [if_pos hz, if_pos hz, p_isOf h16, p_isFirmM h16 k1, ub_some, ub_some]
            simp only [bI_z, ite_not]
            by_cases hq : x 12 w = 1 ∨ (True ∧ x 12 w = 2)
            · rw [if_pos hq, if_pos hq, p_makes hs hn e1, ub_some]
              simp only [bI_z, ite_not]
              by_cases hL : 1 ≤ sm n (isl x s) ∧ sm n (isl x s) ≤ 8
              · obtain ⟨x', f1, f2⟩ := p_addX hlt w1 hs hn hL.2 (fun j hj => (hC2 j hj).2) 3 (nI w)
                have un : ∀ (f : Nat → Int32) (v : Int32), upd f W v w = f w := fun f v => by unfold upd; rw [if_neg (by omega)]
                have z14 : x' 14 w = x 14 w := by rw [f2.2.2.2.2.2.1, un]
                have z15 : x' 15 w = x 15 w := by rw [f2.2.2.2.2.2.2.1, un]
                have z16 : x' 16 w = x 16 w := by rw [f2.2.2.2.2.2.2.2.1, un]
                obtain ⟨x2, f3, f4⟩ := p_settle hlt f2 (x 14 w) (x 15 w) (x 16 w)
                obtain ⟨y', g1, g2⟩ := p_put hlt w2 hs hn e2 (fun j hj => (hC2 j hj).1) hL 3 (x 14 w) (x 15 w) (x 16 w) (nI w)
                rw [if_pos hL, e1, f1, ub_some, z14, z15, z16, f3, ub_some, ← k3, ← k4, ← k5, g1, ub_some]
                refine ⟨_, _, _, rfl, rfl, new_rel h hlt hD hL f4 g2 (Or.inr (Or.inr ⟨Or.inr rfl, ?_, w, hw, rfl, hq.imp id (fun q => q.2)⟩))⟩
                have := kind_yrs kk
                rcases this with e | e
                · rcases hq with q | q
                  · rw [e] at q; exact absurd q (by decide)
                  · rw [e] at q; exact absurd q.2 (by decide)
                · exact e
              · rw [if_neg hL, p_putB hs hn e2 (fun j hj => (hC2 j hj).1) hL, p_refuse x (k := 5) (by decide) (by decide), ub_some, ub_some]
                exact ⟨_, _, _, rfl, rfl, rel_rf (by decide) h⟩
            · rw [if_neg hq, if_neg hq, p_refuse x (k := 3) (by decide) (by decide), p_meets y (k := 3) (by decide) (by decide), ub_some, ub_some]
              exact ⟨_, _, _, rfl, rfl, rel_rf (by decide) h⟩
          · rw [if_neg hz, if_neg hz, p_refuse x (k := 1) (by decide) (by decide), p_meets y (k := 1) (by decide) (by decide), ub_some, ub_some]
            exact ⟨_, _, _, rfl, rfl, rel_rf (by decide) h⟩
    · rw [if_neg h2, if_neg h2]; exact ⟨_, _, _, rfl, rfl, h⟩
  · rw [if_neg h1, if_neg h1]; exact ⟨_, _, _, rfl, rfl, h⟩
