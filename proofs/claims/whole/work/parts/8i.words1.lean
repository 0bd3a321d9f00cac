/-! ===== told, mark, mean, strike ===== -/
def anyN : Nat → (Nat → Bool) → Bool
  | 0, _ => false
  | n + 1, f => anyN n f || f n
theorem anyN_s {n : Nat} {f : Nat → Bool} : anyN (n + 1) f = (anyN n f || f n) := rfl
theorem anyN_iff {n : Nat} {f : Nat → Bool} : anyN n f = true ↔ ∃ i, i < n ∧ f i = true := by
  induction n with
  | zero => constructor
            · intro h; cases h
            · rintro ⟨i, hi, -⟩; omega
  | succ n ih =>
    rw [anyN_s, Bool.or_eq_true, ih]
    constructor
    · rintro (⟨i, hi, h⟩ | h)
      · exact ⟨i, by omega, h⟩
      · exact ⟨n, by omega, h⟩
    · rintro ⟨i, hi, h⟩
      by_cases e : i = n
      · right; rw [← e]; exact h
      · left; exact ⟨i, by omega, h⟩
theorem anyN_congr {n : Nat} {f g : Nat → Bool} (h : ∀ i, i < n → f i = g i) : anyN n f = anyN n g := by
  induction n with
  | zero => rfl
  | succ n ih => rw [anyN_s, anyN_s, ih (fun i hi => h i (by omega)), h n (by omega)]
def iB (b : Bool) : Int32 := if b = true then 1 else 0
theorem iB_z {b : Bool} : iB b = 0 ↔ b = false := by cases b <;> decide
theorem sm_1 {n : Nat} {f : Nat → Nat} (h : ∀ i, i < n → f i ≤ 1) : sm n f ≤ n := by
  have := sm_le h; omega
def SZ (x : St) (w : Nat) : Nat := sm 8 (fun t => pc (ce x w 0 t))
theorem p_size {x y : St} {w : Nat} (hB : RB x y) (hw : w < 16) (hk : wordOK x y w) : f_X8_sizeInCells x (nI w) = some (nI (SZ x w), x) := by
  unfold f_X8_sizeInCells
  have := loop_fu (fun fuel j => f_X8_sizeInCells_4 fuel x (nI w) (nI (sm j (fun t => pc (ce x w 0 t)))) (nI j)) 8 (some (nI (SZ x w), x)) (by decide) (fun fuel => ?_) (fun fuel j hj => ?_)
  · exact this
  · show f_X8_sizeInCells_4 (fuel + 1) _ _ _ _ = _
    rw [f_X8_sizeInCells_4, if_pos (by decide)]
    rfl
  · right
    show f_X8_sizeInCells_4 (fuel + 1) _ _ _ _ = f_X8_sizeInCells_4 fuel _ _ _ _
    have h8 : ¬ (8 : Int32) ≤ nI j := by rw [show (8 : Int32) = nI 8 from by decide]; exact nI_ge hj (by decide)
    have pj := p_cellsIn (x := x) (y := y) (w := w) (s := 0) (t := j) hw hk (by omega) (by omega)
    rw [nI_0] at pj
    rw [f_X8_sizeInCells_4, if_neg h8, pj, ub_some, p_bc (m15_ce hB hk), ub_some, ul_eq, ul_eq, nI_1, nI_add, sm_s]
theorem pc_0 : pc 0 = 0 := sm_zero (fun i _ => by rw [b_0]; rfl)
theorem SZ_n {x y : St} {w n : Nat} (hn : ln x w = n) (n8 : n ≤ 8) : SZ x w = sm n (fun t => pc (ce x w 0 t)) := by
  unfold SZ
  have : 8 = n + (8 - n) := by omega
  rw [this, sm_split, sm_zero (f := fun i => pc (ce x w 0 (n + i))) (fun i _ => by unfold ce; rw [hn, if_neg (by omega), pc_0])]
  simp
def FT (x : St) (w : Nat) (v : Int32) : Int32 := if v = 0 then x 12 w else if v = 1 then x 11 w else if v = 2 then nI (SZ x w) else if v = 3 then x 15 w else if v = 4 then x 16 w else x 14 w
theorem p_factW {x y : St} {w : Nat} (hB : RB x y) (hw : w < 16) (hk : wordOK x y w) (v : Int32) : f_X8_factOf x (nI w) v = some (FT x w v, x) := by
  unfold f_X8_factOf FT
  simp only [ui_n hw (show 16 < 2 ^ 31 by decide), nI_clamp (show w < 2 ^ 31 by omega), p_size hB hw hk, ub_some]
  by_cases c0 : v = 0
  · simp only [if_pos c0]
  · simp only [if_neg c0]
    by_cases c1 : v = 1
    · simp only [if_pos c1]
    · simp only [if_neg c1]
      by_cases c2 : v = 2
      · simp only [if_pos c2]
      · simp only [if_neg c2]
        by_cases c3 : v = 3
        · simp only [if_pos c3]
        · simp only [if_neg c3]
          by_cases c4 : v = 4
          · simp only [if_pos c4]
          · simp only [if_neg c4]
theorem p_tells {x y : St} {w : Nat} (hB : RB x y) (hw : w < 16) (hk : wordOK x y w) (v : Int32) : f_X10_tells y (nI w) v = some (FT x w v, y) := by
  obtain ⟨⟨n, n1, n8, e1, e2, hl⟩, k1, k2, k3, k4, k5, -⟩ := hk
  have hln : ln x w = n := by unfold ln; rw [e1, nI_clamp (by omega)]
  unfold f_X10_tells
  have := loop_fu (fun fuel j => f_X10_tells_5 fuel y (nI w) v (nI (sm j (fun t => pc (ce x w 0 t)))) (nI j)) n (some (FT x w v, y)) (by omega) (fun fuel => ?_) (fun fuel j hj => ?_)
  · exact this
  · show f_X10_tells_5 (fuel + 1) _ _ _ _ _ = _
    rw [f_X10_tells_5, ui_n hw (by decide), nI_clamp (show w < 2 ^ 31 by omega), e2, if_pos (nI_le (Nat.le_refl _) (by omega))]
    unfold FT
    simp only [ui_n hw (show 16 < 2 ^ 31 by decide), ← k1, ← k3, ← k4, ← k5, e1, SZ_n (y := y) hln n8]
    by_cases c0 : v = 0
    · simp only [if_pos c0]
    · simp only [if_neg c0]
      by_cases c1 : v = 1
      · simp only [if_pos c1]
      · simp only [if_neg c1]
        by_cases c2 : v = 2
        · simp only [if_pos c2]
        · simp only [if_neg c2]
          by_cases c3 : v = 3
          · simp only [if_pos c3]
          · simp only [if_neg c3]
            by_cases c4 : v = 4
            · simp only [if_pos c4]
            · simp only [if_neg c4]
  · right
    show f_X10_tells_5 (fuel + 1) _ _ _ _ _ = f_X10_tells_5 fuel _ _ _ _ _
    obtain ⟨c, hc, e4, e3⟩ := hl j hj
    have e8 : (8 : Int32) * nI w + nI j = nI (8 * w + j) := by rw [show (8 : Int32) = nI 8 from by decide, pk_mul, nI_add]
    have ec : ce x w 0 j = y 2 c := by
      unfold ce
      rw [hln, if_pos (by omega), Nat.sub_zero, e3, nI_clamp (show 97 + c < 2 ^ 31 by omega), show 97 + c - 97 = c by omega, (hB c hc).1]
    rw [f_X10_tells_5, ui_n hw (by decide), nI_clamp (show w < 2 ^ 31 by omega), e2, if_neg (nI_ge hj (by omega)), e8, ui_n (show 8 * w + j < 128 by omega) (by decide), nI_clamp (show 8 * w + j < 2 ^ 31 by omega), e4, ui_n hc (by decide), nI_clamp (show c < 2 ^ 31 by omega), p_bits, ub_some, ul_eq, ul_eq, nI_1, nI_add, sm_s, ec]
theorem op_told {x y : St} (h : Rel x y) (a1 a2 : Int32) : ∃ (r : Int32) (x' y' : St), f_X9_told x a1 a2 = some (r, x') ∧ f_X10_told y a1 a2 = some (r, y') ∧ Rel x' y' := by
  obtain ⟨W, ⟨hW, w1, w2, hwd, hst, -⟩, -⟩ := h.2.2.2.2.2.2.2
  unfold f_X9_told f_X10_told
  simp only [p_wordNo w1 hW, p_in, ub_some, bI_z, ite_not, i_lt, i_le]
  rw [show (0 : Int32).toInt = 0 from by decide, show (5 : Int32).toInt = 5 from by decide]
  by_cases h2 : 0 ≤ a2.toInt ∧ a2.toInt ≤ 5
  · rw [if_pos h2, if_neg (show ¬ a2.toInt < 0 by omega), if_pos h2.2]
    by_cases h1 : 0 ≤ a1.toInt ∧ a1.toInt ≤ (W : Int) - 1
    · rw [if_pos h1]
      obtain ⟨w, hw, rfl⟩ := n_of (N := W) (v := a1) (by omega) (by omega)
      have h16 : w < 16 := by omega
      have hk := hwd w hw
      rw [p_asked w2 hW hw, ui_n h16 (by decide), nI_clamp (by omega), ← (hst w h16).1]
      by_cases hs : x 17 w = 0
      · rw [if_pos hs, if_pos hs, ub_some, if_pos (by decide), p_factW h.2.1 h16 hk, p_tells h.2.1 h16 hk, ub_some, ub_some]
        exact ⟨_, _, _, rfl, rfl, h⟩
      · rw [if_neg hs, if_neg hs, p_refuse x (k := 1) (by decide) (by decide), ub_some, ub_some, if_neg (by decide)]
        exact ⟨_, _, _, rfl, rfl, rel_rf (by decide) h⟩
    · rw [if_neg h1, p_askedB w2 hW h1, ub_some, if_neg (by decide)]; exact ⟨_, _, _, rfl, rfl, h⟩
  · rw [if_neg h2]
    by_cases h1 : 0 ≤ a1.toInt ∧ a1.toInt ≤ (W : Int) - 1
    · rw [if_pos h1]
      by_cases g : a2.toInt < 0
      · rw [if_pos g]; exact ⟨_, _, _, rfl, rfl, h⟩
      · rw [if_neg g, if_neg (show ¬ a2.toInt ≤ 5 by omega)]; exact ⟨_, _, _, rfl, rfl, h⟩
    · rw [if_neg h1]; exact ⟨_, _, _, rfl, rfl, h⟩
-- the words that are there
def th (x : St) (w : Nat) : Nat := if x 17 w = 0 then 1 else 0
def tl (x : St) (w : Nat) : Nat := if x 17 w = 0 then ln x w else 0
theorem p_sizeThere {x y : St} {W : Nat} (hD : RD W x y) : f_X8_sizeThere x = some (nI (sm W (th x)), x) := by
  obtain ⟨hW, w1, w2, hwd, hst, -⟩ := hD
  unfold f_X8_sizeThere
  have := loop_fu (fun fuel j => f_X8_sizeThere_4 fuel x (nI (sm j (th x))) (nI j)) W (some (nI (sm W (th x)), x)) (by omega) (fun fuel => ?_) (fun fuel j hj => ?_)
  · exact this
  · show f_X8_sizeThere_4 (fuel + 1) _ _ _ = _
    rw [f_X8_sizeThere_4, w1, if_pos (nI_le (Nat.le_refl _) (by omega))]
  · right
    show f_X8_sizeThere_4 (fuel + 1) _ _ _ = f_X8_sizeThere_4 fuel _ _ _
    rw [f_X8_sizeThere_4, w1, if_neg (nI_ge hj (by omega)), ui_n (show j < 16 by omega) (by decide), nI_clamp (show j < 2 ^ 31 by omega), sm_s]
    simp only [ul_eq, nI_1]
    unfold th
    by_cases c : x 17 j = 0
    · simp only [if_pos c]
    · simp only [if_neg c, Nat.add_zero]
theorem p_lettersThere {x y : St} {W : Nat} (hD : RD W x y) : f_X8_lettersThere x = some (nI (sm W (tl x)), x) := by
  obtain ⟨hW, w1, w2, hwd, hst, -⟩ := hD
  unfold f_X8_lettersThere
  have := loop_fu (fun fuel j => f_X8_lettersThere_4 fuel x (nI (sm j (tl x))) (nI j)) W (some (nI (sm W (tl x)), x)) (by omega) (fun fuel => ?_) (fun fuel j hj => ?_)
  · exact this
  · show f_X8_lettersThere_4 (fuel + 1) _ _ _ = _
    rw [f_X8_lettersThere_4, w1, if_pos (nI_le (Nat.le_refl _) (by omega))]
  · right
    show f_X8_lettersThere_4 (fuel + 1) _ _ _ = f_X8_lettersThere_4 fuel _ _ _
    obtain ⟨⟨n, n1, n8, e1, e2, hl⟩, -⟩ := hwd j hj
    have hln : ln x j = n := by unfold ln; rw [e1, nI_clamp (by omega)]
    rw [f_X8_lettersThere_4, w1, if_neg (nI_ge hj (by omega)), ui_n (show j < 16 by omega) (by decide), nI_clamp (show j < 2 ^ 31 by omega), sm_s]
    simp only [ul_eq, nI_1, ui_n (show j < 16 by omega) (show 16 < 2 ^ 31 by decide), e1, nI_add]
    unfold tl
    rw [hln]
    by_cases c : x 17 j = 0
    · simp only [if_pos c]
    · simp only [if_neg c, Nat.add_zero]
theorem p_mean {x y : St} {W : Nat} (hD : RD W x y) : f_X10_mean y = if nI (sm W (th x)) = 0 then some (-3, rfY y 4) else some (nI (sm W (tl x)) / nI (sm W (th x)), y) := by
  obtain ⟨hW, w1, w2, hwd, hst, -⟩ := hD
  unfold f_X10_mean
  have := loop_fu (fun fuel j => f_X10_mean_6 fuel y (nI (sm j (th x))) (nI (sm j (tl x))) (nI j)) W (if nI (sm W (th x)) = 0 then some (-3, rfY y 4) else some (nI (sm W (tl x)) / nI (sm W (th x)), y)) (by omega) (fun fuel => ?_) (fun fuel j hj => ?_)
  · exact this
  · show f_X10_mean_6 (fuel + 1) _ _ _ _ = _
    rw [f_X10_mean_6, w2, if_pos (nI_le (Nat.le_refl _) (by omega)), p_meets y (k := 4) (by decide) (by decide), ub_some]
    by_cases c : nI (sm W (th x)) = 0
    · rw [if_pos c, if_pos c]
    · rw [if_neg c, if_neg c, ug_ok (by simp [c])]
  · right
    show f_X10_mean_6 (fuel + 1) _ _ _ _ = f_X10_mean_6 fuel _ _ _ _
    obtain ⟨⟨n, n1, n8, e1, e2, hl⟩, -⟩ := hwd j hj
    have hln : ln x j = n := by unfold ln; rw [e1, nI_clamp (by omega)]
    rw [f_X10_mean_6, w2, if_neg (nI_ge hj (by omega)), ui_n (show j < 16 by omega) (by decide), nI_clamp (show j < 2 ^ 31 by omega), sm_s, sm_s]
    simp only [ul_eq, nI_1, ui_n (show j < 16 by omega) (show 16 < 2 ^ 31 by decide), e2, nI_add, ← (hst j (by omega)).1, nI_p0]
    unfold tl th
    rw [hln]
    by_cases c : x 17 j = 0
    · simp only [if_pos c]
    · simp only [if_neg c, Nat.add_zero]
theorem op_mean {x y : St} (h : Rel x y) : ∃ (r : Int32) (x' y' : St), f_X9_mean x  = some (r, x') ∧ f_X10_mean y  = some (r, y') ∧ Rel x' y' := by
  obtain ⟨W, hD, -⟩ := h.2.2.2.2.2.2.2
  unfold f_X9_mean
  rw [p_mean hD, p_sizeThere hD, ub_some, p_lettersThere hD, ub_some, p_refuse x (k := 4) (by decide) (by decide), ub_some]
  by_cases c : nI (sm W (th x)) = 0
  · rw [if_pos c, if_pos c]; exact ⟨_, _, _, rfl, rfl, rel_rf (by decide) h⟩
  · rw [if_neg c, if_neg c, ug_ok (by simp [c])]; exact ⟨_, _, _, rfl, rfl, h⟩
-- a house
def hs1 (x : St) (v : Int32) (w : Nat) : Nat := if x 17 w = 0 then (if x 13 w = v then 1 else 0) else 0
theorem p_house {x y : St} {W : Nat} (hD : RD W x y) (v : Int32) : f_X8_sizeOfHouse x v = some (nI (sm W (hs1 x v)), x) := by
  obtain ⟨hW, w1, w2, hwd, hst, -⟩ := hD
  unfold f_X8_sizeOfHouse
  have := loop_fu (fun fuel j => f_X8_sizeOfHouse_4 fuel x v (nI (sm j (hs1 x v))) (nI j)) W (some (nI (sm W (hs1 x v)), x)) (by omega) (fun fuel => ?_) (fun fuel j hj => ?_)
  · exact this
  · show f_X8_sizeOfHouse_4 (fuel + 1) _ _ _ _ = _
    rw [f_X8_sizeOfHouse_4, w1, if_pos (nI_le (Nat.le_refl _) (by omega))]
  · right
    show f_X8_sizeOfHouse_4 (fuel + 1) _ _ _ _ = f_X8_sizeOfHouse_4 fuel _ _ _ _
    rw [f_X8_sizeOfHouse_4, w1, if_neg (nI_ge hj (by omega)), ui_n (show j < 16 by omega) (by decide), nI_clamp (show j < 2 ^ 31 by omega), sm_s]
    simp only [ul_eq, nI_1, ui_n (show j < 16 by omega) (show 16 < 2 ^ 31 by decide)]
    unfold hs1
    by_cases c : x 17 j = 0
    · simp only [if_pos c]
      by_cases d : x 13 j = v
      · simp only [if_pos d]
      · simp only [if_neg d, Nat.add_zero]
    · simp only [if_neg c, Nat.add_zero]
theorem p_children {x y : St} {W : Nat} (hD : RD W x y) (v : Int32) : f_X10_children y v = some (nI (sm W (hs1 x v)), y) := by
  obtain ⟨hW, w1, w2, hwd, hst, -⟩ := hD
  unfold f_X10_children
  have := loop_fu (fun fuel j => f_X10_children_4 fuel y v (nI (sm j (hs1 x v))) (nI j)) W (some (nI (sm W (hs1 x v)), y)) (by omega) (fun fuel => ?_) (fun fuel j hj => ?_)
  · exact this
  · show f_X10_children_4 (fuel + 1) _ _ _ _ = _
    rw [f_X10_children_4, w2, if_pos (nI_le (Nat.le_refl _) (by omega))]
  · right
    show f_X10_children_4 (fuel + 1) _ _ _ _ = f_X10_children_4 fuel _ _ _ _
    obtain ⟨-, k1, k2, -⟩ := hwd j hj
    rw [f_X10_children_4, w2, if_neg (nI_ge hj (by omega)), ui_n (show j < 16 by omega) (by decide), nI_clamp (show j < 2 ^ 31 by omega), sm_s]
    simp only [ul_eq, nI_1, ui_n (show j < 16 by omega) (show 16 < 2 ^ 31 by decide), ← k2, ← (hst j (by omega)).1, nI_p0]
    unfold hs1
    by_cases d : x 13 j = v
    · simp only [if_pos d]
      by_cases c : x 17 j = 0
      · simp only [if_pos c]
      · simp only [if_neg c, Nat.add_zero]
    · simp only [if_neg d]
      by_cases c : x 17 j = 0
      · simp only [if_pos c, Nat.add_zero]
      · simp only [if_neg c, Nat.add_zero]
theorem p_root {x y : St} {W : Nat} (hD : RD W x y) (v1 : Int32) : ∀ w, w < W → (x 12 w = 1 ∨ x 12 w = 2) → ∃ r, (∀ fuel s, w < fuel → s + w < 16 → f_X8_founderOf_4 fuel x (nI w) (nI s) = some (nI r, x)) ∧ (∀ fuel, w < fuel → f_X10_mark_57 fuel y v1 2 (nI w) = some (nI r, y)) := by
  obtain ⟨hW, w1, w2, hwd, hst, -⟩ := hD
  intro w
  induction w using Nat.strongRecOn with
  | _ w ih =>
    intro hw hk
    obtain ⟨-, k1, k2, -, -, -, kk⟩ := hwd w hw
    have h16 : w < 16 := by omega
    have n21 : ¬ (2 : Int32) = 1 := by decide
    rcases kk with ⟨q0, -⟩ | ⟨q1, q2, -⟩ | ⟨q1, -, v, hv, q2, q3⟩
    · rcases hk with e | e
      · rw [q0] at e; exact absurd e (by decide)
      · rw [q0] at e; exact absurd e (by decide)
    · refine ⟨w, fun fuel s hf hs => ?_, fun fuel hf => ?_⟩
      · obtain ⟨g, rfl⟩ : ∃ g, fuel = g + 1 := ⟨fuel - 1, by omega⟩
        have hs16 : ¬ (16 : Int32) ≤ nI s := by rw [show (16 : Int32) = nI 16 from by decide]; exact nI_ge (by omega) (by decide)
        rw [f_X8_founderOf_4, if_neg hs16, ui_n h16 (by decide), nI_clamp (by omega), q1, if_neg (by decide)]
      · obtain ⟨g, rfl⟩ : ∃ g, fuel = g + 1 := ⟨fuel - 1, by omega⟩
        rw [f_X10_mark_57, if_pos rfl, ui_n h16 (by decide), nI_clamp (by omega), ← k2, q2, if_pos rfl, if_neg n21, if_pos rfl]
    · have q1' : x 12 w = 2 := by
        rcases hk with e | e
        · rcases q1 with f | f <;> (rw [e] at f; exact absurd f (by decide))
        · exact e
      obtain ⟨r, r1, r2⟩ := ih v hv (by omega) q3
      refine ⟨r, fun fuel s hf hs => ?_, fun fuel hf => ?_⟩
      · obtain ⟨g, rfl⟩ : ∃ g, fuel = g + 1 := ⟨fuel - 1, by omega⟩
        have hs16 : ¬ (16 : Int32) ≤ nI s := by rw [show (16 : Int32) = nI 16 from by decide]; exact nI_ge (by omega) (by decide)
        rw [f_X8_founderOf_4, if_neg hs16, ui_n h16 (by decide), nI_clamp (by omega), q1', if_pos rfl, ui_n h16 (by decide), ul_eq, ul_eq, q2, nI_1]
        exact r1 g (s + 1) (by omega) (by omega)
      · obtain ⟨g, rfl⟩ : ∃ g, fuel = g + 1 := ⟨fuel - 1, by omega⟩
        rw [f_X10_mark_57, if_pos rfl, ui_n h16 (by decide), nI_clamp (by omega), ← k2, q2, if_neg (nI_m9 (by omega)), ui_n h16 (by decide), ul_eq]
        exact r2 g (by omega)
theorem p_isOf {x : St} {w : Nat} (hw : w < 16) (v : Int32) : f_X8_isOf x (nI w) v = some (bI (x 12 w = v ∨ (v = 1 ∧ x 12 w = 2)), x) := by
  unfold f_X8_isOf bI
  simp only [ui_n hw (show 16 < 2 ^ 31 by decide), nI_clamp (show w < 2 ^ 31 by omega)]
  by_cases c : x 12 w = v
  · simp [c]
  · by_cases d : v = 1
    · by_cases e : x 12 w = 2
      · simp [d, e]
      · rw [d] at c; simp [c, d, e]
    · simp [c, d]
theorem op_mark {x y : St} (h : Rel x y) (a1 a2 : Int32) : ∃ (r : Int32) (x' y' : St), f_X9_mark x a1 a2 = some (r, x') ∧ f_X10_mark y a1 a2 = some (r, y') ∧ Rel x' y' := by
  obtain ⟨W, hD, -⟩ := h.2.2.2.2.2.2.2
  obtain ⟨hW, w1, w2, hwd, hst, -⟩ := id hD
  unfold f_X9_mark f_X10_mark
  simp only [p_wordNo w1 hW, p_in, ub_some, bI_z, ite_not, i_lt, i_le]
  rw [show (0 : Int32).toInt = 0 from by decide, show (1 : Int32).toInt = 1 from by decide, show (3 : Int32).toInt = 3 from by decide]
  by_cases h2 : 1 ≤ a2.toInt ∧ a2.toInt ≤ 3
  · rw [if_pos h2, if_neg (show ¬ a2.toInt < 1 by omega), if_pos h2.2]
    by_cases h1 : 0 ≤ a1.toInt ∧ a1.toInt ≤ (W : Int) - 1
    · rw [if_pos h1]
      obtain ⟨w, hw, rfl⟩ := n_of (N := W) (v := a1) (by omega) (by omega)
      have h16 : w < 16 := by omega
      have uw : ∀ {α : Type} {k : Option α}, ui (nI w) 16 k = k := ui_n h16 (by decide)
      have cw : (nI w).toNatClampNeg = w := nI_clamp (by omega)
      obtain ⟨-, k1, k2, -, -, -, kk⟩ := hwd w hw
      rw [p_asked w2 hW hw, p_isOf h16, ub_some]
      simp only [uw, cw, ← (hst w h16).1, bI_z, ite_not, p_house hD, ub_some, p_refuse x (v := 1) (k := 1) (by decide) (by decide), p_refuse x (v := 3) (k := 3) (by decide) (by decide)]
      by_cases hs : x 17 w = 0
      · rw [if_pos hs, if_pos hs, ub_some, if_pos (show (0 : Int) ≤ (0 : Int32).toInt by decide)]
        simp only [uw, cw, ← k1, p_meets y (v := 3) (k := 3) (by decide) (by decide), ub_some]
        have key : (x 12 w = a2 ∨ (a2 = 1 ∧ x 12 w = 2)) → ∃ (r : Int32), (if a2 = 1 then some (nI (sm W (hs1 x (nI w))), x) else if a2 = 2 then ub (f_X8_founderOf x (nI w)) fun r7 σ8 => some (r7, σ8) else some (x 13 w, x)) = some (r, x) ∧ f_X10_mark_57 fu y (nI w) a2 (nI w) = some (r, y) := by
          intro hq
          by_cases c2 : a2 = 2
          · subst c2
            have e12 : x 12 w = 2 := hq.resolve_right (fun q => absurd q.1 (by decide))
            obtain ⟨r, r1, r2⟩ := p_root hD (nI w) w hw (Or.inr e12)
            refine ⟨nI r, ?_, r2 fu (by unfold fu; omega)⟩
            rw [if_neg (by decide), if_pos rfl]
            unfold f_X8_founderOf
            have := r1 fu 0 (by unfold fu; omega) (by omega)
            rw [nI_0] at this
            rw [this, ub_some]
          · have ef : fu = 4999 + 1 := rfl
            rw [ef, f_X10_mark_57, if_neg c2]
            by_cases c1 : a2 = 1
            · subst c1
              rw [if_pos rfl, if_pos rfl, p_children hD, ub_some]
              exact ⟨_, rfl, rfl⟩
            · rw [if_neg c1, if_neg c2, if_neg c1, if_neg c2, uw, cw, ← k2]
              exact ⟨_, rfl, rfl⟩
        by_cases hq : x 12 w = a2 ∨ (a2 = 1 ∧ x 12 w = 2)
        · obtain ⟨r, r1, r2⟩ := key hq
          refine ⟨r, x, y, ?_, ?_, h⟩
          · rw [if_pos hq]; exact r1
          · rw [r2]
            rcases hq with e | ⟨e1, e2⟩
            · rw [if_pos e]
            · rw [if_pos e1, if_pos e2]
              by_cases c : x 12 w = a2
              · rw [if_pos c]
              · rw [if_neg c]
        · refine ⟨-3, rfX x 3, rfY y 3, ?_, ?_, rel_rf (by decide) h⟩
          · rw [if_neg hq]
          · rw [if_neg (fun e => hq (Or.inl e))]
            by_cases c : a2 = 1
            · rw [if_pos c, if_neg (fun e => hq (Or.inr ⟨c, e⟩))]
            · rw [if_neg c]
      · rw [if_neg hs, if_neg hs, ub_some, if_neg (show ¬ (0 : Int) ≤ (-3 : Int32).toInt by decide)]
        exact ⟨_, _, _, rfl, rfl, rel_rf (by decide) h⟩
    · rw [if_neg h1, p_askedB w2 hW h1, ub_some, if_neg (by decide)]; exact ⟨_, _, _, rfl, rfl, h⟩
  · rw [if_neg h2]
    by_cases h1 : 0 ≤ a1.toInt ∧ a1.toInt ≤ (W : Int) - 1
    · rw [if_pos h1]
      by_cases g : a2.toInt < 1
      · rw [if_pos g]; exact ⟨_, _, _, rfl, rfl, h⟩
      · rw [if_neg g, if_neg (show ¬ a2.toInt ≤ 3 by omega)]; exact ⟨_, _, _, rfl, rfl, h⟩
    · rw [if_neg h1]; exact ⟨_, _, _, rfl, rfl, h⟩
