theorem pk_b9 (z : Int32) : byt z.toInt8.toInt32 := by
  unfold byt
  have := pk_vb z
  rw [vp_nar_byte] at this
  exact this
theorem p_there {x : St} {j : Nat} (hj : j < 4) : f_X5_isThere x (nI j) = some (bI (¬ x 3 j = -1), x) := by
  unfold f_X5_isThere
  rw [ui_n hj (by decide), nI_clamp (by omega)]
  unfold bI
  by_cases h : x 3 j = -1
  · rw [if_pos h, if_neg (fun g => g h)]
  · rw [if_neg h, if_pos h]
theorem p_looked {y : St} {j : Nat} (hj : j < 4) : f_X10_looked y (nI j) = if 0 ≤ y 3 j then some (0, y) else some (-3, rfY y 1) := by
  unfold f_X10_looked
  rw [p_mSheet, ub_some]
  simp only [bI_z, ite_not]
  rw [if_pos (by rw [nI_toInt (by omega)]; omega), ui_n hj (by decide), nI_clamp (by omega), p_meets y (k := 1) (by decide) (by decide), ub_some]
theorem p_lookedB {y : St} {v : Int32} (h : ¬ (0 ≤ v.toInt ∧ v.toInt ≤ 3)) : f_X10_looked y v = some (-1, y) := by
  unfold f_X10_looked
  rw [p_mSheet, ub_some]
  simp only [bI_z, ite_not]
  rw [if_neg h]
theorem nI_m {n k : Nat} {v : Int32} (hv : v = nI k) (hn : n < 2 ^ 30) (hk : k < 2 ^ 30) : (nI n - v).toInt = (n : Int) - k := by
  rw [hv]
  exact pk_sub_toInt hn hk
theorem op_lay {x y : St} (h : Rel x y) (a1 a2 a3 : Int32) : ∃ (r : Int32) (x' y' : St), f_X9_lay x a1 a2 a3 = some (r, x') ∧ f_X10_lay y a1 a2 a3 = some (r, y') ∧ Rel x' y' := by
  unfold f_X9_lay f_X10_lay
  rw [p_sheetNo, ub_some]
  simp only [bI_z, ite_not]
  by_cases hp : 0 ≤ a1.toInt ∧ a1.toInt ≤ 3
  · rw [if_pos hp]
    obtain ⟨j, hj, rfl⟩ := n_of (N := 4) (v := a1) (by omega) (by decide)
    have uj : ∀ {α : Type} {k : Option α}, ui (nI j) 4 k = k := ui_n hj (by decide)
    have cj : (nI j).toNatClampNeg = j := nI_clamp (by omega)
    have hC := h.2.2.1
    rw [p_there hj, p_looked hj, ub_some]
    simp only [bI_z, Decidable.not_not]
    rcases (hC j hj).1 with ⟨e1, e2⟩ | ⟨n, hn, e1, e2⟩
    · rw [if_pos e1, e2, if_neg (show ¬ (0 : Int32) ≤ -9 by decide), p_refuse x (k := 1) (by decide) (by decide), ub_some, ub_some, if_neg (by decide)]
      exact ⟨_, _, _, rfl, rfl, rel_rf (by decide) h⟩
    · rw [if_neg (by rw [e1]; exact nI_m1 (by omega)), if_pos (by rw [e2]; exact nI_pos' (by omega)), ub_some, if_pos (by decide), p_in, uj, ub_some]
      simp only [bI_z, ite_not]
      unfold f_X5_hasRun
      simp only [uj, cj, e1, e2, i_lt]
      have s1 : (nI n - 1).toInt = (n : Int) - 1 := nI_m (k := 1) (by decide) (by omega) (by omega)
      have z0 : (0 : Int32).toInt = 0 := by decide
      have z1 : (1 : Int32).toInt = 1 := by decide
      rw [s1, z0, z1, nI_toInt (by omega)]
      by_cases hq : 0 ≤ a2.toInt ∧ a2.toInt ≤ (n : Int) - 1
      · obtain ⟨i, hi, rfl⟩ := n_of (N := 10) (v := a2) (by omega) (by decide)
        have ei : (nI i).toInt = i := nI_toInt (by omega)
        rw [ei] at hq
        simp only [ei]
        rw [if_neg (by omega), if_neg (by omega), if_neg (by omega), ub_some, if_neg (by decide), if_pos hq]
        have e10 : (10 : Int32) * nI j + nI i = nI (10 * j + i) := by rw [show (10 : Int32) = nI 10 from by decide, pk_mul, nI_add]
        unfold f_X5_changeByte
        simp only [uj, cj, e10, ui_n hi (show 10 < 2 ^ 31 by decide), ui_n (show 10 * j + i < 40 by omega) (show 40 < 2 ^ 31 by decide), ul_eq, ub_some, nI_clamp (show i < 2 ^ 31 by omega), nI_clamp (show 10 * j + i < 2 ^ 31 by omega), pk_vb]
        refine ⟨x (4 + j) i + 1000, us x (4 + j) i a3.toInt8.toInt32, us y 4 (10 * j + i) a3.toInt8.toInt32, rfl, by rw [((hC j hj).2 i hi).1], Rel_C h (fun q hq => us_n (by omega)) (fun q hq => us_n (by omega)) ?_⟩
        intro s hs
        rw [us_n (show 3 ≠ 4 + j by omega), us_n (show (3 : Nat) ≠ 4 by omega)]
        refine ⟨(hC s hs).1, fun t ht => ?_⟩
        rw [us_e]
        by_cases e : s = j
        · subst e
          rw [us_e]
          unfold upd
          by_cases e : t = i
          · subst e; rw [if_pos rfl, if_pos rfl]; exact ⟨rfl, pk_b9 _⟩
          · rw [if_neg e, if_neg (by omega)]; exact (hC s hs).2 t ht
        · rw [us_n (show 4 + s ≠ 4 + j by omega)]
          unfold upd
          rw [if_neg (by omega)]
          exact (hC s hs).2 t ht
      · rw [if_neg hq, p_meets y (k := 2) (by decide) (by decide), ub_some]
        have hr := p_refuse x (v := 2) (k := 2) (by decide) (by decide)
        by_cases g1 : a2.toInt < 0
        · rw [if_pos g1, ub_some, if_pos rfl, hr, ub_some]; exact ⟨_, _, _, rfl, rfl, rel_rf (by decide) h⟩
        · rw [if_neg g1]
          by_cases g2 : (n : Int) < 1
          · rw [if_pos g2, ub_some, if_pos rfl, hr, ub_some]; exact ⟨_, _, _, rfl, rfl, rel_rf (by decide) h⟩
          · rw [if_neg g2, if_pos (by omega), ub_some, if_pos rfl, hr, ub_some]; exact ⟨_, _, _, rfl, rfl, rel_rf (by decide) h⟩
  · rw [if_neg hp, p_lookedB hp, ub_some, if_neg (by decide)]; exact ⟨_, _, _, rfl, rfl, h⟩
-- sheet: both fill a row of ten
def flX (x : St) (i j : Nat) : St := uf x (4 + i) (fun q => if q < j then 97 else x (4 + i) q)
def flY (y : St) (i j : Nat) : St := uf y 4 (fun q => if 10 * i ≤ q ∧ q < 10 * i + j then 97 else y 4 q)
theorem flX_0 {x : St} {i : Nat} : flX x i 0 = x := by
  funext k q
  unfold flX uf
  by_cases h : k = 4 + i
  · subst h; simp
  · simp [h]
theorem flY_0 {y : St} {i : Nat} : flY y i 0 = y := by
  funext k q
  unfold flY uf
  by_cases h : k = 4
  · subst h
    rw [if_pos rfl, if_neg (by omega)]
  · simp [h]
theorem flX_s {x : St} {i j : Nat} : us (flX x i j) (4 + i) j 97 = flX x i (j + 1) := by
  funext k q
  unfold us flX uf upd
  by_cases h : k = 4 + i
  · subst h
    simp only [if_true]
    by_cases e : q = j
    · subst e; rw [if_pos rfl, if_pos (by omega)]
    · rw [if_neg e]
      by_cases g : q < j
      · rw [if_pos g, if_pos (by omega)]
      · rw [if_neg g, if_neg (by omega)]
  · simp [h]
theorem flY_s {y : St} {i j : Nat} : us (flY y i j) 4 (10 * i + j) 97 = flY y i (j + 1) := by
  funext k q
  unfold us flY uf upd
  by_cases h : k = 4
  · subst h
    simp only [if_true]
    by_cases e : q = 10 * i + j
    · subst e; rw [if_pos rfl, if_pos (by omega)]
    · rw [if_neg e]
      by_cases g : 10 * i ≤ q ∧ q < 10 * i + j
      · rw [if_pos g, if_pos (by omega)]
      · rw [if_neg g, if_neg (by omega)]
  · simp [h]
theorem p_fill {x : St} {i : Nat} : f_J7_fill_031fb x i 97 = some ((), flX x i 10) := by
  unfold f_J7_fill_031fb
  rw [ul_eq]
  have := loop_fu (fun fuel j => f_J7_fill_031fb_5 fuel (flX x i j) i 97 (nI j) (Int32.ofNat 10)) 10 (some ((), flX x i 10)) (by decide) (fun fuel => ?_) (fun fuel j hj => ?_)
  · simpa only [flX_0, nI_0] using this
  · show f_J7_fill_031fb_5 (fuel + 1) _ _ _ _ _ = _
    rw [f_J7_fill_031fb_5, if_pos (show Int32.ofNat 10 ≤ nI 10 from nI_le (a := 10) (b := 10) (by omega) (by decide))]
  · right
    show f_J7_fill_031fb_5 (fuel + 1) _ _ _ _ _ = f_J7_fill_031fb_5 fuel _ _ _ _ _
    rw [f_J7_fill_031fb_5, if_neg (show ¬ Int32.ofNat 10 ≤ nI j from nI_ge hj (by decide)), ui_n hj (by decide), ul_eq, ul_eq, nI_clamp (by omega), show vp_nar .byte 97 = 97 from by decide, flX_s, nI_1]
theorem p_sheetM {y : St} {i : Nat} {v : Int32} (hi : i < 4) : f_X10_sheet_34 fu y (nI i) v 0 = some (v, flY y i 10) := by
  have := loop_fu (fun fuel j => f_X10_sheet_34 fuel (flY y i j) (nI i) v (nI j)) 10 (some (v, flY y i 10)) (by decide) (fun fuel => ?_) (fun fuel j hj => ?_)
  · simpa only [flY_0, nI_0] using this
  · show f_X10_sheet_34 (fuel + 1) _ _ _ _ = _
    rw [f_X10_sheet_34, if_pos (show (10 : Int32) ≤ nI 10 by decide)]
  · right
    have e10 : (10 : Int32) * nI i + nI j = nI (10 * i + j) := by rw [show (10 : Int32) = nI 10 from by decide, pk_mul, nI_add]
    show f_X10_sheet_34 (fuel + 1) _ _ _ _ = f_X10_sheet_34 fuel _ _ _ _
    rw [f_X10_sheet_34, if_neg (show ¬ (10 : Int32) ≤ nI j from by rw [show (10 : Int32) = nI 10 from by decide]; exact nI_ge hj (by decide)), e10, ui_n (show 10 * i + j < 40 by omega) (by decide), ul_eq, ul_eq, nI_clamp (by omega), flY_s, nI_1]
theorem op_sheet {x y : St} (h : Rel x y) (a1 a2 : Int32) : ∃ (r : Int32) (x' y' : St), f_X9_sheet x a1 a2 = some (r, x') ∧ f_X10_sheet y a1 a2 = some (r, y') ∧ Rel x' y' := by
  unfold f_X9_sheet f_X10_sheet
  rw [p_sheetNo, p_mSheet, ub_some, ub_some]
  simp only [bI_z, ite_not]
  by_cases hp : 0 ≤ a1.toInt ∧ a1.toInt ≤ 3
  · rw [if_pos hp, if_pos hp]
    obtain ⟨j, hj, rfl⟩ := n_of (N := 4) (v := a1) (by omega) (by decide)
    have uj : ∀ {α : Type} {k : Option α}, ui (nI j) 4 k = k := ui_n hj (by decide)
    have cj : (nI j).toNatClampNeg = j := nI_clamp (by omega)
    have hC := h.2.2.1
    by_cases h1 : a2 ≤ 10
    · rw [if_pos h1, if_pos h1]
      by_cases h2 : 0 ≤ a2
      · rw [if_pos h2, if_pos h2, uj]
        unfold f_X5_bring
        simp only [uj, cj, p_fill, ub_some, ul_eq, p_sheetM hj]
        rw [i_le] at h1 h2
        have z0 : (0 : Int32).toInt = 0 := by decide
        have z1 : (10 : Int32).toInt = 10 := by decide
        obtain ⟨n, hn, rfl⟩ := n_of (N := 11) (v := a2) (by omega) (by decide)
        refine ⟨nI n, us (flX x j 10) 3 j (nI n), flY (us y 3 j (nI n)) j 10, rfl, rfl, Rel_C h (fun q hq => ?_) (fun q hq => ?_) ?_⟩
        · rw [us_n (by omega)]; unfold flX uf; rw [if_neg (by omega)]
        · unfold flY uf; rw [if_neg (by omega), us_n (by omega)]
        · intro s hs
          have a1 : us (flX x j 10) 3 j (nI n) 3 = upd (x 3) j (nI n) := by rw [us_e]; unfold flX uf; rw [if_neg (by omega)]
          have a2 : flY (us y 3 j (nI n)) j 10 3 = upd (y 3) j (nI n) := by unfold flY uf; rw [if_neg (by omega), us_e]
          have a3 : us (flX x j 10) 3 j (nI n) (4 + s) = flX x j 10 (4 + s) := us_n (by omega)
          have a4 : flY (us y 3 j (nI n)) j 10 4 = fun q => if 10 * j ≤ q ∧ q < 10 * j + 10 then 97 else y 4 q := by unfold flY uf; rw [if_pos rfl, us_n (by omega)]
          rw [a1, a2, a3, a4]
          constructor
          · unfold upd
            by_cases e : s = j
            · rw [if_pos e, if_pos e]; exact Or.inr ⟨n, by omega, rfl, rfl⟩
            · rw [if_neg e, if_neg e]; exact (hC s hs).1
          · intro t ht
            unfold flX uf
            by_cases e : s = j
            · subst e
              rw [if_pos rfl, if_pos ht]
              show 97 = (if 10 * s ≤ 10 * s + t ∧ 10 * s + t < 10 * s + 10 then 97 else _) ∧ _
              rw [if_pos (by omega)]
              exact ⟨rfl, by unfold byt; decide⟩
            · rw [if_neg (by omega)]
              show x (4 + s) t = (if 10 * j ≤ 10 * s + t ∧ 10 * s + t < 10 * j + 10 then 97 else _) ∧ _
              rw [if_neg (by omega)]
              exact (hC s hs).2 t ht
      · rw [if_neg h2, if_neg h2, p_refuse x (k := 5) (by decide) (by decide), p_meets y (k := 5) (by decide) (by decide), ub_some, ub_some]
        exact ⟨_, _, _, rfl, rfl, rel_rf (by decide) h⟩
    · rw [if_neg h1, if_neg h1]; exact ⟨_, _, _, rfl, rfl, h⟩
  · rw [if_neg hp, if_neg hp]; exact ⟨_, _, _, rfl, rfl, h⟩
