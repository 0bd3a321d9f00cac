/-! ===== digest ===== -/
def dl (f : Nat → Int32) (h : Int64) : Nat → Int64
  | 0 => h
  | j + 1 => (31 * dl f h j) + (f j).toInt64
theorem dl_s {f : Nat → Int32} {h : Int64} {j : Nat} : dl f h (j + 1) = (31 * dl f h j) + (f j).toInt64 := rfl
def dW (x : St) (h : Int64) : Nat → Int64
  | 0 => h
  | w + 1 => if x 17 w = 0 then dl (fun j => FT x w (nI j)) (dW x h w) 6 else (31 * dW x h w) - 1
theorem dW_s {x : St} {h : Int64} {w : Nat} : dW x h (w + 1) = if x 17 w = 0 then dl (fun j => FT x w (nI j)) (dW x h w) 6 else (31 * dW x h w) - 1 := rfl
def dL (x : St) (h : Int64) (l : Nat) : Nat → Int64
  | 0 => h
  | i + 1 => (31 * ((31 * ((31 * dL x h l i) + (x (35 + 9 * l + 6) i).toInt64)) + (x (35 + 9 * l + 7) i).toInt64)) + (x (35 + 9 * l + 8) i).toInt64
theorem dL_s {x : St} {h : Int64} {l i : Nat} : dL x h l (i + 1) = (31 * ((31 * ((31 * dL x h l i) + (x (35 + 9 * l + 6) i).toInt64)) + (x (35 + 9 * l + 7) i).toInt64)) + (x (35 + 9 * l + 8) i).toInt64 := rfl
def dLL (x : St) (h : Int64) : Nat → Int64
  | 0 => h
  | l + 1 => dL x (dLL x h l) l (ly1 x l)
def dS (x : St) (h : Int64) : Nat → Int64
  | 0 => h
  | s + 1 => if x 3 s = -1 then (31 * dS x h s) + (x 3 s).toInt64 else dl (x (4 + s)) ((31 * dS x h s) + (x 3 s).toInt64) (x 3 s).toNatClampNeg
theorem dS_s {x : St} {h : Int64} {s : Nat} : dS x h (s + 1) = if x 3 s = -1 then (31 * dS x h s) + (x 3 s).toInt64 else dl (x (4 + s)) ((31 * dS x h s) + (x 3 s).toInt64) (x 3 s).toNatClampNeg := rfl
theorem lt5 {j : Nat} (hj : j < 6) : ¬ (5 : Int32) < nI j := by rw [show (5 : Int32) = nI 5 from by decide]; exact nI_nlt (by omega) (by decide)
-- words
theorem p_dw38 {x y : St} {w : Nat} (k : St → Int64 → Int32 → Option (Int64 × St)) (hB : RB x y) (hw : w < 16) (hk : wordOK x y w) (h : Int64) : f_X8_digestFrom_38 k fu x h (nI w) 0 = k x (dl (fun j => FT x w (nI j)) h 6) (nI (w + 1)) := by
  have := loop_fu (fun fuel j => f_X8_digestFrom_38 k fuel x (dl (fun j => FT x w (nI j)) h j) (nI w) (nI j)) 6 (k x (dl (fun j => FT x w (nI j)) h 6) (nI (w + 1))) (by decide) (fun fuel => ?_) (fun fuel j hj => ?_)
  · exact this
  · show f_X8_digestFrom_38 k (fuel + 1) _ _ _ _ = _
    rw [f_X8_digestFrom_38, if_pos (by decide), ul_eq, nI_1]
  · right
    show f_X8_digestFrom_38 k (fuel + 1) _ _ _ _ = f_X8_digestFrom_38 k fuel _ _ _ _
    rw [f_X8_digestFrom_38, if_neg (lt5 hj), p_factW hB hw hk, ub_some, ul_eq, ul_eq, nI_1, dl_s]
theorem p_dwX {x y : St} {W : Nat} (hB : RB x y) (hD : RD W x y) (h : Int64) : f_X8_digestFrom x h = some (dW x h W, x) := by
  obtain ⟨hW, w1, w2, hwd, hst, -⟩ := hD
  unfold f_X8_digestFrom
  have := loop_fu (fun fuel j => f_X8_digestFrom_5 fuel x (dW x h j) (nI j)) W (some (dW x h W, x)) (by omega) (fun fuel => ?_) (fun fuel j hj => ?_)
  · exact this
  · show f_X8_digestFrom_5 (fuel + 1) _ _ _ = _
    rw [f_X8_digestFrom_5, w1, if_pos (nI_le (Nat.le_refl _) (by omega))]
  · right
    show f_X8_digestFrom_5 (fuel + 1) _ _ _ = f_X8_digestFrom_5 fuel _ _ _
    rw [f_X8_digestFrom_5, w1, if_neg (nI_ge hj (by omega)), ui_n (show j < 16 by omega) (by decide), nI_clamp (show j < 2 ^ 31 by omega), p_dw38 _ hB (by omega) (hwd j hj), ul_eq, ul_eq, nI_1, dW_s]
    by_cases c : x 17 j = 0
    · rw [if_pos c, if_pos c]
    · rw [if_neg c, if_neg c]
theorem p_dy60 {x y : St} {w : Nat} (k : St → Int64 → Int32 → Option (Int64 × St)) (hB : RB x y) (hw : w < 16) (hk : wordOK x y w) (es : y 9 w = 0) (h : Int64) : f_X10_digest_60 k fu y h (nI w) 0 = k y (dl (fun j => FT x w (nI j)) h 6) (nI (w + 1)) := by
  have := loop_fu (fun fuel j => f_X10_digest_60 k fuel y (dl (fun j => FT x w (nI j)) h j) (nI w) (nI j)) 6 (k y (dl (fun j => FT x w (nI j)) h 6) (nI (w + 1))) (by decide) (fun fuel => ?_) (fun fuel j hj => ?_)
  · exact this
  · show f_X10_digest_60 k (fuel + 1) _ _ _ _ = _
    rw [f_X10_digest_60, if_pos (by decide), ul_eq, nI_1]
  · right
    show f_X10_digest_60 k (fuel + 1) _ _ _ _ = f_X10_digest_60 k fuel _ _ _ _
    rw [f_X10_digest_60, if_neg (lt5 hj), ui_n hw (by decide), nI_clamp (show w < 2 ^ 31 by omega), if_pos es, p_tells hB hw hk, ub_some, ul_eq, ul_eq, nI_1, dl_s]
theorem p_dy60s {y : St} {w : Nat} (k : St → Int64 → Int32 → Option (Int64 × St)) (hw : w < 16) (es : ¬ y 9 w = 0) (h : Int64) : f_X10_digest_60 k fu y h (nI w) 0 = k y h (nI (w + 1)) := by
  have ef : fu = 4999 + 1 := rfl
  rw [ef, f_X10_digest_60, if_neg (by decide), ui_n hw (by decide), nI_clamp (show w < 2 ^ 31 by omega), if_neg es, ul_eq, nI_1]
-- cells
theorem p_dc15 {x y : St} {l s b : Nat} (k : St → Nat → Int64 → Int32 → Option (Int64 × St)) (hE : RE x y) (hl : l < 4) (hs : s < 10) (hb : b = 150 * l + 15 * s) (h : Int64) : f_X2_digestCells_15 k fu x l (dl (y 14) h b) (nI s) 0 = k x l (dl (y 14) h (b + 15)) (nI (s + 1)) := by
  have := loop_fu (fun fuel j => f_X2_digestCells_15 k fuel x l (dl (y 14) h (b + j)) (nI s) (nI j)) 15 (k x l (dl (y 14) h (b + 15)) (nI (s + 1))) (by decide) (fun fuel => ?_) (fun fuel j hj => ?_)
  · exact this
  · show f_X2_digestCells_15 k (fuel + 1) _ _ _ _ _ = _
    rw [f_X2_digestCells_15, if_pos (by decide), ul_eq, nI_1]
  · right
    show f_X2_digestCells_15 k (fuel + 1) _ _ _ _ _ = f_X2_digestCells_15 k fuel _ _ (dl (y 14) h (b + j + 1)) _ _
    have h15 : ¬ (15 : Int32) ≤ nI j := by rw [show (15 : Int32) = nI 15 from by decide]; exact nI_ge hj (by decide)
    obtain ⟨v, h4, e, hv⟩ := (hE l hl s hs).2 j hj
    rw [f_X2_digestCells_15, if_neg h15, p_valueAt hs hj h4 hv, ub_some, ul_eq, ul_eq, nI_1, dl_s, hb, e]
theorem p_dcX {x y : St} {l : Nat} (hE : RE x y) (hl : l < 4) (h : Int64) : f_X2_digestCells x l (dl (y 14) h (150 * l)) = some (dl (y 14) h (150 * (l + 1)), x) := by
  unfold f_X2_digestCells
  have := loop_fu (fun fuel j => f_X2_digestCells_5 fuel x l (dl (y 14) h (150 * l + 15 * j)) (nI j)) 10 (some (dl (y 14) h (150 * (l + 1)), x)) (by decide) (fun fuel => ?_) (fun fuel j hj => ?_)
  · exact this
  · show f_X2_digestCells_5 (fuel + 1) _ _ _ _ = _
    rw [f_X2_digestCells_5, if_pos (by decide)]
    rfl
  · right
    show f_X2_digestCells_5 (fuel + 1) _ _ _ _ = f_X2_digestCells_5 fuel _ _ _ _
    have h10 : ¬ (10 : Int32) ≤ nI j := by rw [show (10 : Int32) = nI 10 from by decide]; exact nI_ge hj (by decide)
    rw [f_X2_digestCells_5, if_neg h10, p_dc15 _ hE hl hj rfl]
    rfl
-- layers
theorem p_dlX {x : St} {l n : Nat} (hn : x (35 + 9 * l) 4 = nI n) (h3 : n ≤ 3) (h : Int64) : f_X2_digestLayers x l h = some (dL x h l n, x) := by
  unfold f_X2_digestLayers
  have := loop_fu (fun fuel j => f_X2_digestLayers_5 fuel x l (dL x h l j) (nI j)) n (some (dL x h l n, x)) (by omega) (fun fuel => ?_) (fun fuel j hj => ?_)
  · exact this
  · show f_X2_digestLayers_5 (fuel + 1) _ _ _ _ = _
    rw [f_X2_digestLayers_5, hn, if_pos (nI_le (Nat.le_refl _) (by omega))]
  · right
    show f_X2_digestLayers_5 (fuel + 1) _ _ _ _ = f_X2_digestLayers_5 fuel _ _ _ _
    have ef : fu = 4996 + 1 + 1 + 1 + 1 := rfl
    rw [f_X2_digestLayers_5, hn, if_neg (nI_ge hj (by omega)), ef, f_X2_digestLayers_17, if_neg (by decide)]
    unfold f_X2_factOf
    rw [if_pos rfl, ui_n (show j < 3 by omega) (by decide), nI_clamp (show j < 2 ^ 31 by omega), ub_some, ul_eq, ul_eq, f_X2_digestLayers_17, if_neg (by decide)]
    unfold f_X2_factOf
    rw [if_neg (show ¬ (0 : Int32) + 1 = 0 by decide), if_pos (show (0 : Int32) + 1 = 1 by decide), ui_n (show j < 3 by omega) (by decide), nI_clamp (show j < 2 ^ 31 by omega), ub_some, ul_eq, ul_eq, f_X2_digestLayers_17, if_neg (by decide)]
    unfold f_X2_factOf
    rw [if_neg (show ¬ (0 : Int32) + 1 + 1 = 0 by decide), if_neg (show ¬ (0 : Int32) + 1 + 1 = 1 by decide), ui_n (show j < 3 by omega) (by decide), nI_clamp (show j < 2 ^ 31 by omega), ub_some, ul_eq, ul_eq, f_X2_digestLayers_17, if_pos (by decide), ul_eq, nI_1, dL_s]
theorem p_dy141 {x y : St} {l n : Nat} (k : St → Int64 → Int32 → Option (Int64 × St)) (hl : l < 4) (e : y 16 l = nI n) (h3 : n ≤ 3) (hr : ∀ i, i < n → x (35 + 9 * l + 6) i = y 17 (3 * l + i) ∧ x (35 + 9 * l + 7) i = y 18 (3 * l + i) ∧ x (35 + 9 * l + 8) i = y 19 (3 * l + i)) (h : Int64) : f_X10_digest_141 k fu y h (nI l) 0 = k y (dL x h l n) (nI (l + 1)) := by
  have := loop_fu (fun fuel j => f_X10_digest_141 k fuel y (dL x h l j) (nI l) (nI j)) n (k y (dL x h l n) (nI (l + 1))) (by omega) (fun fuel => ?_) (fun fuel j hj => ?_)
  · exact this
  · show f_X10_digest_141 k (fuel + 1) _ _ _ _ = _
    rw [f_X10_digest_141, ui_n hl (by decide), nI_clamp (show l < 2 ^ 31 by omega), e, if_pos (nI_le (Nat.le_refl _) (by omega)), ul_eq, nI_1]
  · right
    show f_X10_digest_141 k (fuel + 1) _ _ _ _ = f_X10_digest_141 k fuel _ _ _ _
    have e3 : (3 : Int32) * nI l + nI j = nI (3 * l + j) := by rw [show (3 : Int32) = nI 3 from by decide, pk_mul, nI_add]
    obtain ⟨g1, g2, g3⟩ := hr j hj
    rw [f_X10_digest_141, ui_n hl (by decide), nI_clamp (show l < 2 ^ 31 by omega), e, if_neg (nI_ge hj (by omega)), ul_eq, e3, ui_n (show 3 * l + j < 12 by omega) (by decide), ui_n (show 3 * l + j < 12 by omega) (by decide), ui_n (show 3 * l + j < 12 by omega) (by decide), nI_clamp (show 3 * l + j < 2 ^ 31 by omega), ul_eq, ul_eq, nI_1, ← g1, ← g2, ← g3, dL_s]
-- sheets
theorem p_ds29 {x : St} {s n : Nat} (k : St → Int64 → Int32 → Option (Int64 × St)) (hs : s < 4) (e : x 3 s = nI n) (hn : n ≤ 10) (h : Int64) : f_X5_digestFrom_29 k fu x h (nI s) 0 = k x (dl (x (4 + s)) h n) (nI (s + 1)) := by
  have := loop_fu (fun fuel j => f_X5_digestFrom_29 k fuel x (dl (x (4 + s)) h j) (nI s) (nI j)) n (k x (dl (x (4 + s)) h n) (nI (s + 1))) (by omega) (fun fuel => ?_) (fun fuel j hj => ?_)
  · exact this
  · show f_X5_digestFrom_29 k (fuel + 1) _ _ _ _ = _
    rw [f_X5_digestFrom_29, ui_n hs (by decide), nI_clamp (show s < 2 ^ 31 by omega), e, if_pos (nI_le (Nat.le_refl _) (by omega)), ul_eq, nI_1]
  · right
    show f_X5_digestFrom_29 k (fuel + 1) _ _ _ _ = f_X5_digestFrom_29 k fuel _ _ _ _
    rw [f_X5_digestFrom_29, ui_n hs (by decide), nI_clamp (show s < 2 ^ 31 by omega), e, if_neg (nI_ge hj (by omega)), ui_n hs (by decide), ui_n (show j < 10 by omega) (by decide), nI_clamp (show j < 2 ^ 31 by omega), ul_eq, ul_eq, nI_1, dl_s]
theorem p_ds29m {x : St} {s : Nat} (k : St → Int64 → Int32 → Option (Int64 × St)) (hs : s < 4) (e : x 3 s = -1) (h : Int64) : f_X5_digestFrom_29 k fu x h (nI s) 0 = k x h (nI (s + 1)) := by
  have ef : fu = 4999 + 1 := rfl
  rw [ef, f_X5_digestFrom_29, ui_n hs (by decide), nI_clamp (show s < 2 ^ 31 by omega), e, if_pos (by decide), ul_eq, nI_1]
theorem p_dsX {x y : St} (hC : RC x y) (h : Int64) : f_X5_digestFrom x h = some (dS x h 4, x) := by
  unfold f_X5_digestFrom
  have := loop_fu (fun fuel j => f_X5_digestFrom_5 fuel x (dS x h j) (nI j)) 4 (some (dS x h 4, x)) (by decide) (fun fuel => ?_) (fun fuel j hj => ?_)
  · exact this
  · show f_X5_digestFrom_5 (fuel + 1) _ _ _ = _
    rw [f_X5_digestFrom_5, if_pos (by decide)]
  · right
    show f_X5_digestFrom_5 (fuel + 1) _ _ _ = f_X5_digestFrom_5 fuel _ _ _
    have h4 : ¬ (4 : Int32) ≤ nI j := by rw [show (4 : Int32) = nI 4 from by decide]; exact nI_ge hj (by decide)
    rw [f_X5_digestFrom_5, if_neg h4, ui_n hj (by decide), nI_clamp (show j < 2 ^ 31 by omega), ul_eq, dS_s]
    rcases (hC j hj).1 with ⟨e1, -⟩ | ⟨n, hn, e1, -⟩
    · rw [p_ds29m _ hj e1, if_pos e1]
    · rw [p_ds29 _ hj e1 hn, if_neg (by rw [e1]; exact nI_m1 (by omega)), e1, nI_clamp (show n < 2 ^ 31 by omega)]
theorem p_dy250 {x y : St} {s n : Nat} (k : St → Int64 → Int32 → Option (Int64 × St)) (hs : s < 4) (e : y 3 s = nI n) (hn : n ≤ 10) (hr : ∀ j, j < 10 → x (4 + s) j = y 4 (10 * s + j)) (h : Int64) : f_X10_digest_250 k fu y h (nI s) 0 = k y (dl (x (4 + s)) h n) (nI (s + 1)) := by
  have := loop_fu (fun fuel j => f_X10_digest_250 k fuel y (dl (x (4 + s)) h j) (nI s) (nI j)) n (k y (dl (x (4 + s)) h n) (nI (s + 1))) (by omega) (fun fuel => ?_) (fun fuel j hj => ?_)
  · exact this
  · show f_X10_digest_250 k (fuel + 1) _ _ _ _ = _
    rw [f_X10_digest_250, ui_n hs (by decide), nI_clamp (show s < 2 ^ 31 by omega), e, if_pos (nI_le (Nat.le_refl _) (by omega)), ul_eq, nI_1]
  · right
    show f_X10_digest_250 k (fuel + 1) _ _ _ _ = f_X10_digest_250 k fuel _ _ _ _
    rw [f_X10_digest_250, ui_n hs (by decide), nI_clamp (show s < 2 ^ 31 by omega), e, if_neg (nI_ge hj (by omega)), e10, ui_n (show 10 * s + j < 40 by omega) (by decide), nI_clamp (show 10 * s + j < 2 ^ 31 by omega), ul_eq, ul_eq, nI_1, dl_s, ← hr j (by omega)]
theorem p_dy250m {y : St} {s : Nat} (k : St → Int64 → Int32 → Option (Int64 × St)) (hs : s < 4) (e : y 3 s = -9) (h : Int64) : f_X10_digest_250 k fu y h (nI s) 0 = k y h (nI (s + 1)) := by
  have ef : fu = 4999 + 1 := rfl
  rw [ef, f_X10_digest_250, ui_n hs (by decide), nI_clamp (show s < 2 ^ 31 by omega), e, if_pos (by decide), ul_eq, nI_1]
theorem p_dsY {x y : St} (hC : RC x y) (h : Int64) : f_X10_digest_215 fu y h 0 = some (dS x h 4, y) := by
  have := loop_fu (fun fuel j => f_X10_digest_215 fuel y (dS x h j) (nI j)) 4 (some (dS x h 4, y)) (by decide) (fun fuel => ?_) (fun fuel j hj => ?_)
  · exact this
  · show f_X10_digest_215 (fuel + 1) _ _ _ = _
    rw [f_X10_digest_215, if_pos (by decide)]
  · right
    show f_X10_digest_215 (fuel + 1) _ _ _ = f_X10_digest_215 fuel _ _ _
    have h4 : ¬ (4 : Int32) ≤ nI j := by rw [show (4 : Int32) = nI 4 from by decide]; exact nI_ge hj (by decide)
    rw [f_X10_digest_215, if_neg h4, ui_n hj (by decide), nI_clamp (show j < 2 ^ 31 by omega), ui_n hj (by decide), ul_eq, ul_eq, dS_s]
    rcases (hC j hj).1 with ⟨e1, e2⟩ | ⟨n, hn, e1, e2⟩
    · rw [if_neg (show ¬ 0 ≤ y 3 j by rw [e2]; decide), p_dy250m _ hj e2, if_pos e1, e1]
    · rw [if_pos (show 0 ≤ y 3 j by rw [e2]; exact nI_pos' (by omega)), p_dy250 _ hj e2 hn (fun q hq => ((hC j hj).2 q hq).1), if_neg (by rw [e1]; exact nI_m1 (by omega)), e1, e2, nI_clamp (show n < 2 ^ 31 by omega)]
/-- the whole digest, in one number -/
def DG (x y : St) (W : Nat) : Int64 := dS x (dLL x (dl (y 14) (dW x (dl (fun j => CT x W (nI j)) 17 6) W) 600) 4) 4
theorem op_digest {x y : St} (h : Rel x y) : ∃ (r : Int64) (x' y' : St), f_X9_digest x  = some (r, x') ∧ f_X10_digest y  = some (r, y') ∧ Rel x' y' := by
  obtain ⟨-, hB, hC, hE, -, -, hJ, W, hD, hF, hI⟩ := id h
  obtain ⟨hW, w1, w2, hwd, hst, -⟩ := id hD
  have h4 : ∀ j, j < 4 → ¬ (4 : Int32) ≤ nI j := fun j hj => by rw [show (4 : Int32) = nI 4 from by decide]; exact nI_ge hj (by decide)
  refine ⟨DG x y W, x, y, ?_, ?_, h⟩
  · have x65 : ∀ g, f_X9_digest_65 fu x g 0 = some (dS x (dLL x g 4) 4, x) := fun g => by
      have := loop_fu (fun fuel j => f_X9_digest_65 fuel x (dLL x g j) (nI j)) 4 (some (dS x (dLL x g 4) 4, x)) (by decide) (fun fuel => ?_) (fun fuel j hj => ?_)
      · exact this
      · show f_X9_digest_65 (fuel + 1) _ _ _ = _
        rw [f_X9_digest_65, if_pos (by decide), p_dsX hC, ub_some]
      · right
        show f_X9_digest_65 (fuel + 1) _ _ _ = f_X9_digest_65 fuel _ _ _
        rw [f_X9_digest_65, if_neg (h4 j hj), ui_n hj (by decide), nI_clamp (show j < 2 ^ 31 by omega), p_dlX (ly_e hF hj).1 (ly_e hF hj).2.2, ub_some, ul_eq, nI_1]
        rfl
    have x41 : ∀ g, f_X9_digest_41 fu x g 0 = some (dS x (dLL x (dl (y 14) g 600) 4) 4, x) := fun g => by
      have := loop_fu (fun fuel j => f_X9_digest_41 fuel x (dl (y 14) g (150 * j)) (nI j)) 4 (some (dS x (dLL x (dl (y 14) g 600) 4) 4, x)) (by decide) (fun fuel => ?_) (fun fuel j hj => ?_)
      · exact this
      · show f_X9_digest_41 (fuel + 1) _ _ _ = _
        rw [f_X9_digest_41, if_pos (by decide), x65]
      · right
        show f_X9_digest_41 (fuel + 1) _ _ _ = f_X9_digest_41 fuel _ _ _
        rw [f_X9_digest_41, if_neg (h4 j hj), ui_n hj (by decide), nI_clamp (show j < 2 ^ 31 by omega), p_dcX hE hj, ub_some, ul_eq, nI_1]
    unfold f_X9_digest
    rw [ul_eq]
    have := loop_fu (fun fuel j => f_X9_digest_6 fuel x (dl (fun j => CT x W (nI j)) 17 j) (nI j)) 6 (some (DG x y W, x)) (by decide) (fun fuel => ?_) (fun fuel j hj => ?_)
    · exact this
    · show f_X9_digest_6 (fuel + 1) _ _ _ = _
      rw [f_X9_digest_6, if_pos (by decide), p_dwX hB hD, ub_some, x41]
      rfl
    · right
      show f_X9_digest_6 (fuel + 1) _ _ _ = f_X9_digest_6 fuel _ _ _
      rw [f_X9_digest_6, if_neg (lt5 hj), p_counted hE hD hF, ub_some, ul_eq, ul_eq, nI_1, dl_s]
  · have y133 : ∀ g, f_X10_digest_133 fu y g 0 = some (dS x (dLL x g 4) 4, y) := fun g => by
      have := loop_fu (fun fuel j => f_X10_digest_133 fuel y (dLL x g j) (nI j)) 4 (some (dS x (dLL x g 4) 4, y)) (by decide) (fun fuel => ?_) (fun fuel j hj => ?_)
      · exact this
      · show f_X10_digest_133 (fuel + 1) _ _ _ = _
        rw [f_X10_digest_133, if_pos (by decide), p_dsY hC]
      · right
        show f_X10_digest_133 (fuel + 1) _ _ _ = f_X10_digest_133 fuel _ _ _
        obtain ⟨n, h3, e1, e2, hr, -⟩ := hF j hj
        have en : ly1 x j = n := by unfold ly1; rw [e1, nI_clamp (by omega)]
        rw [f_X10_digest_133, if_neg (h4 j hj), p_dy141 _ hj e2 h3 (fun i hi => ⟨(hr i hi).1, (hr i hi).2.1, (hr i hi).2.2.1⟩)]
        show _ = f_X10_digest_133 fuel y (dL x (dLL x g j) j (ly1 x j)) _
        rw [en]
    have y104 : ∀ g, f_X10_digest_104 fu y g 0 = some (dS x (dLL x (dl (y 14) g 600) 4) 4, y) := fun g => by
      have := loop_fu (fun fuel j => f_X10_digest_104 fuel y (dl (y 14) g j) (nI j)) 600 (some (dS x (dLL x (dl (y 14) g 600) 4) 4, y)) (by decide) (fun fuel => ?_) (fun fuel j hj => ?_)
      · exact this
      · show f_X10_digest_104 (fuel + 1) _ _ _ = _
        rw [f_X10_digest_104, if_pos (by decide), y133]
      · right
        show f_X10_digest_104 (fuel + 1) _ _ _ = f_X10_digest_104 fuel _ _ _
        have h600 : ¬ (600 : Int32) ≤ nI j := by rw [show (600 : Int32) = nI 600 from by decide]; exact nI_ge hj (by decide)
        rw [f_X10_digest_104, if_neg h600, ui_n hj (by decide), nI_clamp (show j < 2 ^ 31 by omega), ul_eq, ul_eq, nI_1, dl_s]
    have y32 : ∀ g, f_X10_digest_32 fu y g 0 = some (dS x (dLL x (dl (y 14) (dW x g W) 600) 4) 4, y) := fun g => by
      have := loop_fu (fun fuel j => f_X10_digest_32 fuel y (dW x g j) (nI j)) W (some (dS x (dLL x (dl (y 14) (dW x g W) 600) 4) 4, y)) (by omega) (fun fuel => ?_) (fun fuel j hj => ?_)
      · exact this
      · show f_X10_digest_32 (fuel + 1) _ _ _ = _
        rw [f_X10_digest_32, w2, if_pos (nI_le (Nat.le_refl _) (by omega)), y104]
      · right
        show f_X10_digest_32 (fuel + 1) _ _ _ = f_X10_digest_32 fuel _ _ _
        have es := (hst j (by omega)).1
        rw [f_X10_digest_32, w2, if_neg (nI_ge hj (by omega)), ui_n (show j < 16 by omega) (by decide), nI_clamp (show j < 2 ^ 31 by omega), ul_eq, dW_s, es]
        by_cases c : y 9 j = 0
        · rw [if_pos c, if_pos c, p_dy60 _ hB (by omega) (hwd j hj) c]
        · rw [if_neg c, if_neg c, p_dy60s _ (by omega) c]
    unfold f_X10_digest
    rw [ul_eq]
    have := loop_fu (fun fuel j => f_X10_digest_6 fuel y (dl (fun j => CT x W (nI j)) 17 j) (nI j)) 6 (some (DG x y W, y)) (by decide) (fun fuel => ?_) (fun fuel j hj => ?_)
    · exact this
    · show f_X10_digest_6 (fuel + 1) _ _ _ = _
      rw [f_X10_digest_6, if_pos (by decide), y32]
      rfl
    · right
      show f_X10_digest_6 (fuel + 1) _ _ _ = f_X10_digest_6 fuel _ _ _
      rw [f_X10_digest_6, if_neg (lt5 hj), p_tellsCount hE hJ hD hF hI, ub_some, ul_eq, ul_eq, nI_1, dl_s]
