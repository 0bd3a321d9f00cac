/-! ===== count, spread ===== -/
def KN (x : St) (l : Nat) : Nat := sm 150 (fun k => bN (kn x l k))
theorem p_sizeKnown {x y : St} {l : Nat} (hE : RE x y) (hl : l < 4) : f_X2_sizeKnown x l = some (nI (KN x l), x) := by
  unfold f_X2_sizeKnown
  have := loop_fu (fun fuel j => f_X2_sizeKnown_4 fuel x l (nI (sm (15 * j) (fun k => bN (kn x l k)))) (nI j)) 10 (some (nI (KN x l), x)) (by decide) (fun fuel => ?_) (fun fuel j hj => ?_)
  · exact this
  · show f_X2_sizeKnown_4 (fuel + 1) _ _ _ _ = _
    rw [f_X2_sizeKnown_4, if_pos (by decide)]
    rfl
  · right
    show f_X2_sizeKnown_4 (fuel + 1) _ _ _ _ = f_X2_sizeKnown_4 fuel _ _ _ _
    have h10 : ¬ (10 : Int32) ≤ nI j := by rw [show (10 : Int32) = nI 10 from by decide]; exact nI_ge hj (by decide)
    rw [f_X2_sizeKnown_4, if_neg h10, p_known hj, ub_some, p_bc (m15_knm hE hl hj), ub_some, ul_eq, ul_eq, nI_1, nI_add]
    have : pc (knm x l j) = sm 15 (fun c => bN (kn x l (15 * j + c))) := by
      unfold pc
      apply sm_congr
      intro c hc'
      rw [b_knm hc']
    rw [this, Nat.mul_succ, sm_split]
def ly1 (x : St) (l : Nat) : Nat := (x (35 + 9 * l) 4).toNatClampNeg
def CT (x : St) (W : Nat) (v : Int32) : Int32 := if v = 0 then nI W else if v = 1 then nI (sm W (th x)) else if v = 2 then nI (sm 4 (KN x)) else if v = 3 then nI (sm 4 (ly1 x)) else if v = 4 then x 80 2 else x 83 3
theorem ly_e {x y : St} {W l : Nat} (hF : RF W x y) (hl : l < 4) : x (35 + 9 * l) 4 = nI (ly1 x l) ∧ y 16 l = nI (ly1 x l) ∧ ly1 x l ≤ 3 := by
  obtain ⟨n, h3, e1, e2, -⟩ := hF l hl
  have : ly1 x l = n := by unfold ly1; rw [e1, nI_clamp (by omega)]
  rw [this]
  exact ⟨e1, e2, h3⟩
theorem p_counted {x y : St} {W : Nat} (hE : RE x y) (hD : RD W x y) (hF : RF W x y) (v : Int32) : f_X9_counted x v = some (CT x W v, x) := by
  unfold f_X9_counted CT
  rw [p_sizeThere hD, ub_some, hD.2.1]
  have c2 : f_X9_counted_54 fu x 0 0 = some (nI (sm 4 (KN x)), x) := by
    have := loop_fu (fun fuel j => f_X9_counted_54 fuel x (nI (sm j (KN x))) (nI j)) 4 (some (nI (sm 4 (KN x)), x)) (by decide) (fun fuel => ?_) (fun fuel j hj => ?_)
    · exact this
    · show f_X9_counted_54 (fuel + 1) _ _ _ = _
      rw [f_X9_counted_54, if_pos (by decide)]
    · right
      show f_X9_counted_54 (fuel + 1) _ _ _ = f_X9_counted_54 fuel _ _ _
      have h4 : ¬ (4 : Int32) ≤ nI j := by rw [show (4 : Int32) = nI 4 from by decide]; exact nI_ge hj (by decide)
      rw [f_X9_counted_54, if_neg h4, ui_n hj (by decide), nI_clamp (show j < 2 ^ 31 by omega), p_sizeKnown hE hj, ub_some, ul_eq, ul_eq, nI_1, nI_add, sm_s]
  have c3 : f_X9_counted_81 fu x 0 0 = some (nI (sm 4 (ly1 x)), x) := by
    have := loop_fu (fun fuel j => f_X9_counted_81 fuel x (nI (sm j (ly1 x))) (nI j)) 4 (some (nI (sm 4 (ly1 x)), x)) (by decide) (fun fuel => ?_) (fun fuel j hj => ?_)
    · exact this
    · show f_X9_counted_81 (fuel + 1) _ _ _ = _
      rw [f_X9_counted_81, if_pos (by decide)]
    · right
      show f_X9_counted_81 (fuel + 1) _ _ _ = f_X9_counted_81 fuel _ _ _
      have h4 : ¬ (4 : Int32) ≤ nI j := by rw [show (4 : Int32) = nI 4 from by decide]; exact nI_ge hj (by decide)
      rw [f_X9_counted_81, if_neg h4, ui_n hj (by decide), nI_clamp (show j < 2 ^ 31 by omega), (ly_e hF hj).1, ul_eq, ul_eq, nI_1, nI_add, sm_s]
  rw [c2, c3]
  by_cases g0 : v = 0
  · simp only [if_pos g0]
  · simp only [if_neg g0]
    by_cases g1 : v = 1
    · simp only [if_pos g1]
    · simp only [if_neg g1]
      by_cases g2 : v = 2
      · simp only [if_pos g2]
      · simp only [if_neg g2]
        by_cases g3 : v = 3
        · simp only [if_pos g3]
        · simp only [if_neg g3]
          by_cases g4 : v = 4
          · simp only [if_pos g4]
          · simp only [if_neg g4]
def kq (x : St) (q : Nat) : Nat := bN (kn x (q / 150) (q % 150))
theorem p_tellsCount {x y : St} {W : Nat} (hE : RE x y) (hJ : RJ x y) (hD : RD W x y) (hF : RF W x y) (hI : RI W x y) (v : Int32) : f_X10_tellsCount y v = some (CT x W v, y) := by
  obtain ⟨hW, w1, w2, hwd, hst, -⟩ := id hD
  unfold f_X10_tellsCount CT
  rw [w2]
  have c1 : f_X10_tellsCount_43 fu y 0 0 = some (nI (sm W (th x)), y) := by
    have := loop_fu (fun fuel j => f_X10_tellsCount_43 fuel y (nI (sm j (th x))) (nI j)) W (some (nI (sm W (th x)), y)) (by omega) (fun fuel => ?_) (fun fuel j hj => ?_)
    · exact this
    · show f_X10_tellsCount_43 (fuel + 1) _ _ _ = _
      rw [f_X10_tellsCount_43, w2, if_pos (nI_le (Nat.le_refl _) (by omega))]
    · right
      show f_X10_tellsCount_43 (fuel + 1) _ _ _ = f_X10_tellsCount_43 fuel _ _ _
      rw [f_X10_tellsCount_43, w2, if_neg (nI_ge hj (by omega)), ui_n (show j < 16 by omega) (by decide), nI_clamp (show j < 2 ^ 31 by omega), sm_s, ← (hst j (by omega)).1]
      simp only [ul_eq, nI_1, nI_p0]
      unfold th
      by_cases c : x 17 j = 0
      · simp only [if_pos c]
      · simp only [if_neg c, Nat.add_zero]
  have c2 : f_X10_tellsCount_78 fu y 0 0 = some (nI (sm 4 (KN x)), y) := by
    have e600 : sm 600 (kq x) = sm 4 (KN x) := by
      have : (600 : Nat) = 150 * 4 := rfl
      rw [this, sm_mul]
      apply sm_congr
      intro l hl
      unfold KN
      apply sm_congr
      intro k hk
      unfold kq
      rw [show (150 * l + k) / 150 = l by omega, show (150 * l + k) % 150 = k by omega]
    rw [← e600]
    have := loop_fu (fun fuel j => f_X10_tellsCount_78 fuel y (nI (sm j (kq x))) (nI j)) 600 (some (nI (sm 600 (kq x)), y)) (by decide) (fun fuel => ?_) (fun fuel j hj => ?_)
    · exact this
    · show f_X10_tellsCount_78 (fuel + 1) _ _ _ = _
      rw [f_X10_tellsCount_78, if_pos (by decide)]
    · right
      show f_X10_tellsCount_78 (fuel + 1) _ _ _ = f_X10_tellsCount_78 fuel _ _ _
      have h600 : ¬ (600 : Int32) ≤ nI j := by rw [show (600 : Int32) = nI 600 from by decide]; exact nI_ge hj (by decide)
      obtain ⟨v0, g1, g2, -, g4⟩ := sees hE (show j / 150 < 4 by omega) (show j % 150 < 150 by omega)
      rw [show 150 * (j / 150) + j % 150 = j by omega] at g2
      rw [f_X10_tellsCount_78, if_neg h600, ui_n hj (by decide), nI_clamp (show j < 2 ^ 31 by omega), sm_s, g2]
      simp only [ul_eq, nI_1, nI_p0]
      by_cases e : v0 = 4
      · rw [if_pos (by rw [e]; decide), show kq x j = 0 from by unfold kq; rw [g4]; simp [e, bN]]
        rfl
      · rw [if_neg (nI_nq (k := 4) (by decide) e (by omega) (by decide)), show kq x j = 1 from by unfold kq; rw [g4]; simp [e, bN]]
  have c3 : y 16 (0 : Int32).toNatClampNeg + y 16 (1 : Int32).toNatClampNeg + y 16 (2 : Int32).toNatClampNeg + y 16 (3 : Int32).toNatClampNeg = nI (sm 4 (ly1 x)) := by
    show y 16 0 + y 16 1 + y 16 2 + y 16 3 = _
    rw [(ly_e hF (show 0 < 4 by omega)).2.1, (ly_e hF (show 1 < 4 by omega)).2.1, (ly_e hF (show 2 < 4 by omega)).2.1, (ly_e hF (show 3 < 4 by omega)).2.1, nI_add, nI_add, nI_add]
    simp only [sm, Nat.zero_add]
  obtain ⟨n1, -, q1, q2, -⟩ := hI
  obtain ⟨n2, -, q3, q4, -⟩ := hJ
  rw [c1, c2, c3, q1, q2, q3, q4]
  by_cases g0 : v = 0
  · simp only [if_pos g0]
  · simp only [if_neg g0]
    by_cases g1 : v = 1
    · simp only [if_pos g1]
    · simp only [if_neg g1]
      by_cases g2 : v = 2
      · simp only [if_pos g2]
      · simp only [if_neg g2]
        by_cases g3 : v = 3
        · simp only [if_pos g3]
        · simp only [if_neg g3]
          by_cases g4 : v = 4
          · simp only [if_pos g4]
          · simp only [if_neg g4]
theorem op_count {x y : St} (h : Rel x y) (a1 : Int32) : ∃ (r : Int32) (x' y' : St), f_X9_count x a1 = some (r, x') ∧ f_X10_count y a1 = some (r, y') ∧ Rel x' y' := by
  obtain ⟨W, hD, hF, hI⟩ := h.2.2.2.2.2.2.2
  unfold f_X9_count f_X10_count
  rw [p_counted h.2.2.2.1 hD hF, p_in, ub_some, ub_some, p_tellsCount h.2.2.2.1 h.2.2.2.2.2.2.1 hD hF hI, ub_some]
  simp only [bI_z, ite_not, i_lt, i_le]
  rw [show (0 : Int32).toInt = 0 from by decide, show (5 : Int32).toInt = 5 from by decide]
  by_cases h1 : 0 ≤ a1.toInt ∧ a1.toInt ≤ 5
  · rw [if_neg (show ¬ a1.toInt < 0 by omega), if_pos h1.2, if_pos h1]; exact ⟨_, _, _, rfl, rfl, h⟩
  · rw [if_neg h1]
    by_cases g : a1.toInt < 0
    · rw [if_pos g]; exact ⟨_, _, _, rfl, rfl, h⟩
    · rw [if_neg g, if_neg (show ¬ a1.toInt ≤ 5 by omega)]; exact ⟨_, _, _, rfl, rfl, h⟩
-- spread
def tr1 (x : St) (l v : Int32) (i : Nat) : Nat := if x 81 i = l then (if x 82 i = v then 1 else 0) else 0
def TR (x : St) (n : Nat) (l v : Int32) : Int32 := nI (sm n (tr1 x l v))
theorem p_times {x z : St} {n : Nat} (hn : n ≤ 12) (e : z 80 2 = nI n) (e1 : z 81 = x 81) (e2 : z 82 = x 82) (l v : Int32) : f_X0_timesRead z l v = some (TR x n l v, z) := by
  unfold f_X0_timesRead TR
  have := loop_fu (fun fuel j => f_X0_timesRead_5 fuel z l v (nI (sm j (tr1 x l v))) (nI j)) n (some (nI (sm n (tr1 x l v)), z)) (by omega) (fun fuel => ?_) (fun fuel j hj => ?_)
  · exact this
  · show f_X0_timesRead_5 (fuel + 1) _ _ _ _ _ = _
    rw [f_X0_timesRead_5, e, if_pos (nI_le (Nat.le_refl _) (by omega))]
  · right
    show f_X0_timesRead_5 (fuel + 1) _ _ _ _ _ = f_X0_timesRead_5 fuel _ _ _ _ _
    rw [f_X0_timesRead_5, e, if_neg (nI_ge hj (by omega)), ui_n (show j < 12 by omega) (by decide), ui_n (show j < 12 by omega) (by decide), nI_clamp (show j < 2 ^ 31 by omega), sm_s, e1, e2]
    simp only [ul_eq, nI_1]
    unfold tr1
    by_cases c : x 81 j = l
    · simp only [if_pos c]
      by_cases d : x 82 j = v
      · simp only [if_pos d]
      · simp only [if_neg d, Nat.add_zero]
    · simp only [if_neg c, Nat.add_zero]
def spr (x : St) (n : Nat) (l : Int32) : Nat → Int32 × Int32 × Int32
  | 0 => (0, -9, 0)
  | j + 1 => (if TR x n l (nI j) ≤ 0 then (spr x n l j).1 else (spr x n l j).1 + 1, if TR x n l (nI j) ≤ (spr x n l j).2.2 then (spr x n l j).2.1 else nI j, if TR x n l (nI j) ≤ (spr x n l j).2.2 then (spr x n l j).2.2 else TR x n l (nI j))
theorem us_us {x : St} {k j : Nat} {a b : Int32} : us (us x k j a) k j b = us x k j b := by
  funext q
  unfold us
  by_cases h : q = k
  · rw [if_pos h, if_pos h, if_pos rfl, upd_upd]
  · rw [if_neg h, if_neg h, if_neg h]
theorem p_spreadX {x : St} {n W : Nat} (hn : n ≤ 12) (hW : W ≤ 16) (e : x 80 2 = nI n) (w1 : x 8 9 = nI W) (l : Int32) : f_X9_spread_22 fu (us x 0 13 (-9)) l 0 0 0 = some ((spr x n l W).1, us x 0 13 (spr x n l W).2.1) := by
  have := loop_fu (fun fuel j => f_X9_spread_22 fuel (us x 0 13 (spr x n l j).2.1) l (spr x n l j).1 (spr x n l j).2.2 (nI j)) W (some ((spr x n l W).1, us x 0 13 (spr x n l W).2.1)) (by omega) (fun fuel => ?_) (fun fuel j hj => ?_)
  · exact this
  · show f_X9_spread_22 (fuel + 1) _ _ _ _ _ = _
    rw [f_X9_spread_22, us_d (k := 0) (q := 8) rfl, w1, if_pos (nI_le (Nat.le_refl _) (by omega))]
  · right
    show f_X9_spread_22 (fuel + 1) _ _ _ _ _ = f_X9_spread_22 fuel _ _ _ _ _
    rw [f_X9_spread_22, us_d (k := 0) (q := 8) rfl, w1, if_neg (nI_ge hj (by omega)), p_times (x := x) hn (by rw [us_d (k := 0) (q := 80) rfl]; exact e) (us_n (by omega)) (us_n (by omega)), ub_some]
    simp only [ul_eq, nI_1, us_us]
    show _ = f_X9_spread_22 fuel (us x 0 13 (if TR x n l (nI j) ≤ (spr x n l j).2.2 then (spr x n l j).2.1 else nI j)) l (if TR x n l (nI j) ≤ 0 then (spr x n l j).1 else (spr x n l j).1 + 1) (if TR x n l (nI j) ≤ (spr x n l j).2.2 then (spr x n l j).2.2 else TR x n l (nI j)) (nI (j + 1))
    by_cases c : TR x n l (nI j) ≤ 0
    · simp only [if_pos c]
      by_cases d : TR x n l (nI j) ≤ (spr x n l j).2.2
      · simp only [if_pos d]
      · simp only [if_neg d]
    · simp only [if_neg c]
      by_cases d : TR x n l (nI j) ≤ (spr x n l j).2.2
      · simp only [if_pos d]
      · simp only [if_neg d]
theorem p_spread35 {x y : St} {n : Nat} (k : St → Int32 → Int32 → Int32 → Int32 → Int32 → Option (Int32 × St)) (hn : n ≤ 12) (e : y 0 37 = nI n) (hr : ∀ i, i < n → x 81 i = y 29 i ∧ x 82 i = y 30 i) (l u b m : Int32) (j : Nat) : f_X10_spread_35 k fu y l u b m (nI j) 0 0 = k y l (if TR x n l (nI j) ≤ 0 then u else u + 1) (if TR x n l (nI j) ≤ m then b else nI j) (if TR x n l (nI j) ≤ m then m else TR x n l (nI j)) (nI (j + 1)) := by
  have := loop_fu (fun fuel i => f_X10_spread_35 k fuel y l u b m (nI j) (nI (sm i (tr1 x l (nI j)))) (nI i)) n (k y l (if TR x n l (nI j) ≤ 0 then u else u + 1) (if TR x n l (nI j) ≤ m then b else nI j) (if TR x n l (nI j) ≤ m then m else TR x n l (nI j)) (nI (j + 1))) (by omega) (fun fuel => ?_) (fun fuel i hi => ?_)
  · exact this
  · show f_X10_spread_35 k (fuel + 1) _ _ _ _ _ _ _ _ = _
    have eT : nI (sm n (tr1 x l (nI j))) = TR x n l (nI j) := rfl
    rw [f_X10_spread_35, e, if_pos (nI_le (Nat.le_refl _) (by omega)), eT]
    unfold f_X10_spread_94
    simp only [ul_eq, nI_1, nI_p0]
    by_cases c : TR x n l (nI j) ≤ 0
    · simp only [if_pos c]
      by_cases d : TR x n l (nI j) ≤ m
      · simp only [if_pos d]
      · simp only [if_neg d]
    · simp only [if_neg c]
      by_cases d : TR x n l (nI j) ≤ m
      · simp only [if_pos d]
      · simp only [if_neg d]
  · right
    show f_X10_spread_35 k (fuel + 1) _ _ _ _ _ _ _ _ = f_X10_spread_35 k fuel _ _ _ _ _ _ _ _
    rw [f_X10_spread_35, e, if_neg (nI_ge hi (by omega)), ui_n (show i < 12 by omega) (by decide), ui_n (show i < 12 by omega) (by decide), nI_clamp (show i < 2 ^ 31 by omega), sm_s, ← (hr i hi).1, ← (hr i hi).2]
    simp only [ul_eq, nI_1, nI_p0]
    unfold tr1
    by_cases c : x 81 i = l
    · simp only [if_pos c]
      by_cases d : x 82 i = nI j
      · simp only [if_pos d]
      · simp only [if_neg d, Nat.add_zero]
    · simp only [if_neg c, Nat.add_zero]
theorem op_spread {x y : St} (h : Rel x y) (a1 : Int32) : ∃ (r : Int32) (x' y' : St), f_X9_spread x a1 = some (r, x') ∧ f_X10_spread y a1 = some (r, y') ∧ Rel x' y' := by
  obtain ⟨W, hD, -, hI⟩ := h.2.2.2.2.2.2.2
  obtain ⟨hW, w1, w2, -⟩ := id hD
  obtain ⟨n, hn, e1, e2, hr⟩ := hI
  unfold f_X9_spread f_X10_spread
  simp only [p_isLine, p_mLine, ub_some, bI_z, ite_not, ul_eq]
  by_cases h1 : 0 ≤ a1.toInt ∧ a1.toInt ≤ 3
  · rw [if_pos h1, if_pos h1, p_spreadX hn hW e1 w1]
    have hy : f_X10_spread_20 fu y a1 0 (-9) 0 0 = some ((spr x n a1 W).1, us y 0 2 (spr x n a1 W).2.1) := by
      have := loop_fu (fun fuel j => f_X10_spread_20 fuel y a1 (spr x n a1 j).1 (spr x n a1 j).2.1 (spr x n a1 j).2.2 (nI j)) W (some ((spr x n a1 W).1, us y 0 2 (spr x n a1 W).2.1)) (by omega) (fun fuel => ?_) (fun fuel j hj => ?_)
      · exact this
      · show f_X10_spread_20 (fuel + 1) _ _ _ _ _ _ = _
        rw [f_X10_spread_20, w2, if_pos (nI_le (Nat.le_refl _) (by omega)), ul_eq]
      · right
        show f_X10_spread_20 (fuel + 1) _ _ _ _ _ _ = f_X10_spread_20 fuel _ _ _ _ _ _
        rw [f_X10_spread_20, w2, if_neg (nI_ge hj (by omega)), p_spread35 (x := x) _ hn e2 (fun i hi => ⟨(hr i hi).1, (hr i hi).2.1⟩)]
        rfl
    rw [hy]
    refine ⟨_, _, _, rfl, rfl, Rel_K (x := x) (y := y) (fun q q1 q2 => us_n (by omega)) ⟨fun q q1 q2 _ _ _ _ => us_n (by omega), rfl, rfl, rfl, rfl, rfl, rfl, rfl⟩ ⟨h.1.1, ?_, h.1.2.2⟩ h⟩
    rw [us_at, us_at]
  · rw [if_neg h1, if_neg h1]; exact ⟨_, _, _, rfl, rfl, h⟩
