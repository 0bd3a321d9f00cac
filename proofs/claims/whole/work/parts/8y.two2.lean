/-! ===== TWO through one another: the reference's search ===== -/
def YB (y σ : St) (l : Nat) : Prop := (∀ q, q ≠ 0 → q < 16 ∨ 21 < q → σ q = y q) ∧ (∀ i, i ≠ 24 → σ 0 i = y 0 i) ∧ (∀ i, i ≠ l → σ 16 i = y 16 i) ∧ (∀ i, i < 3 * l ∨ 3 * l + 3 ≤ i → σ 17 i = y 17 i ∧ σ 18 i = y 18 i ∧ σ 19 i = y 19 i) ∧ (∀ j, j < 3 → σ 21 (3 * j) = y 17 (3 * l + j) ∧ σ 21 (3 * j + 1) = y 18 (3 * l + j) ∧ σ 21 (3 * j + 2) = y 19 (3 * l + j)) ∧ σ 21 9 = y 16 l
def fP (f : Bool) (c d : Nat) : Nat := if f = true then c else d
def YE (σ : St) (a b : Nat) (st : Option (Int32 × Nat × Nat × Bool)) : Prop := (st = none → σ 0 24 = -9) ∧ ∀ v c d f, st = some (v, c, d, f) → σ 0 24 = v ∧ σ 20 0 = nI (fP f c d / 10) ∧ σ 20 1 = nI (fP f c d % 10) ∧ σ 20 2 = nI (fP f a b) ∧ σ 20 3 = nI (fP f d c / 10) ∧ σ 20 4 = nI (fP f d c % 10) ∧ σ 20 5 = nI (fP f b a)
def RS (y σ : St) : Prop := (∀ q, q ≠ 0 → q ≠ 20 → q ≠ 21 → σ q = y q) ∧ (∀ i, i ≠ 24 → σ 0 i = y 0 i)
theorem YB_w {x y σ : St} {W l : Nat} (h : YB y σ l) (hB : RB x y) (hE : RE x y) (hD : RD W x y) : RB x σ ∧ RE x σ ∧ (∀ w, w < W → wordOK x σ w) ∧ σ 0 7 = nI W ∧ σ 9 = y 9 := by
  have hq : ∀ q, q ≠ 0 → q < 16 ∨ 21 < q → σ q = y q := h.1
  exact ⟨RB_of rfl (hq _ (by omega) (by omega)) hB, RE_of (fun _ _ _ _ => rfl) (hq _ (by omega) (by omega)) hE, fun w hw => wordOK_of rfl rfl rfl rfl rfl rfl rfl (hq _ (by omega) (by omega)) (hq _ (by omega) (by omega)) (hq _ (by omega) (by omega)) (hq _ (by omega) (by omega)) (hq _ (by omega) (by omega)) (hq _ (by omega) (by omega)) (hq _ (by omega) (by omega)) (hD.2.2.2.1 w hw), (h.2.1 7 (by omega)).trans hD.2.2.1, hq _ (by omega) (by omega)⟩
theorem p_save {y : St} {l : Nat} (hl : l < 4) : ∃ σ, f_X10_keepLayers y (nI l) 0 = some ((), σ) ∧ (∀ q, q ≠ 21 → σ q = y q) ∧ (∀ j, j < 3 → σ 21 (3 * j) = y 17 (3 * l + j) ∧ σ 21 (3 * j + 1) = y 18 (3 * l + j) ∧ σ 21 (3 * j + 2) = y 19 (3 * l + j)) ∧ σ 21 9 = y 16 l := by
  unfold f_X10_keepLayers
  refine loop_J (fun fuel i (σ : St) => f_X10_keepLayers_2 fuel σ (nI l) 0 (nI i)) 3 (fun i σ => (∀ q, q ≠ 21 → σ q = y q) ∧ ∀ j, j < i → σ 21 (3 * j) = y 17 (3 * l + j) ∧ σ 21 (3 * j + 1) = y 18 (3 * l + j) ∧ σ 21 (3 * j + 2) = y 19 (3 * l + j)) (fun r => ∃ σ, r = some ((), σ) ∧ (∀ q, q ≠ 21 → σ q = y q) ∧ (∀ j, j < 3 → σ 21 (3 * j) = y 17 (3 * l + j) ∧ σ 21 (3 * j + 1) = y 18 (3 * l + j) ∧ σ 21 (3 * j + 2) = y 19 (3 * l + j)) ∧ σ 21 9 = y 16 l) (by decide) y ⟨fun q _ => rfl, fun j hj => absurd hj (by omega)⟩ (fun fuel σ hI => ?_) (fun fuel i σ hi hI => ?_)
  · show ∃ σ', f_X10_keepLayers_2 (fuel + 1) σ (nI l) 0 (nI 3) = _ ∧ _
    obtain ⟨h1, h2⟩ := hI
    rw [f_X10_keepLayers_2, if_pos (by decide), if_pos rfl, ui_n hl (by decide), nI_clamp (show l < 2 ^ 31 by omega), ul_eq, h1 16 (by omega)]
    refine ⟨_, rfl, fun q hq => by rw [us_n hq]; exact h1 q hq, fun j hj => ?_, us_at⟩
    show upd (σ 21) 9 _ (3 * j) = _ ∧ upd (σ 21) 9 _ (3 * j + 1) = _ ∧ upd (σ 21) 9 _ (3 * j + 2) = _
    unfold upd
    rw [if_neg (by omega), if_neg (by omega), if_neg (by omega)]
    exact h2 j hj
  · right
    show ∃ σ', _ ∧ f_X10_keepLayers_2 (fuel + 1) σ (nI l) 0 (nI i) = f_X10_keepLayers_2 fuel σ' (nI l) 0 (nI (i + 1))
    obtain ⟨h1, h2⟩ := hI
    have h3 : ¬ (3 : Int32) ≤ nI i := by rw [show (3 : Int32) = nI 3 from by decide]; exact nI_ge hi (by decide)
    have m0 : (3 : Int32) * nI i = nI (3 * i) := by rw [show (3 : Int32) = nI 3 from by decide, pk_mul]
    have m1 : (3 : Int32) * nI i + 1 = nI (3 * i + 1) := by rw [m0, nI_1]
    have m2 : (3 : Int32) * nI i + 2 = nI (3 * i + 2) := by rw [m0, show (2 : Int32) = nI 2 from by decide, nI_add]
    have d17 : σ 17 = y 17 := h1 17 (by omega)
    have d18 : σ 18 = y 18 := h1 18 (by omega)
    have d19 : σ 19 = y 19 := h1 19 (by omega)
    rw [f_X10_keepLayers_2, if_neg h3, ul_eq, if_pos rfl, e3l, m1, m2, m0]
    simp only [ul_eq, ui_n (show 3 * l + i < 12 by omega) (show 12 < 2 ^ 31 by decide), ui_n (show 3 * i < 10 by omega) (show 10 < 2 ^ 31 by decide), ui_n (show 3 * i + 1 < 10 by omega) (show 10 < 2 ^ 31 by decide), ui_n (show 3 * i + 2 < 10 by omega) (show 10 < 2 ^ 31 by decide), nI_clamp (show 3 * l + i < 2 ^ 31 by omega), nI_clamp (show 3 * i < 2 ^ 31 by omega), nI_clamp (show 3 * i + 1 < 2 ^ 31 by omega), nI_clamp (show 3 * i + 2 < 2 ^ 31 by omega), us_d (k := 21) (q := 18) rfl, us_d (k := 21) (q := 19) rfl, d17, d18, d19, nI_1]
    refine ⟨_, ⟨fun q hq => by rw [us_n hq, us_n hq, us_n hq]; exact h1 q hq, fun j hj => ?_⟩, rfl⟩
    show upd (upd (upd (σ 21) (3 * i) _) (3 * i + 1) _) (3 * i + 2) _ (3 * j) = _ ∧ upd (upd (upd (σ 21) (3 * i) _) (3 * i + 1) _) (3 * i + 2) _ (3 * j + 1) = _ ∧ upd (upd (upd (σ 21) (3 * i) _) (3 * i + 1) _) (3 * i + 2) _ (3 * j + 2) = _
    unfold upd
    by_cases e : j = i
    · subst e
      rw [if_neg (by omega), if_neg (by omega), if_pos rfl, if_neg (by omega), if_pos rfl, if_pos rfl]
      exact ⟨rfl, rfl, rfl⟩
    · rw [if_neg (by omega), if_neg (by omega), if_neg (by omega), if_neg (by omega), if_neg (by omega), if_neg (by omega), if_neg (by omega), if_neg (by omega), if_neg (by omega)]
      exact h2 j (by omega)
theorem p_back {y σ0 : St} {l : Nat} (hl : l < 4) (h : YB y σ0 l) : ∃ σ, f_X10_keepLayers σ0 (nI l) 1 = some ((), σ) ∧ RS y σ := by
  obtain ⟨b1, b2, b3, b4, b5, b6⟩ := h
  unfold f_X10_keepLayers
  refine loop_J (fun fuel i (σ : St) => f_X10_keepLayers_2 fuel σ (nI l) 1 (nI i)) 3 (fun i σ => (∀ q, q ≠ 17 → q ≠ 18 → q ≠ 19 → σ q = σ0 q) ∧ (∀ j, j < 3 * l + i ∨ 3 * l + 3 ≤ j → σ 17 j = y 17 j ∧ σ 18 j = y 18 j ∧ σ 19 j = y 19 j)) (fun r => ∃ σ, r = some ((), σ) ∧ RS y σ) (by decide) σ0 ⟨fun q _ _ _ => rfl, fun j hj => b4 j (by omega)⟩ (fun fuel σ hI => ?_) (fun fuel i σ hi hI => ?_)
  · show ∃ σ', f_X10_keepLayers_2 (fuel + 1) σ (nI l) 1 (nI 3) = _ ∧ _
    obtain ⟨h1, h2⟩ := hI
    have e21 : σ 21 (9 : Int32).toNatClampNeg = y 16 l := by
      show σ 21 9 = _
      rw [h1 21 (by omega) (by omega) (by omega)]; exact b6
    rw [f_X10_keepLayers_2, if_pos (by decide), if_neg (by decide), ui_n hl (by decide), nI_clamp (show l < 2 ^ 31 by omega), ul_eq, e21]
    refine ⟨_, rfl, fun q q0 q20 q21 => ?_, fun i hi => ?_⟩
    · by_cases g16 : q = 16
      · subst g16
        funext i
        rw [us_e, h1 16 (by omega) (by omega) (by omega)]
        unfold upd
        by_cases e : i = l
        · rw [if_pos e, e]
        · rw [if_neg e]; exact b3 i e
      · rw [us_n g16]
        by_cases g17 : q = 17
        · subst g17; exact funext (fun j => (h2 j (by omega)).1)
        · by_cases g18 : q = 18
          · subst g18; exact funext (fun j => (h2 j (by omega)).2.1)
          · by_cases g19 : q = 19
            · subst g19; exact funext (fun j => (h2 j (by omega)).2.2)
            · rw [h1 q g17 g18 g19]; exact b1 q q0 (by omega)
    · rw [us_n (by omega), h1 0 (by omega) (by omega) (by omega)]; exact b2 i hi
  · right
    show ∃ σ', _ ∧ f_X10_keepLayers_2 (fuel + 1) σ (nI l) 1 (nI i) = f_X10_keepLayers_2 fuel σ' (nI l) 1 (nI (i + 1))
    obtain ⟨h1, h2⟩ := hI
    have h3 : ¬ (3 : Int32) ≤ nI i := by rw [show (3 : Int32) = nI 3 from by decide]; exact nI_ge hi (by decide)
    have m0 : (3 : Int32) * nI i = nI (3 * i) := by rw [show (3 : Int32) = nI 3 from by decide, pk_mul]
    have m1 : (3 : Int32) * nI i + 1 = nI (3 * i + 1) := by rw [m0, nI_1]
    have m2 : (3 : Int32) * nI i + 2 = nI (3 * i + 2) := by rw [m0, show (2 : Int32) = nI 2 from by decide, nI_add]
    have d21 : σ 21 = σ0 21 := h1 21 (by omega) (by omega) (by omega)
    obtain ⟨s1, s2', s3⟩ := b5 i hi
    rw [f_X10_keepLayers_2, if_neg h3, ul_eq, if_neg (by decide), e3l, m1, m2, m0]
    simp only [ul_eq, ui_n (show 3 * l + i < 12 by omega) (show 12 < 2 ^ 31 by decide), ui_n (show 3 * i < 10 by omega) (show 10 < 2 ^ 31 by decide), ui_n (show 3 * i + 1 < 10 by omega) (show 10 < 2 ^ 31 by decide), ui_n (show 3 * i + 2 < 10 by omega) (show 10 < 2 ^ 31 by decide), nI_clamp (show 3 * l + i < 2 ^ 31 by omega), nI_clamp (show 3 * i < 2 ^ 31 by omega), nI_clamp (show 3 * i + 1 < 2 ^ 31 by omega), nI_clamp (show 3 * i + 2 < 2 ^ 31 by omega), us_d (k := 17) (q := 21) rfl, us_d (k := 18) (q := 21) rfl, d21, s1, s2', s3, nI_1]
    refine ⟨_, ⟨fun q q17 q18 q19 => by rw [us_n q19, us_n q18, us_n q17]; exact h1 q q17 q18 q19, fun j hj => ?_⟩, rfl⟩
    show upd (σ 17) (3 * l + i) _ j = _ ∧ upd (σ 18) (3 * l + i) _ j = _ ∧ upd (σ 19) (3 * l + i) _ j = _
    unfold upd
    by_cases e : j = 3 * l + i
    · rw [if_pos e, if_pos e, if_pos e, e]; exact ⟨rfl, rfl, rfl⟩
    · rw [if_neg e, if_neg e, if_neg e]; exact h2 j (by omega)
theorem d10 {c : Nat} (h : c < 2 ^ 31) : nI c / 10 = nI (c / 10) ∧ nI c - nI c / 10 * 10 = nI (c % 10) := by
  rw [show (10 : Int32) = nI 10 from by decide]
  exact ⟨pk_div h (by decide) (by decide), pk_rem h (by decide) (by decide)⟩
theorem p_can {x y σ : St} {W l u c : Nat} (h : YB y σ l) (hB : RB x y) (hE : RE x y) (hD : RD W x y) (hl : l < 4) (hu : u < 4) (hc : c < 10 * W) : f_X10_can σ (nI l) (nI c) (nI u) = some (iB (vld x l u c), σ) := by
  obtain ⟨hB', hE', hw', -, h9⟩ := YB_w h hB hE hD
  have hW := hD.1
  have h16 : c / 10 < 16 := by omega
  have hk := hw' (c / 10) (by omega)
  obtain ⟨q1, q2⟩ := d10 (c := c) (by omega)
  unfold f_X10_can
  rw [ul_eq, q2, q1, ui_n h16 (by decide), nI_clamp (show c / 10 < 2 ^ 31 by omega), h9, ← (hD.2.2.2.2.1 (c / 10) h16).1, p_onY h16 hk, ub_some, nI_toInt (show c % 10 < 2 ^ 31 by omega), p_lackOf hB' hE' hl h16 hk (by omega) hu, ub_some]
  simp only [bI_z, ite_not]
  have ev : vld x l u c = ((decide (x 17 (c / 10) = 0) && decide (c % 10 + ln x (c / 10) ≤ 10)) && decide (¬ LK x l (c / 10) (c % 10) u = -9)) := rfl
  rw [ev]
  by_cases g1 : x 17 (c / 10) = 0
  · rw [if_pos g1]
    by_cases g2 : c % 10 + ln x (c / 10) ≤ 10
    · rw [if_pos (by omega)]
      by_cases g3 : LK x l (c / 10) (c % 10) u = -9
      · rw [if_pos g3]; simp [g3, iB]
      · rw [if_neg g3]; simp [g1, g2, g3, iB]
    · rw [if_neg (by omega)]; simp [g2, iB]
  · rw [if_neg g1]; simp [g1, iB]
/-- a pair is tried -/
theorem p_try {x y σ : St} {W l a b c d : Nat} {f : Bool} {st : Option (Int32 × Nat × Nat × Bool)} {t : Bool} {v : Int32} (hB : RB x y) (hE : RE x y) (hD : RD W x y) (hl : l < 4) (ha : 1 ≤ a ∧ a ≤ 3) (hb : 1 ≤ b ∧ b ≤ 3) (hab : a ≠ b) (hc : c < 10 * W) (hd : d < 10 * W) (va : vld x l a c = true) (vb : vld x l b d = true) (ht : t = anyN 150 (sn x l (6 - a - b))) (hv : v = if f = true then S1 x l b c d else S2 x l a c d) (hY : YB y σ l) (hS : YE σ a b (if t = true then none else st)) (hO : okS (vld x l a) (vld x l b) (10 * W) st) : ∃ σ', f_X10_tryTwo σ (nI l) (nI (fP f c d / 10)) (nI (fP f c d % 10)) (nI (fP f a b)) (nI (fP f d c / 10)) (nI (fP f d c % 10)) (nI (fP f b a)) = some ((), σ') ∧ YB y σ' l ∧ YE σ' a b (if t = true then none else tk st v c d f) := by
  have hW := hD.1
  have hvn : ∃ m, m ≤ 300 ∧ v = nI m := by
    rw [hv]
    cases f
    · exact S2_n (vld_n9 va)
    · exact S1_n (vld_n9 vb)
  generalize hp : fP f c d = p
  generalize hq : fP f d c = q
  generalize hu : fP f a b = u
  generalize hw : fP f b a = w
  have hp' : p < 10 * W := by rw [← hp]; unfold fP; split <;> omega
  have hq' : q < 10 * W := by rw [← hq]; unfold fP; split <;> omega
  have hu' : 1 ≤ u ∧ u ≤ 3 := by rw [← hu]; unfold fP; split <;> omega
  have hw' : 1 ≤ w ∧ w ≤ 3 := by rw [← hw]; unfold fP; split <;> omega
  have huw : u ≠ w := by rw [← hu, ← hw]; unfold fP; split <;> omega
  have h6 : 6 - u - w = 6 - a - b := by rw [← hu, ← hw]; unfold fP; split <;> omega
  have lp : ¬ lk x l u p = -9 := by
    rw [← hu, ← hp]
    cases f
    · exact vld_n9 vb
    · exact vld_n9 va
  have lq : ¬ lk x l w q = -9 := by
    rw [← hw, ← hq]
    cases f
    · exact vld_n9 va
    · exact vld_n9 vb
  have hSv : nI (BR x l (p / 10) (p % 10)) + lk x l w q = v := by
    rw [hv, ← hp, ← hq, ← hw]
    cases f
    · show nI (BR x l (d / 10) (d % 10)) + lk x l a c = S2 x l a c d
      unfold S2
      exact Int32.add_comm _ _
    · rfl
  obtain ⟨y1, y2, y3, y4, y5, y6⟩ := hY
  have z0 : us σ 16 l 0 16 l = nI 0 := by rw [us_at, nI_0]
  unfold f_X10_tryTwo
  rw [ui_n hl (by decide), nI_clamp (show l < 2 ^ 31 by omega), ul_eq, p_lays hl z0 (by omega), ub_some]
  have z1 : alY (us σ 16 l 0) l 0 (nI (p / 10)) (nI (p % 10)) (nI u) 16 l = nI 1 := us_at
  rw [p_lays hl z1 (by omega), ub_some]
  generalize hτ : alY (alY (us σ 16 l 0) l 0 (nI (p / 10)) (nI (p % 10)) (nI u)) l 1 (nI (q / 10)) (nI (q % 10)) (nI w) = τ
  have t0 : ∀ k, k < 16 ∨ 19 < k → τ k = σ k := fun k hk => by
    rw [← hτ, alY_n hk, alY_n hk, us_n (by omega)]
  have t16 : τ 16 = upd (upd (upd (σ 16) l 0) l (nI 1)) l (nI 2) := by rw [← hτ]; rfl
  have t17 : τ 17 = upd (upd (σ 17) (3 * l + 0) (nI (p / 10))) (3 * l + 1) (nI (q / 10)) := by rw [← hτ]; rfl
  have t18 : τ 18 = upd (upd (σ 18) (3 * l + 0) (nI (p % 10))) (3 * l + 1) (nI (q % 10)) := by rw [← hτ]; rfl
  have t19 : τ 19 = upd (upd (σ 19) (3 * l + 0) (nI u)) (3 * l + 1) (nI w) := by rw [← hτ]; rfl
  have hYτ : YB y τ l := by
    refine ⟨fun k k0 hk => by rw [t0 k (by omega)]; exact y1 k k0 hk, fun i hi => by rw [t0 0 (by omega)]; exact y2 i hi, fun i hi => ?_, fun i hi => ?_, fun j hj => by rw [t0 21 (by omega)]; exact y5 j hj, by rw [t0 21 (by omega)]; exact y6⟩
    · rw [t16]; unfold upd; rw [if_neg hi, if_neg hi, if_neg hi]; exact y3 i hi
    · rw [t17, t18, t19]; unfold upd
      rw [if_neg (by omega), if_neg (by omega), if_neg (by omega), if_neg (by omega), if_neg (by omega), if_neg (by omega)]
      exact y4 i hi
  have hEτ : ∀ s, YE σ a b s → YE τ a b s := fun s hs => by
    unfold YE
    rw [t0 0 (by omega), t0 20 (by omega)]
    exact hs
  obtain ⟨hB', hE', hwk, -, -⟩ := YB_w hYτ hB hE hD
  have hL : ∀ j, j < 2 → τ 17 (3 * l + j) = nI (w2 p q j) ∧ τ 18 (3 * l + j) = nI (s2 p q j) ∧ τ 19 (3 * l + j) = nI (c2 u w j) ∧ w2 p q j < 16 ∧ wordOK x τ (w2 p q j) ∧ s2 p q j < 16 ∧ (1 ≤ c2 u w j ∧ c2 u w j ≤ 3) := fun j hj => by
    have : j = 0 ∨ j = 1 := by omega
    rcases this with rfl | rfl
    · have a17 : τ 17 (3 * l + 0) = nI (p / 10) := by rw [t17]; unfold upd; rw [if_neg (show ¬ 3 * l + 0 = 3 * l + 1 by omega), if_pos rfl]
      have a18 : τ 18 (3 * l + 0) = nI (p % 10) := by rw [t18]; unfold upd; rw [if_neg (show ¬ 3 * l + 0 = 3 * l + 1 by omega), if_pos rfl]
      have a19 : τ 19 (3 * l + 0) = nI u := by rw [t19]; unfold upd; rw [if_neg (show ¬ 3 * l + 0 = 3 * l + 1 by omega), if_pos rfl]
      exact ⟨a17, a18, a19, (by show p / 10 < 16; omega), hwk (p / 10) (by omega), (by show p % 10 < 16; omega), hu'⟩
    · have a17 : τ 17 (3 * l + 1) = nI (q / 10) := by rw [t17]; unfold upd; rw [if_pos rfl]
      have a18 : τ 18 (3 * l + 1) = nI (q % 10) := by rw [t18]; unfold upd; rw [if_pos rfl]
      have a19 : τ 19 (3 * l + 1) = nI w := by rw [t19]; unfold upd; rw [if_pos rfl]
      exact ⟨a17, a18, a19, (by show q / 10 < 16; omega), hwk (q / 10) (by omega), (by show q % 10 < 16; omega), hw'⟩
  have e16 : τ 16 l = nI 2 := by rw [t16]; unfold upd; rw [if_pos rfl]
  rw [p_fadedOf (w := w2 p q) (s := s2 p q) (c := c2 u w) hB' hE' hl (by omega) e16 hL (fun i j hi hj e => by
    unfold c2 at e
    have i2 : i = 0 ∨ i = 1 := by omega
    have j2 : j = 0 ∨ j = 1 := by omega
    rcases i2 with rfl | rfl <;> rcases j2 with rfl | rfl <;> simp at e ⊢
    · exact huw e
    · exact huw e.symm), ub_some, FD_two hE hl hu' hw' huw lp lq, h6, ← ht, hSv]
  have new : ∃ σ', f_X10_tryTwo_59 τ (nI (p / 10)) (nI (p % 10)) (nI u) (nI (q / 10)) (nI (q % 10)) (nI w) v = some ((), σ') ∧ YB y σ' l ∧ YE σ' a b (some (v, c, d, f)) := by
    unfold f_X10_tryTwo_59
    simp only [ul_eq]
    refine ⟨_, rfl, ?_, fun e => (by cases e), fun v' c' d' f' e => ?_⟩
    · obtain ⟨k1, k2, k3, k4, k5, k6⟩ := hYτ
      refine ⟨fun k k0 hk => by rw [us_n (by omega), us_n (by omega), us_n (by omega), us_n (by omega), us_n (by omega), us_n (by omega), us_n k0]; exact k1 k k0 hk, fun i hi => ?_, k3, k4, k5, k6⟩
      show upd (τ 0) 24 v i = _
      unfold upd
      rw [if_neg hi]; exact k2 i hi
    · cases e
      rw [hp, hq, hu, hw]
      exact ⟨rfl, rfl, rfl, rfl, rfl, rfl, rfl⟩
  cases t
  · have hS' : YE τ a b st := hEτ st hS
    obtain ⟨m, hm, hvm⟩ := hvn
    simp only [Bool.false_eq_true, if_false]
    rw [if_neg (show ¬ v = -9 by rw [hvm]; exact nI_m9 (by omega))]
    cases st with
    | none =>
      rw [if_pos (hS'.1 rfl)]
      exact new
    | some s =>
      obtain ⟨v', c', d', f'⟩ := s
      obtain ⟨⟨m', hm', hvm'⟩, -⟩ := hO v' c' d' f' rfl
      rw [(hS'.2 v' c' d' f' rfl).1, if_neg (show ¬ v' = -9 by rw [hvm']; exact nI_m9 (by omega))]
      unfold tk
      by_cases g : v' ≤ v
      · simp only [if_pos g]
        exact ⟨τ, rfl, hYτ, hS'⟩
      · simp only [if_neg g]
        exact new
  · have hS0 : YE τ a b none := hEτ none hS
    simp only [if_true]
    exact ⟨τ, rfl, hYτ, hS0⟩
theorem TT_mono {va vb : Nat → Bool} {C i j : Nat} (h : i ≤ j) : TT va vb C i ≤ TT va vb C j := sm_mono h
/-- the reference's search over all pairs -/
theorem p_pairs {x y σ0 : St} {W l a b n : Nat} {t : Bool} (hB : RB x y) (hE : RE x y) (hD : RD W x y) (hl : l < 4) (ha : 1 ≤ a ∧ a ≤ 3) (hb : 1 ≤ b ∧ b ≤ 3) (hab : a ≠ b) (ht : t = anyN 150 (sn x l (6 - a - b))) (hn : n ≤ 20000) (hY : YB y σ0 l) (hS : YE σ0 a b none) :
    (n < TT (vld x l a) (vld x l b) (10 * W) (10 * W) ∧ ∃ σ, f_X10_two_58 fu σ0 (nI l) (nI a) (nI b) (nI n) 0 0 = some (-6, σ) ∧ RS y σ) ∨
    (TT (vld x l a) (vld x l b) (10 * W) (10 * W) ≤ n ∧ ((if t = true then none else STo x l a b (vld x l a) (vld x l b) (10 * W) (10 * W)) = none → ∃ σ, f_X10_two_58 fu σ0 (nI l) (nI a) (nI b) (nI n) 0 0 = some (-9, σ) ∧ RS y σ) ∧
      ∀ v c d f, (if t = true then none else STo x l a b (vld x l a) (vld x l b) (10 * W) (10 * W)) = some (v, c, d, f) → ∃ σ, YB y σ l ∧ f_X10_two_58 fu σ0 (nI l) (nI a) (nI b) (nI n) 0 0 = some (v, alY (alY (us σ 16 l 0) l 0 (nI (fP f c d / 10)) (nI (fP f c d % 10)) (nI (fP f a b))) l 1 (nI (fP f d c / 10)) (nI (fP f d c % 10)) (nI (fP f b a)))) := by
  have hW := hD.1
  generalize hva : vld x l a = va
  generalize hvb : vld x l b = vb
  generalize hC : 10 * W = C
  have e10W : (10 : Int32) * nI W = nI C := by rw [show (10 : Int32) = nI 10 from by decide, pk_mul, hC]
  refine loop_J (fun fuel c (σ : St) => f_X10_two_58 fuel σ (nI l) (nI a) (nI b) (nI n) (nI (TT va vb C c)) (nI c)) C
    (fun c σ => YB y σ l ∧ YE σ a b (if t = true then none else STo x l a b va vb C c) ∧ okS va vb C (STo x l a b va vb C c) ∧ TT va vb C c ≤ n)
    (fun r => (n < TT va vb C C ∧ ∃ σ, r = some (-6, σ) ∧ RS y σ) ∨ (TT va vb C C ≤ n ∧ ((if t = true then none else STo x l a b va vb C C) = none → ∃ σ, r = some (-9, σ) ∧ RS y σ) ∧ ∀ v c d f, (if t = true then none else STo x l a b va vb C C) = some (v, c, d, f) → ∃ σ, YB y σ l ∧ r = some (v, alY (alY (us σ 16 l 0) l 0 (nI (fP f c d / 10)) (nI (fP f c d % 10)) (nI (fP f a b))) l 1 (nI (fP f d c / 10)) (nI (fP f d c % 10)) (nI (fP f b a)))))
    (by omega) σ0 ⟨hY, by rw [show (if t = true then none else STo x l a b va vb C 0) = none from by cases t <;> rfl]; exact hS, fun v c d f e => (by cases e), Nat.zero_le _⟩ (fun fuel σ hI => ?_) (fun fuel c σ hc hI => ?_)
  · show (_ ∧ ∃ σ', f_X10_two_58 (fuel + 1) σ (nI l) (nI a) (nI b) (nI n) (nI (TT va vb C C)) (nI C) = _ ∧ _) ∨ (_ ∧ (_ → ∃ σ', f_X10_two_58 (fuel + 1) σ (nI l) (nI a) (nI b) (nI n) (nI (TT va vb C C)) (nI C) = _ ∧ _) ∧ ∀ v c d f, _ → ∃ σ', _ ∧ f_X10_two_58 (fuel + 1) σ (nI l) (nI a) (nI b) (nI n) (nI (TT va vb C C)) (nI C) = _)
    right
    obtain ⟨i1, i2, i3, i4⟩ := hI
    have e7 := (YB_w i1 hB hE hD).2.2.2.1
    refine ⟨i4, fun hst => ?_, fun v c d f hst => ?_⟩
    · rw [f_X10_two_58, e7, e10W, if_pos (nI_le (Nat.le_refl _) (by omega)), if_pos (i2.1 hst)]
      obtain ⟨σ', g1, g2⟩ := p_back hl i1
      rw [g1, ub_some]
      exact ⟨σ', rfl, g2⟩
    · have i2' := i2.2 v c d f hst
      have hv9 : ¬ v = -9 := by
        cases t
        · obtain ⟨⟨m, hm, hv⟩, -⟩ := i3 v c d f hst
          rw [hv]; exact nI_m9 (by omega)
        · cases hst
      obtain ⟨e24, e0, e1, e2, e3, e4, e5⟩ := i2'
      rw [f_X10_two_58, e7, e10W, if_pos (nI_le (Nat.le_refl _) (by omega)), e24, if_neg hv9, ui_n hl (by decide), nI_clamp (show l < 2 ^ 31 by omega), ul_eq]
      have z0 : us σ 16 l 0 16 l = nI 0 := by rw [us_at, nI_0]
      have r0 : us σ 16 l 0 20 (0 : Int32).toNatClampNeg = nI (fP f c d / 10) := e0
      have r1 : us σ 16 l 0 20 (1 : Int32).toNatClampNeg = nI (fP f c d % 10) := e1
      have r2 : us σ 16 l 0 20 (2 : Int32).toNatClampNeg = nI (fP f a b) := e2
      rw [r0, r1, r2, p_lays hl z0 (by omega), ub_some]
      have z1 : alY (us σ 16 l 0) l 0 (nI (fP f c d / 10)) (nI (fP f c d % 10)) (nI (fP f a b)) 16 l = nI 1 := us_at
      have r3 : alY (us σ 16 l 0) l 0 (nI (fP f c d / 10)) (nI (fP f c d % 10)) (nI (fP f a b)) 20 (3 : Int32).toNatClampNeg = nI (fP f d c / 10) := e3
      have r4 : alY (us σ 16 l 0) l 0 (nI (fP f c d / 10)) (nI (fP f c d % 10)) (nI (fP f a b)) 20 (4 : Int32).toNatClampNeg = nI (fP f d c % 10) := e4
      have r5 : alY (us σ 16 l 0) l 0 (nI (fP f c d / 10)) (nI (fP f c d % 10)) (nI (fP f a b)) 20 (5 : Int32).toNatClampNeg = nI (fP f b a) := e5
      rw [r3, r4, r5, p_lays hl z1 (by omega), ub_some]
      refine ⟨σ, i1, ?_⟩
      have : alY (alY (us σ 16 l 0) l 0 (nI (fP f c d / 10)) (nI (fP f c d % 10)) (nI (fP f a b))) l 1 (nI (fP f d c / 10)) (nI (fP f d c % 10)) (nI (fP f b a)) 0 24 = v := e24
      rw [this]
  · show ((_ ∧ ∃ σ', f_X10_two_58 (fuel + 1) σ (nI l) (nI a) (nI b) (nI n) (nI (TT va vb C c)) (nI c) = _ ∧ _) ∨ _) ∨ ∃ σ', _ ∧ f_X10_two_58 (fuel + 1) σ (nI l) (nI a) (nI b) (nI n) (nI (TT va vb C c)) (nI c) = f_X10_two_58 fuel σ' (nI l) (nI a) (nI b) (nI n) (nI (TT va vb C (c + 1))) (nI (c + 1))
    obtain ⟨i1, i2, i3, i4⟩ := hI
    have e7 := (YB_w i1 hB hE hD).2.2.2.1
    have cc := p_can (u := a) i1 hB hE hD hl (by omega) (show c < 10 * W by omega)
    rw [hva] at cc
    rw [f_X10_two_58, e7, e10W, if_neg (nI_ge hc (by omega)), cc, ub_some]
    cases e : va c
    · right
      have ef : fu = 4999 + 1 := rfl
      rw [ef, f_X10_two_83, e7, e10W, if_neg (show ¬ nI C ≤ 0 from nI_nle (by omega) (by omega)), if_pos (show iB false = 0 from rfl), ul_eq, nI_1, STo_f e, TT_s, if_neg (show ¬ va c = true by rw [e]; decide)]
      exact ⟨σ, ⟨i1, i2, i3, i4⟩, rfl⟩
    · rw [STo_t e, TT_s, if_pos e]
      have hvac : vld x l a c = true := by rw [hva]; exact e
      generalize hB0 : TT va vb C c = B at i4
      have hBC : B + cnt (pp vb c) C ≤ TT va vb C C := by
        have := TT_mono (va := va) (vb := vb) (C := C) (show c + 1 ≤ C by omega)
        rw [TT_s, if_pos e, hB0] at this
        exact this
      have key := loop_J (fun fuel' d (τ : St) => f_X10_two_83 (f_X10_two_58 fuel) fuel' τ (nI l) (nI a) (nI b) (nI n) (nI (B + cnt (pp vb c) d)) (nI c) 1 (nI d)) C
        (fun d τ => YB y τ l ∧ YE τ a b (if t = true then none else ST2 x l a b vb (STo x l a b va vb C c) c d) ∧ okS va vb C (ST2 x l a b vb (STo x l a b va vb C c) c d) ∧ B + cnt (pp vb c) d ≤ n)
        (fun r => (n < B + cnt (pp vb c) C ∧ ∃ σ', r = some (-6, σ') ∧ RS y σ') ∨ ∃ σ', (YB y σ' l ∧ YE σ' a b (if t = true then none else ST2 x l a b vb (STo x l a b va vb C c) c C) ∧ okS va vb C (ST2 x l a b vb (STo x l a b va vb C c) c C) ∧ B + cnt (pp vb c) C ≤ n) ∧ r = f_X10_two_58 fuel σ' (nI l) (nI a) (nI b) (nI n) (nI (B + cnt (pp vb c) C)) (nI (c + 1)))
        (by omega) σ ⟨i1, i2, i3, i4⟩ (fun fuel' τ hJ => ?_) (fun fuel' d τ hd hJ => ?_)
      · have k0 : f_X10_two_83 (f_X10_two_58 fuel) fu σ (nI l) (nI a) (nI b) (nI n) (nI B) (nI c) (iB true) 0 = f_X10_two_83 (f_X10_two_58 fuel) fu σ (nI l) (nI a) (nI b) (nI n) (nI (B + cnt (pp vb c) 0)) (nI c) 1 (nI 0) := rfl
        rw [k0]
        rcases key with ⟨q1, σ', q2, q3⟩ | ⟨σ', q1, q2⟩
        · left; left
          exact ⟨by omega, σ', q2, q3⟩
        · right
          exact ⟨σ', q1, q2⟩
      · show _ ∨ ∃ σ', _ ∧ f_X10_two_83 (f_X10_two_58 fuel) (fuel' + 1) τ (nI l) (nI a) (nI b) (nI n) (nI (B + cnt (pp vb c) C)) (nI c) 1 (nI C) = _
        right
        have e7' := (YB_w hJ.1 hB hE hD).2.2.2.1
        rw [f_X10_two_83, e7', e10W, if_pos (nI_le (Nat.le_refl _) (by omega)), ul_eq, nI_1]
        exact ⟨τ, hJ, rfl⟩
      · show ((_ ∧ ∃ σ', f_X10_two_83 (f_X10_two_58 fuel) (fuel' + 1) τ (nI l) (nI a) (nI b) (nI n) (nI (B + cnt (pp vb c) d)) (nI c) 1 (nI d) = _ ∧ _) ∨ _) ∨ ∃ τ', _ ∧ f_X10_two_83 (f_X10_two_58 fuel) (fuel' + 1) τ (nI l) (nI a) (nI b) (nI n) (nI (B + cnt (pp vb c) d)) (nI c) 1 (nI d) = f_X10_two_83 (f_X10_two_58 fuel) fuel' τ' (nI l) (nI a) (nI b) (nI n) (nI (B + cnt (pp vb c) (d + 1))) (nI c) 1 (nI (d + 1))
        obtain ⟨j1, j2, j3, j4⟩ := hJ
        have e7' := (YB_w j1 hB hE hD).2.2.2.1
        obtain ⟨c10, c10m⟩ := d10 (c := c) (by omega)
        obtain ⟨d10', d10m⟩ := d10 (c := d) (by omega)
        have cd := p_can (u := b) j1 hB hE hD hl (by omega) (show d < 10 * W by omega)
        rw [hvb] at cd
        rw [f_X10_two_83, e7', e10W, if_neg (nI_ge hd (by omega)), if_neg (by decide), c10m, d10m, c10, d10', cd, ub_some]
        simp only [ul_eq, nI_1]
        by_cases g : c / 10 = d / 10
        · right
          have pf : pp vb c d = false := by unfold pp; simp [g]
          rw [if_pos (show nI (c / 10) = nI (d / 10) by rw [g]), cnt_f pf, ST2_f pf]
          exact ⟨τ, ⟨j1, j2, j3, j4⟩, rfl⟩
        · rw [if_neg (nI_nq rfl g (by omega) (by omega))]
          cases ed : vb d
          · right
            have pf : pp vb c d = false := by unfold pp; rw [ed]; rfl
            rw [if_pos (show iB false = 0 from rfl), cnt_f pf, ST2_f pf]
            exact ⟨τ, ⟨j1, j2, j3, j4⟩, rfl⟩
          · have pt : pp vb c d = true := by unfold pp; rw [ed]; simp [g]
            have hvbd : vld x l b d = true := by rw [hvb]; exact ed
            have hlt := cnt_lt pt hd
            have hcl := cnt_le (v := pp vb c) (c := C)
            rw [if_neg (show ¬ iB true = 0 by decide)]
            by_cases gn : B + cnt (pp vb c) d = n
            · left; left
              obtain ⟨σ', g1, g2⟩ := p_back hl j1
              rw [if_pos (by rw [gn]), g1, ub_some]
              exact ⟨by omega, σ', rfl, g2⟩
            · right
              rw [if_neg (nI_nq rfl gn (by omega) (by omega)), cnt_t pt, ST2_t pt]
              obtain ⟨τ1, r1, r2, r3⟩ := p_try (f := true) (st := ST2 x l a b vb (STo x l a b va vb C c) c d) (v := S1 x l b c d) hB hE hD hl ha hb hab (show c < 10 * W by omega) (show d < 10 * W by omega) hvac hvbd ht rfl j1 j2 (by rw [hva, hvb, hC]; exact j3)
              have n1 := S1_n (c := c) (vld_n9 hvbd)
              have n2 := S2_n (d := d) (vld_n9 hvac)
              have j3' : okS va vb C (tk (ST2 x l a b vb (STo x l a b va vb C c) c d) (S1 x l b c d) c d true) := okS_tk j3 n1 hc hd e ed
              obtain ⟨τ2, q1, q2, q3⟩ := p_try (f := false) (st := tk (ST2 x l a b vb (STo x l a b va vb C c) c d) (S1 x l b c d) c d true) (v := S2 x l a c d) hB hE hD hl ha hb hab (show c < 10 * W by omega) (show d < 10 * W by omega) hvac hvbd ht rfl r2 r3 (by rw [hva, hvb, hC]; exact j3')
              have r1' : f_X10_tryTwo τ (nI l) (nI (c / 10)) (nI (c % 10)) (nI a) (nI (d / 10)) (nI (d % 10)) (nI b) = some ((), τ1) := r1
              have q1' : f_X10_tryTwo τ1 (nI l) (nI (d / 10)) (nI (d % 10)) (nI b) (nI (c / 10)) (nI (c % 10)) (nI a) = some ((), τ2) := q1
              rw [r1', ub_some, q1', ub_some]
              exact ⟨τ2, ⟨q2, q3, okS_tk j3' n2 hc hd e ed, by omega⟩, rfl⟩
