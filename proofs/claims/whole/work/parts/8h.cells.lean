/-! ===== words on lines: cells, LACK ===== -/
def ln (x : St) (w : Nat) : Nat := (x 11 w).toNatClampNeg
/-- the cells in slot t of word w at slot s -/
def ce (x : St) (w s t : Nat) : Int32 := if s ≤ t ∧ t < s + ln x w then x 9 ((x (18 + w) (t - s)).toNatClampNeg - 97) else 0
theorem n97 (c : Nat) : nI (97 + c) - 97 = nI c := by
  rw [show (97 : Int32) = nI 97 from by decide, pk_sub (by omega)]
  congr 1
  omega
theorem p_cellsIn {x y : St} {w s t : Nat} (hw : w < 16) (hk : wordOK x y w) (hs : s < 16) (ht : t < 16) : f_X8_cellsIn x (nI w) (nI s) (nI t) = some (ce x w s t, x) := by
  obtain ⟨⟨n, n1, n8, e1, e2, hl⟩, -⟩ := hk
  have hln : ln x w = n := by unfold ln; rw [e1, nI_clamp (by omega)]
  unfold f_X8_cellsIn ce
  rw [ul_eq, hln]
  by_cases hst : s ≤ t
  · rw [pk_sub hst, if_neg (nI_pos (by omega)), ui_n hw (by decide), nI_clamp (show w < 2 ^ 31 by omega), e1]
    by_cases hn : t - s < n
    · obtain ⟨c, hc, -, e3⟩ := hl (t - s) hn
      rw [if_pos (nI_lt hn (by omega)), if_pos (by omega), ui_n hw (by decide), ui_n (by omega) (by decide), nI_clamp (show t - s < 2 ^ 31 by omega), e3, n97, ui_n hc (by decide), nI_clamp (show c < 2 ^ 31 by omega), nI_clamp (show 97 + c < 2 ^ 31 by omega), show 97 + c - 97 = c by omega]
    · rw [if_neg (nI_nlt (by omega) (by omega)), if_neg (by omega)]
  · rw [if_pos (pk_sneg (by omega) (by omega)), if_neg (by omega)]
theorem m15_ce {x y : St} {w s t : Nat} (hB : RB x y) (hk : wordOK x y w) : m15 (ce x w s t) := by
  obtain ⟨⟨n, n1, n8, e1, e2, hl⟩, -⟩ := hk
  have hln : ln x w = n := by unfold ln; rw [e1, nI_clamp (by omega)]
  unfold ce
  rw [hln]
  by_cases h : s ≤ t ∧ t < s + n
  · obtain ⟨c, hc, -, e3⟩ := hl (t - s) (by omega)
    rw [if_pos h, e3, nI_clamp (show 97 + c < 2 ^ 31 by omega), show 97 + c - 97 = c by omega]
    exact (hB c hc).2
  · rw [if_neg h]; exact m15_0
/-- cell k of the line is one of the word's cells -/
def hc (x : St) (w s k : Nat) : Bool := bt (ce x w s (k / 15)) (k % 15)
theorem p_has {x y : St} {w s k : Nat} (hB : RB x y) (hw : w < 16) (hk : wordOK x y w) (hs : s < 16) (h150 : k < 150) : f_X10_has y (nI w) (nI s) (nI k) = some (bI (hc x w s k = true), y) := by
  obtain ⟨⟨n, n1, n8, e1, e2, hl⟩, -⟩ := hk
  have hln : ln x w = n := by unfold ln; rw [e1, nI_clamp (by omega)]
  have d1 : nI k / 15 = nI (k / 15) := by rw [show (15 : Int32) = nI 15 from by decide]; exact pk_div (by omega) (by decide) (by decide)
  have d2 : nI k - nI k / 15 * 15 = nI (k % 15) := by rw [show (15 : Int32) = nI 15 from by decide]; exact pk_rem (by omega) (by decide) (by decide)
  unfold f_X10_has hc ce
  rw [ul_eq, d2, d1, hln, ui_n hw (by decide), p_in, ub_some, nI_clamp (show w < 2 ^ 31 by omega), e2, nI_m (v := 1) (k := 1) (by decide) (by omega) (by omega), pk_sub_toInt (by omega) (by omega), show (0 : Int32).toInt = 0 from by decide]
  simp only [bI_z, ite_not]
  by_cases h : s ≤ k / 15 ∧ k / 15 < s + n
  · rw [if_pos (show (0 : Int) ≤ ((k / 15 : Nat) : Int) - (s : Int) ∧ ((k / 15 : Nat) : Int) - (s : Int) ≤ (n : Int) - ((1 : Nat) : Int) by omega)]
    simp only [if_pos h]
    obtain ⟨c, hc, e4, e3⟩ := hl (k / 15 - s) (by omega)
    have e8 : (8 : Int32) * nI w + (nI (k / 15) - nI s) = nI (8 * w + (k / 15 - s)) := by rw [pk_sub h.1, show (8 : Int32) = nI 8 from by decide, pk_mul, nI_add]
    rw [e8, ui_n (by omega) (by decide), nI_clamp (show 8 * w + (k / 15 - s) < 2 ^ 31 by omega), e4, ui_n hc (by decide), nI_clamp (show c < 2 ^ 31 by omega), b_test _ (by omega), e3, nI_clamp (show 97 + c < 2 ^ 31 by omega), show 97 + c - 97 = c by omega, (hB c hc).1]
    unfold bI
    by_cases g : bt (y 2 c) (k % 15) = true
    · simp only [g, if_true]
    · simp only [g, if_false]; rfl
  · rw [if_neg (show ¬ ((0 : Int) ≤ ((k / 15 : Nat) : Int) - (s : Int) ∧ ((k / 15 : Nat) : Int) - (s : Int) ≤ (n : Int) - ((1 : Nat) : Int)) by omega)]
    simp only [if_neg h, b_0]
    rfl
/-- the cells of slot t of line l that are seen in u; whether cell k is; whether it is known -/
def mk (x : St) (l u t : Nat) : Int32 := x (35 + 9 * l + 2 + u) t
def sn (x : St) (l u k : Nat) : Bool := bt (mk x l u (k / 15)) (k % 15)
def kn (x : St) (l k : Nat) : Bool := ((sn x l 0 k || sn x l 1 k) || sn x l 2 k) || sn x l 3 k
def knm (x : St) (l t : Nat) : Int32 := ((mk x l 0 t ||| mk x l 1 t) ||| mk x l 2 t) ||| mk x l 3 t
theorem m15_mk {x y : St} {l u t : Nat} (hE : RE x y) (hl : l < 4) (hu : u < 4) (ht : t < 10) : m15 (mk x l u t) := (hE l hl t ht).1 u hu
theorem m15_knm {x y : St} {l t : Nat} (hE : RE x y) (hl : l < 4) (ht : t < 10) : m15 (knm x l t) := m15_or (m15_or (m15_or (m15_mk hE hl (by omega) ht) (m15_mk hE hl (by omega) ht)) (m15_mk hE hl (by omega) ht)) (m15_mk hE hl (by omega) ht)
theorem p_known {x : St} {l t : Nat} (ht : t < 10) : f_X2_known x l (nI t) = some (knm x l t, x) := by
  unfold f_X2_known
  rw [ui_n ht (by decide), ui_n ht (by decide), ui_n ht (by decide), ui_n ht (by decide), nI_clamp (show t < 2 ^ 31 by omega)]
  rfl
theorem d15 {t c : Nat} (hc : c < 15) : (15 * t + c) / 15 = t ∧ (15 * t + c) % 15 = c := by omega
theorem b_knm {x : St} {l t c : Nat} (hc : c < 15) : bt (knm x l t) c = kn x l (15 * t + c) := by
  unfold knm kn sn
  rw [b_or, b_or, b_or, (d15 hc).1, (d15 hc).2]
/-- what is seen in cell k of line l -/
theorem sees {x y : St} {l k : Nat} (hE : RE x y) (hl : l < 4) (hk : k < 150) : ∃ v, v ≤ 4 ∧ y 14 (150 * l + k) = nI v ∧ (∀ u, u < 4 → sn x l u k = decide (u = v)) ∧ kn x l k = decide (¬ v = 4) := by
  obtain ⟨v, h4, e, hb⟩ := (hE l hl (k / 15) (by omega)).2 (k % 15) (by omega)
  have ek : 150 * l + 15 * (k / 15) + k % 15 = 150 * l + k := by omega
  rw [ek] at e
  refine ⟨v, h4, e, hb, ?_⟩
  have q : ∀ u, u < 4 → sn x l u k = decide (u = v) := hb
  unfold kn
  rw [q 0 (by omega), q 1 (by omega), q 2 (by omega), q 3 (by omega)]
  have : v = 0 ∨ v = 1 ∨ v = 2 ∨ v = 3 ∨ v = 4 := by omega
  rcases this with rfl | rfl | rfl | rfl | rfl <;> decide
def lo (x : St) (l w s u k : Nat) : Bool := !(sn x l u k) || hc x w s k
def lc (x : St) (l w s u k : Nat) : Nat := bN ((hc x w s k && kn x l k) && !(sn x l u k))
/-- LACK, or NONE -/
def LK (x : St) (l w s u : Nat) : Int32 := if ∀ k, k < 150 → lo x l w s u k = true then nI (sm 150 (lc x l w s u)) else -9
theorem e150 {l j : Nat} : (150 : Int32) * nI l + nI j = nI (150 * l + j) := by rw [show (150 : Int32) = nI 150 from by decide, pk_mul, nI_add]
theorem p_lackOf {x y : St} {l w s u : Nat} (hB : RB x y) (hE : RE x y) (hl : l < 4) (hw : w < 16) (hk : wordOK x y w) (hs : s < 16) (hu : u < 4) : f_X10_lackOf y (nI l) (nI w) (nI s) (nI u) = some (LK x l w s u, y) := by
  unfold f_X10_lackOf
  have := loop_P (fun fuel j => f_X10_lackOf_6 fuel y (nI l) (nI w) (nI s) (nI u) (nI (sm j (lc x l w s u))) (nI j)) 150 (some (LK x l w s u, y)) (fun j => ∀ k, k < j → lo x l w s u k = true) (by decide) (fun k hk => absurd hk (by omega)) (fun fuel hP => ?_) (fun fuel j hj hP => ?_)
  · exact this
  · show f_X10_lackOf_6 (fuel + 1) _ _ _ _ _ _ _ = _
    rw [f_X10_lackOf_6, if_pos (by decide)]
    unfold LK
    rw [if_pos hP]
  · show f_X10_lackOf_6 (fuel + 1) _ _ _ _ _ _ _ = _ ∨ (_ ∧ f_X10_lackOf_6 (fuel + 1) _ _ _ _ _ _ _ = f_X10_lackOf_6 fuel _ _ _ _ _ _ _)
    obtain ⟨v, h4, e, hb, hkn⟩ := sees hE hl hj
    have hb := hb u hu
    have h150 : ¬ (150 : Int32) ≤ nI j := by rw [show (150 : Int32) = nI 150 from by decide]; exact nI_ge hj (by decide)
    rw [f_X10_lackOf_6, if_neg h150, e150, ui_n (by omega) (by decide), ul_eq, nI_clamp (show 150 * l + j < 2 ^ 31 by omega), e, p_has hB hw hk hs hj, ub_some]
    simp only [bI_z]
    have hstep : lo x l w s u j = true → ∀ k, k < j + 1 → lo x l w s u k = true := fun g k hk => by
      by_cases q : k < j
      · exact hP k q
      · have : k = j := by omega
        rw [this]; exact g
    unfold f_X10_lackOf_54
    simp only [ul_eq, bI_z, nI_p0, nI_1]
    by_cases c1 : v = u
    · subst c1
      have hb' : sn x l v j = true := by rw [hb]; simp
      rw [if_pos rfl]
      by_cases c2 : hc x w s j = true
      · right
        refine ⟨hstep (by unfold lo; rw [c2]; simp), ?_⟩
        rw [if_neg (by simp [c2]), if_neg (by simp [c2]), if_neg (nI_nq (k := 4) (by decide) (by omega) (by omega) (by decide)), if_pos rfl, sm_s, show lc x l w s v j = 0 from by unfold lc; rw [hb']; simp [bN]]
        rfl
      · left
        rw [if_pos c2]
        unfold LK
        rw [if_neg (fun q => by have := q j hj; unfold lo at this; rw [hb'] at this; simp at this; exact c2 this)]
    · have hb' : sn x l u j = false := by rw [hb]; simp; omega
      right
      refine ⟨hstep (by unfold lo; rw [hb']; rfl), ?_⟩
      rw [if_neg (show ¬ nI v = nI u from nI_nq rfl c1 (by omega) (by omega))]
      by_cases c2 : hc x w s j = true
      · rw [if_neg (by simp [c2]), if_neg (show ¬ nI v = nI u from nI_nq rfl c1 (by omega) (by omega)), sm_s]
        by_cases c3 : v = 4
        · rw [if_pos (by rw [c3]; decide), show lc x l w s u j = 0 from by unfold lc; rw [hkn, c3]; simp [bN]]
          rfl
        · rw [if_neg (nI_nq (k := 4) (by decide) c3 (by omega) (by decide)), show lc x l w s u j = 1 from by unfold lc; rw [hkn, c2, hb']; simp [bN, c3]]
      · rw [if_pos c2, sm_s, show lc x l w s u j = 0 from by unfold lc; simp [bN, c2]]
        rfl
theorem p_lackAt {x y : St} {l w s u : Nat} (hB : RB x y) (hE : RE x y) (hl : l < 4) (hw : w < 16) (hk : wordOK x y w) (hs : s < 16) (hu : u < 4) : f_X9_lackAt x l (nI w) (nI s) (nI u) = some (LK x l w s u, x) := by
  unfold f_X9_lackAt
  have := loop_P (fun fuel j => f_X9_lackAt_6 fuel x l (nI w) (nI s) (nI u) (nI (sm (15 * j) (lc x l w s u))) (nI j)) 10 (some (LK x l w s u, x)) (fun j => ∀ k, k < 15 * j → lo x l w s u k = true) (by decide) (fun k hk => absurd hk (by omega)) (fun fuel hP => ?_) (fun fuel j hj hP => ?_)
  · exact this
  · show f_X9_lackAt_6 (fuel + 1) _ _ _ _ _ _ _ = _
    rw [f_X9_lackAt_6, if_pos (by decide)]
    unfold LK
    rw [if_pos hP]
  · show f_X9_lackAt_6 (fuel + 1) _ _ _ _ _ _ _ = _ ∨ (_ ∧ f_X9_lackAt_6 (fuel + 1) _ _ _ _ _ _ _ = f_X9_lackAt_6 fuel _ _ _ _ _ _ _)
    have h10 : ¬ (10 : Int32) ≤ nI j := by rw [show (10 : Int32) = nI 10 from by decide]; exact nI_ge hj (by decide)
    have mC : m15 (ce x w s j) := m15_ce hB hk
    have mU : m15 (mk x l u j) := m15_mk hE hl hu hj
    rw [f_X9_lackAt_6, if_neg h10, p_cellsIn hw hk hs (by omega), ub_some, ui_n hu (by decide), ui_n hj (by decide), ul_eq, nI_clamp (show u < 2 ^ 31 by omega), nI_clamp (show j < 2 ^ 31 by omega), p_known hj, ub_some, p_bc (m15_andL (m15_andL mC)), ub_some, ul_eq, ul_eq, nI_1, nI_add]
    have hz : (x (35 + 9 * l + 2 + u) j &&& (ce x w s j ^^^ -1)) = 0 ↔ ∀ c, c < 15 → lo x l w s u (15 * j + c) = true := by
      have mm : m15 (x (35 + 9 * l + 2 + u) j &&& (ce x w s j ^^^ -1)) := m15_andL mU
      rw [m15_z mm]
      apply forall_congr'
      intro c
      apply forall_congr'
      intro hc'
      unfold lo sn hc mk
      rw [b_and, b_not _ (by omega), (d15 hc').1, (d15 hc').2]
      cases bt (x (35 + 9 * l + 2 + u) j) c <;> cases bt (ce x w s j) c <;> simp
    by_cases g : (x (35 + 9 * l + 2 + u) j &&& (ce x w s j ^^^ -1)) = 0
    · right
      rw [if_pos g]
      refine ⟨fun k hk => ?_, ?_⟩
      · by_cases q : k < 15 * j
        · exact hP k q
        · have := (hz.mp g) (k - 15 * j) (by omega)
          rw [show 15 * j + (k - 15 * j) = k by omega] at this
          exact this
      · have : pc ((ce x w s j &&& knm x l j) &&& (x (35 + 9 * l + 2 + u) j ^^^ -1)) = sm 15 (fun c => lc x l w s u (15 * j + c)) := by
          unfold pc
          apply sm_congr
          intro c hc'
          unfold lc hc sn mk
          rw [b_and, b_and, b_not _ (by omega), b_knm hc', (d15 hc').1, (d15 hc').2]
        rw [this, Nat.mul_succ, sm_split]
    · left
      rw [if_neg g]
      unfold LK
      rw [if_neg (fun q => g (hz.mpr (fun c hc' => q _ (by omega))))]
def BR (x : St) (l w s : Nat) : Nat := sm 150 (fun k => bN (hc x w s k && sn x l 0 k))
theorem p_bareAt {x y : St} {l w s : Nat} (hB : RB x y) (hE : RE x y) (hl : l < 4) (hw : w < 16) (hk : wordOK x y w) (hs : s < 16) : f_X9_bareAt x l (nI w) (nI s) = some (nI (BR x l w s), x) := by
  unfold f_X9_bareAt
  have := loop_fu (fun fuel j => f_X9_bareAt_6 fuel x l (nI w) (nI s) (nI (sm (15 * j) (fun k => bN (hc x w s k && sn x l 0 k)))) (nI j)) 10 (some (nI (BR x l w s), x)) (by decide) (fun fuel => ?_) (fun fuel j hj => ?_)
  · exact this
  · show f_X9_bareAt_6 (fuel + 1) _ _ _ _ _ _ = _
    rw [f_X9_bareAt_6, if_pos (by decide)]
    rfl
  · right
    show f_X9_bareAt_6 (fuel + 1) _ _ _ _ _ _ = f_X9_bareAt_6 fuel _ _ _ _ _ _
    have h10 : ¬ (10 : Int32) ≤ nI j := by rw [show (10 : Int32) = nI 10 from by decide]; exact nI_ge hj (by decide)
    have mC : m15 (ce x w s j) := m15_ce hB hk
    rw [f_X9_bareAt_6, if_neg h10, p_cellsIn hw hk hs (by omega), ub_some, ui_n hj (by decide), nI_clamp (show j < 2 ^ 31 by omega), p_bc (m15_andL mC), ub_some, ul_eq, ul_eq, nI_1, nI_add]
    have : pc (ce x w s j &&& x (35 + 9 * l + 2 + (0 : Int32).toNatClampNeg) j) = sm 15 (fun c => bN (hc x w s (15 * j + c) && sn x l 0 (15 * j + c))) := by
      unfold pc
      apply sm_congr
      intro c hc'
      unfold hc sn mk
      rw [b_and, (d15 hc').1, (d15 hc').2]
      rfl
    rw [this, Nat.mul_succ, sm_split]
theorem p_onX {x y : St} {w : Nat} (hw : w < 16) (hk : wordOK x y w) (v : Int32) : f_X8_isOnLine x (nI w) v = some (bI (0 ≤ v.toInt ∧ v.toInt ≤ 10 - (ln x w : Int)), x) := by
  obtain ⟨⟨n, n1, n8, e1, e2, hl⟩, -⟩ := hk
  have hln : ln x w = n := by unfold ln; rw [e1, nI_clamp (by omega)]
  unfold f_X8_isOnLine
  rw [ui_n hw (by decide), nI_clamp (show w < 2 ^ 31 by omega), e1, hln]
  refine rng1 x v 0 _ (by decide) ?_
  rw [show (10 : Int32) = nI 10 from by decide, pk_sub_toInt (by omega) (by omega)]
  rfl
theorem p_onY {x y : St} {w : Nat} (hw : w < 16) (hk : wordOK x y w) (v : Int32) : f_X10_isOn y (nI w) v = some (bI (0 ≤ v.toInt ∧ v.toInt ≤ 10 - (ln x w : Int)), y) := by
  obtain ⟨⟨n, n1, n8, e1, e2, hl⟩, -⟩ := hk
  have hln : ln x w = n := by unfold ln; rw [e1, nI_clamp (by omega)]
  unfold f_X10_isOn
  rw [ui_n hw (by decide), nI_clamp (show w < 2 ^ 31 by omega), e2, hln]
  refine rng1 y v 0 _ (by decide) ?_
  rw [show (10 : Int32) = nI 10 from by decide, pk_sub_toInt (by omega) (by omega)]
  rfl
theorem op_lack {x y : St} (h : Rel x y) (a1 a2 a3 a4 : Int32) : ∃ (r : Int32) (x' y' : St), f_X9_lack x a1 a2 a3 a4 = some (r, x') ∧ f_X10_lack y a1 a2 a3 a4 = some (r, y') ∧ Rel x' y' := by
  obtain ⟨W, ⟨hW, w1, w2, hwd, hst, -⟩, -⟩ := h.2.2.2.2.2.2.2
  unfold f_X9_lack f_X10_lack
  simp only [p_isLine, p_mLine, p_isColour, p_mColour, p_wordNo w1 hW, ub_some, bI_z, ite_not]
  by_cases h1 : 0 ≤ a1.toInt ∧ a1.toInt ≤ 3
  · rw [if_pos h1, if_pos h1]
    by_cases h4 : 1 ≤ a4.toInt ∧ a4.toInt ≤ 3
    · rw [if_pos h4, if_pos h4]
      by_cases h2 : 0 ≤ a2.toInt ∧ a2.toInt ≤ (W : Int) - 1
      · rw [if_pos h2]
        obtain ⟨l, hl, rfl⟩ := n_of (N := 4) (v := a1) (by omega) (by decide)
        obtain ⟨w, hw, rfl⟩ := n_of (N := W) (v := a2) (by omega) (by omega)
        obtain ⟨u, hu, rfl⟩ := n_of (N := 4) (v := a4) (by omega) (by decide)
        have h16 : w < 16 := by omega
        have hk := hwd w hw
        rw [p_asked w2 hW hw, ui_n h16 (by decide), nI_clamp (by omega), ← (hst w h16).1]
        by_cases hs : x 17 w = 0
        · rw [if_pos hs, if_pos hs, ub_some, if_pos (by decide), p_onX h16 hk, p_onY h16 hk, ub_some, ub_some]
          simp only [bI_z, ite_not]
          by_cases h3 : 0 ≤ a3.toInt ∧ a3.toInt ≤ 10 - (ln x w : Int)
          · obtain ⟨s, hs', rfl⟩ := n_of (N := 11) (v := a3) (by omega) (by decide)
            rw [if_pos h3, if_pos h3, ui_n hl (by decide), nI_clamp (by omega), p_lackAt h.2.1 h.2.2.2.1 hl h16 hk (by omega) hu, p_lackOf h.2.1 h.2.2.2.1 hl h16 hk (by omega) hu, ub_some, ub_some]
            exact ⟨_, _, _, rfl, rfl, h⟩
          · rw [if_neg h3, if_neg h3, p_refuse x (k := 2) (by decide) (by decide), p_meets y (k := 2) (by decide) (by decide), ub_some, ub_some]
            exact ⟨_, _, _, rfl, rfl, rel_rf (by decide) h⟩
        · rw [if_neg hs, if_neg hs, p_refuse x (k := 1) (by decide) (by decide), ub_some, ub_some, if_neg (by decide)]
          exact ⟨_, _, _, rfl, rfl, rel_rf (by decide) h⟩
      · rw [if_neg h2, p_askedB w2 hW h2, ub_some, if_neg (by decide)]; exact ⟨_, _, _, rfl, rfl, h⟩
    · rw [if_neg h4, if_neg h4]
      by_cases h2 : 0 ≤ a2.toInt ∧ a2.toInt ≤ (W : Int) - 1
      · rw [if_pos h2]; exact ⟨_, _, _, rfl, rfl, h⟩
      · rw [if_neg h2]; exact ⟨_, _, _, rfl, rfl, h⟩
  · rw [if_neg h1, if_neg h1]; exact ⟨_, _, _, rfl, rfl, h⟩
