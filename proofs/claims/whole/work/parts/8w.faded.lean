/-! ===== FADED ===== -/
def lh (x : St) (w s : Nat → Nat) (i k : Nat) : Bool := hc x (w i) (s i) k
def ok1 (x : St) (l n : Nat) (w s c : Nat → Nat) (u k : Nat) : Bool := !(sn x l u k) || anyN n (fun i => decide (c i = u) && lh x w s i k)
def okc (x : St) (l n : Nat) (w s c : Nat → Nat) (k : Nat) : Bool := (ok1 x l n w s c 1 k && ok1 x l n w s c 2 k) && ok1 x l n w s c 3 k
def fxk (x : St) (l n : Nat) (w s c : Nat → Nat) (k : Nat) : Nat := sm n (fun i => bN (lh x w s i k && (sn x l 0 k || anyN i (fun j => sn x l (c j) k))))
def FD (x : St) (l n : Nat) (w s c : Nat → Nat) : Int32 := if ∀ k, k < 150 → okc x l n w s c k = true then nI (sm 150 (fxk x l n w s c)) else -9
/-- what the reference finds in one cell, from the uppermost of i layers down -/
def sc (x : St) (w s c : Nat → Nat) (v k : Nat) : Nat → Nat × Bool
  | 0 => (0, false)
  | i + 1 => if lh x w s i k = true ∧ c i = v then (0, true) else ((if lh x w s i k = true ∧ ¬ v = 4 then 1 else 0) + (sc x w s c v k i).1, (sc x w s c v k i).2)
theorem sc_s {x : St} {w s c : Nat → Nat} {v k i : Nat} : sc x w s c v k (i + 1) = if lh x w s i k = true ∧ c i = v then (0, true) else ((if lh x w s i k = true ∧ ¬ v = 4 then 1 else 0) + (sc x w s c v k i).1, (sc x w s c v k i).2) := rfl
theorem sc_2 {x : St} {w s c : Nat → Nat} {v k : Nat} : ∀ n, (sc x w s c v k n).2 = anyN n (fun i => decide (c i = v) && lh x w s i k)
  | 0 => rfl
  | n + 1 => by
    rw [sc_s, anyN_s]
    by_cases h : lh x w s n k = true ∧ c n = v
    · rw [if_pos h]; simp [h.1, h.2]
    · rw [if_neg h, ← sc_2 n]
      show (sc x w s c v k n).2 = _
      have : (decide (c n = v) && lh x w s n k) = false := by
        cases e : lh x w s n k
        · simp
        · simp only [Bool.and_true, decide_eq_false_iff_not]; exact fun q => h ⟨e, q⟩
      rw [this, Bool.or_false]
theorem ok_v {x : St} {l n k v : Nat} {w s c : Nat → Nat} (hv : v ≤ 4) (hs : ∀ u, u < 4 → sn x l u k = decide (u = v)) : okc x l n w s c k = true ↔ ((sc x w s c v k n).2 = true ∨ v = 0 ∨ v = 4) := by
  rw [sc_2]
  unfold okc ok1
  rw [hs 1 (by omega), hs 2 (by omega), hs 3 (by omega)]
  have : v = 0 ∨ v = 1 ∨ v = 2 ∨ v = 3 ∨ v = 4 := by omega
  rcases this with rfl | rfl | rfl | rfl | rfl <;> simp
theorem sc_1 {x : St} {l k v : Nat} {w s c : Nat → Nat} (hv : v ≤ 4) (hs : ∀ u, u < 4 → sn x l u k = decide (u = v)) : ∀ n, (∀ i, i < n → 1 ≤ c i ∧ c i ≤ 3) → (∀ i j, i < n → j < n → c i = c j → i = j) → ((sc x w s c v k n).2 = true ∨ v = 0 ∨ v = 4) → (sc x w s c v k n).1 = fxk x l n w s c k
  | 0, _, _, _ => rfl
  | n + 1, h1, h2, h3 => by
    have hsc : ∀ j, j < n + 1 → sn x l (c j) k = decide (c j = v) := fun j hj => hs (c j) (by have := h1 j hj; omega)
    have hs0 := hs 0 (by omega)
    unfold fxk
    rw [sm_s, sc_s]
    by_cases h : lh x w s n k = true ∧ c n = v
    · rw [if_pos h]
      have z : ∀ i, i ≤ n → anyN i (fun j => sn x l (c j) k) = false := fun i hi => by
        cases e : anyN i (fun j => sn x l (c j) k)
        · rfl
        · obtain ⟨j, hj, g⟩ := anyN_iff.mp e
          rw [hsc j (by omega)] at g
          have g := of_decide_eq_true g
          have := h2 j n (by omega) (by omega) (by omega)
          omega
      have v0 : ¬ 0 = v := by have := h1 n (by omega); omega
      have zz : sm n (fun i => bN (lh x w s i k && (sn x l 0 k || anyN i (fun j => sn x l (c j) k)))) = 0 := sm_zero (fun i hi => by rw [z i (by omega), hs0]; simp [v0, bN])
      rw [zz, z n (by omega), hs0]
      simp [v0, bN]
    · rw [if_neg h]
      show (if lh x w s n k = true ∧ ¬ v = 4 then 1 else 0) + (sc x w s c v k n).1 = _
      have h3' : (sc x w s c v k n).2 = true ∨ v = 0 ∨ v = 4 := by
        rw [sc_s, if_neg h] at h3
        exact h3
      have ih := sc_1 hv hs n (fun i hi => h1 i (by omega)) (fun i j hi hj => h2 i j (by omega) (by omega)) h3'
      rw [ih]
      have : (if lh x w s n k = true ∧ ¬ v = 4 then 1 else 0) = bN (lh x w s n k && (sn x l 0 k || anyN n (fun j => sn x l (c j) k))) := by
        cases e : lh x w s n k
        · simp [bN]
        · rw [hs0]
          rcases h3' with g | g | g
          · rw [sc_2] at g
            obtain ⟨j, hj, q⟩ := anyN_iff.mp g
            rw [Bool.and_eq_true] at q
            have q1 := of_decide_eq_true q.1
            have a1 : anyN n (fun j => sn x l (c j) k) = true := anyN_iff.mpr ⟨j, hj, by rw [hsc j (by omega)]; exact decide_eq_true q1⟩
            have a2 : ¬ v = 4 := by have := h1 j (by omega); omega
            rw [a1]; simp [a2, bN]
          · have a2 : ¬ v = 4 := by omega
            simp [g, a2, bN]
          · have a1 : anyN n (fun j => sn x l (c j) k) = false := by
              cases e : anyN n (fun j => sn x l (c j) k)
              · rfl
              · obtain ⟨j, hj, q⟩ := anyN_iff.mp e
                rw [hsc j (by omega)] at q
                have q := of_decide_eq_true q
                have := h1 j (by omega)
                omega
            rw [a1]; simp [g, bN]
      rw [this]
      unfold fxk
      omega
theorem nm1 : ∀ n, n < 4 → nI n - 1 = nI n + (-1) := by decide +kernel
theorem e3l {l j : Nat} : (3 : Int32) * nI l + nI j = nI (3 * l + j) := by rw [show (3 : Int32) = nI 3 from by decide, pk_mul, nI_add]
theorem f38_1 (kk : St → Int32 → Int32 → Int32 → Option (Int32 × St)) (g : Nat) (σ : St) (v1 v2 v3 v4 v6 : Int32) : f_X10_fadedOf_38 kk (g + 1) σ v1 v2 v3 v4 1 v6 = kk σ v1 v2 (v3 + 1) := by
  rw [f_X10_fadedOf_38]
  have n10 : ¬ (1 : Int32) = 0 := by decide
  by_cases h : v6 < 0
  · rw [if_pos h, if_neg n10, ul_eq]
  · rw [if_neg h, if_neg n10, if_neg n10, ul_eq]
theorem p_f38 {x y : St} {l k v : Nat} {w s c : Nat → Nat} (kk : St → Int32 → Int32 → Int32 → Option (Int32 × St)) (hB : RB x y) (hl : l < 4) (hk : k < 150) (hv : v ≤ 4) : ∀ i fuel a, i ≤ 3 → i < fuel → (∀ j, j < i → y 17 (3 * l + j) = nI (w j) ∧ y 18 (3 * l + j) = nI (s j) ∧ y 19 (3 * l + j) = nI (c j) ∧ w j < 16 ∧ wordOK x y (w j) ∧ s j < 16 ∧ c j ≤ 3) → f_X10_fadedOf_38 kk fuel y (nI l) (nI a) (nI k) (nI v) 0 (nI i + (-1)) = if (sc x w s c v k i).2 = true ∨ v = 0 ∨ v = 4 then kk y (nI l) (nI (a + (sc x w s c v k i).1)) (nI (k + 1)) else some (-9, y) := by
  intro i
  induction i with
  | zero =>
    intro fuel a _ hf _
    obtain ⟨g, rfl⟩ : ∃ g, fuel = g + 1 := ⟨fuel - 1, by omega⟩
    rw [f_X10_fadedOf_38, if_pos (by decide), if_pos rfl]
    simp only [ul_eq, nI_1]
    have h1 : (sc x w s c v k 0).2 = false := rfl
    have h2 : (sc x w s c v k 0).1 = 0 := rfl
    rw [h1, h2]
    by_cases c0 : v = 0
    · rw [if_pos (show nI v = 0 by rw [c0]; exact nI_0), if_pos (Or.inr (Or.inl c0)), Nat.add_zero a]
    · rw [if_neg (show ¬ nI v = 0 from nI_ne0 (by omega) (by omega))]
      by_cases c4 : v = 4
      · rw [if_pos (show nI v = 4 by rw [c4]; decide), if_pos (Or.inr (Or.inr c4)), Nat.add_zero a]
      · rw [if_neg (show ¬ nI v = 4 from nI_nq (k := 4) (by decide) c4 (by omega) (by decide)), if_neg (fun q => by rcases q with q | q | q; cases q; exact c0 q; exact c4 q)]
  | succ i ih0 =>
    intro fuel a hi hf hL
    obtain ⟨g, rfl⟩ : ∃ g, fuel = g + 1 := ⟨fuel - 1, by omega⟩
    obtain ⟨e17, e18, e19, hw, hwk, hs, hc3⟩ := hL i (by omega)
    have ih := fun a => ih0 g a (by omega) (by omega) (fun j hj => hL j (by omega))
    have ef : ∀ a : Nat, nI a + 0 = nI a := fun a => nI_p0 _
    rw [pk_m1, f_X10_fadedOf_38, if_neg (nI_pos (by omega)), if_pos rfl, ul_eq, e3l, ui_n (show 3 * l + i < 12 by omega) (by decide), ui_n (show 3 * l + i < 12 by omega) (by decide), nI_clamp (show 3 * l + i < 2 ^ 31 by omega), e17, e18, p_has hB hw hwk hs hk, ub_some, ui_n (show 3 * l + i < 12 by omega) (by decide), e19]
    unfold f_X10_fadedOf_99
    simp only [ul_eq, nI_1, ef, bI_z]
    have lhe : lh x w s i k = hc x (w i) (s i) k := rfl
    by_cases q1 : hc x (w i) (s i) k = true
    · rw [if_neg (fun q => q q1)]
      by_cases q2 : c i = v
      · have q4 : ¬ nI v = 4 := nI_nq (k := 4) (by decide) (by omega) (by omega) (by decide)
        have es : sc x w s c v k (i + 1) = (0, true) := by rw [sc_s, lhe, if_pos ⟨q1, q2⟩]
        have h1 : (sc x w s c v k (i + 1)).2 = true := by rw [es]
        have h2 : (sc x w s c v k (i + 1)).1 = 0 := by rw [es]
        rw [h1, h2, if_pos (by rw [q2]), if_neg (fun q => q q1), if_neg q4, if_neg (by decide), if_pos (Or.inl rfl)]
        obtain ⟨g2, rfl⟩ : ∃ g2, g = g2 + 1 := ⟨g - 1, by omega⟩
        rw [f38_1, nI_1, Nat.add_zero a]
      · rw [if_neg (show ¬ nI (c i) = nI v from nI_nq rfl q2 (by omega) (by omega)), if_neg (fun q => q q1)]
        by_cases q4 : v = 4
        · have es : sc x w s c v k (i + 1) = sc x w s c v k i := by rw [sc_s, lhe, if_neg (fun q => q2 q.2), if_neg (fun q => q.2 q4), Nat.zero_add]
          rw [if_pos (show nI v = 4 by rw [q4]; decide), ih, es]
        · have es : sc x w s c v k (i + 1) = (1 + (sc x w s c v k i).1, (sc x w s c v k i).2) := by rw [sc_s, lhe, if_neg (fun q => q2 q.2), if_pos ⟨q1, q4⟩]
          have h1 : (sc x w s c v k (i + 1)).2 = (sc x w s c v k i).2 := by rw [es]
          have h2 : (sc x w s c v k (i + 1)).1 = 1 + (sc x w s c v k i).1 := by rw [es]
          rw [if_neg (show ¬ nI v = 4 from nI_nq (k := 4) (by decide) q4 (by omega) (by decide)), if_pos trivial, ih, h1, h2, Nat.add_assoc]
    · have es : sc x w s c v k (i + 1) = sc x w s c v k i := by rw [sc_s, lhe, if_neg (fun q => q1 q.1), if_neg (fun q => q1 q.1), Nat.zero_add]
      rw [if_pos q1, if_pos q1, ih, es]
/-- FADED of the reference, for the layers that its rows hold -/
theorem p_fadedOf {x y : St} {l n : Nat} {w s c : Nat → Nat} (hB : RB x y) (hE : RE x y) (hl : l < 4) (hn : n ≤ 3) (e16 : y 16 l = nI n) (hL : ∀ j, j < n → y 17 (3 * l + j) = nI (w j) ∧ y 18 (3 * l + j) = nI (s j) ∧ y 19 (3 * l + j) = nI (c j) ∧ w j < 16 ∧ wordOK x y (w j) ∧ s j < 16 ∧ (1 ≤ c j ∧ c j ≤ 3)) (hd : ∀ i j, i < n → j < n → c i = c j → i = j) : f_X10_fadedOf y (nI l) = some (FD x l n w s c, y) := by
  unfold f_X10_fadedOf
  have := loop_P (fun fuel j => f_X10_fadedOf_4 fuel y (nI l) (nI (sm j (fxk x l n w s c))) (nI j)) 150 (some (FD x l n w s c, y)) (fun j => ∀ k, k < j → okc x l n w s c k = true) (by decide) (fun k hk => absurd hk (by omega)) (fun fuel hP => ?_) (fun fuel j hj hP => ?_)
  · exact this
  · show f_X10_fadedOf_4 (fuel + 1) _ _ _ _ = _
    rw [f_X10_fadedOf_4, if_pos (by decide)]
    unfold FD
    rw [if_pos hP]
  · show f_X10_fadedOf_4 (fuel + 1) _ _ _ _ = _ ∨ (_ ∧ f_X10_fadedOf_4 (fuel + 1) _ _ _ _ = f_X10_fadedOf_4 fuel _ _ _ _)
    obtain ⟨v, h4, e, hb, -⟩ := sees hE hl hj
    have h150 : ¬ (150 : Int32) ≤ nI j := by rw [show (150 : Int32) = nI 150 from by decide]; exact nI_ge hj (by decide)
    rw [f_X10_fadedOf_4, if_neg h150, e150, ui_n (by omega) (by decide), ul_eq, nI_clamp (show 150 * l + j < 2 ^ 31 by omega), e, ui_n hl (by decide), nI_clamp (show l < 2 ^ 31 by omega), e16, ul_eq, nm1 n (by omega), p_f38 (f_X10_fadedOf_4 fuel) hB hl hj h4 n fu _ hn (by unfold fu; omega) (fun j hj => ⟨(hL j hj).1, (hL j hj).2.1, (hL j hj).2.2.1, (hL j hj).2.2.2.1, (hL j hj).2.2.2.2.1, (hL j hj).2.2.2.2.2.1, (hL j hj).2.2.2.2.2.2.2⟩)]
    by_cases q : okc x l n w s c j = true
    · right
      have q' := (ok_v (n := n) (w := w) (s := s) (c := c) h4 hb).mp q
      refine ⟨fun k hk => ?_, ?_⟩
      · by_cases g : k = j
        · rw [g]; exact q
        · exact hP k (by omega)
      · rw [if_pos q', sc_1 h4 hb n (fun i hi => (hL i hi).2.2.2.2.2.2) hd q', sm_s]
    · left
      rw [if_neg (fun g => q ((ok_v (n := n) (w := w) (s := s) (c := c) h4 hb).mpr g))]
      unfold FD
      rw [if_neg (fun g => q (g j hj))]
-- the class
theorem p_layerCells {x y : St} {l n t i : Nat} {w s : Nat → Nat} (hL : ∀ j, j < n → x (35 + 9 * l + 6) j = nI (w j) ∧ x (35 + 9 * l + 7) j = nI (s j) ∧ w j < 16 ∧ wordOK x y (w j) ∧ s j < 16) (hn : n ≤ 3) (hi : i < n) (ht : t < 10) : f_X9_layerCells x l (nI i) (nI t) = some (ce x (w i) (s i) t, x) := by
  obtain ⟨e1, e2, h1, h2, h3⟩ := hL i hi
  unfold f_X9_layerCells
  rw [ui_n (show i < 3 by omega) (by decide), ui_n (show i < 3 by omega) (by decide), nI_clamp (show i < 2 ^ 31 by omega), e1, e2, p_cellsIn h1 h2 h3 (by omega), ub_some]
theorem p_fits13 {x y : St} {l n t u : Nat} {w s c : Nat → Nat} (kk : St → Nat → Int32 → Int32 → Option (Int32 × St)) (hE : RE x y) (hl : l < 4) (ht : t < 10) (hu : u < 4) (hn : n ≤ 3) (e4 : x (35 + 9 * l) 4 = nI n) (hL : ∀ j, j < n → x (35 + 9 * l + 6) j = nI (w j) ∧ x (35 + 9 * l + 7) j = nI (s j) ∧ w j < 16 ∧ wordOK x y (w j) ∧ s j < 16) (hc8 : ∀ j, j < n → x (35 + 9 * l + 8) j = nI (c j) ∧ c j ≤ 3) : f_X9_fitsIn_13 kk fu x l (nI t) (nI u) 0 0 = if ∀ q, q < 15 → ok1 x l n w s c u (15 * t + q) = true then kk x l (nI t) (nI (u + 1)) else some (0, x) := by
  refine loop_J (fun fuel j (p : Int32) => f_X9_fitsIn_13 kk fuel x l (nI t) (nI u) p (nI j)) n (fun j p => ∀ q, bt p q = anyN j (fun i => decide (c i = u) && bt (ce x (w i) (s i) t) q)) (fun r => r = if ∀ q, q < 15 → ok1 x l n w s c u (15 * t + q) = true then kk x l (nI t) (nI (u + 1)) else some (0, x)) (by omega) 0 (fun q => b_0 q) (fun fuel p hp => ?_) (fun fuel j p hj hp => ?_)
  · show f_X9_fitsIn_13 kk (fuel + 1) _ _ _ _ _ _ = _
    rw [f_X9_fitsIn_13, e4, if_pos (nI_le (Nat.le_refl _) (by omega)), ui_n hu (by decide), ui_n ht (by decide), nI_clamp (show u < 2 ^ 31 by omega), nI_clamp (show t < 2 ^ 31 by omega), ul_eq, nI_1]
    have hz : (x (35 + 9 * l + 2 + u) t &&& (p ^^^ -1)) = 0 ↔ ∀ q, q < 15 → ok1 x l n w s c u (15 * t + q) = true := by
      have mm : m15 (x (35 + 9 * l + 2 + u) t &&& (p ^^^ -1)) := m15_andL (m15_mk hE hl hu ht)
      rw [m15_z mm]
      apply forall_congr'
      intro q
      apply forall_congr'
      intro hq
      unfold ok1 sn lh hc mk
      rw [b_and, b_not _ (by omega), hp q, (d15 hq).1, (d15 hq).2]
      cases bt (x (35 + 9 * l + 2 + u) t) q <;> cases anyN n (fun i => decide (c i = u) && bt (ce x (w i) (s i) t) q) <;> simp
    by_cases g : (x (35 + 9 * l + 2 + u) t &&& (p ^^^ -1)) = 0
    · rw [if_pos g, if_pos (hz.mp g)]
    · rw [if_neg g, if_neg (fun q => g (hz.mpr q))]
  · right
    show ∃ p', _ ∧ f_X9_fitsIn_13 kk (fuel + 1) x l (nI t) (nI u) p (nI j) = f_X9_fitsIn_13 kk fuel x l (nI t) (nI u) p' (nI (j + 1))
    rw [f_X9_fitsIn_13, e4, if_neg (nI_ge hj (by omega)), ui_n (show j < 3 by omega) (by decide), nI_clamp (show j < 2 ^ 31 by omega), (hc8 j hj).1, p_layerCells hL hn hj ht, ub_some]
    simp only [ul_eq, nI_1]
    have := (hc8 j hj).2
    by_cases g : c j = u
    · rw [if_pos (by rw [g])]
      exact ⟨_, fun q => by rw [b_or, hp q, anyN_s]; simp [g], rfl⟩
    · rw [if_neg (nI_nq rfl g (by omega) (by omega))]
      exact ⟨p, fun q => by rw [hp q, anyN_s]; simp [g], rfl⟩
def fitB (x : St) (l n : Nat) (w s c : Nat → Nat) (t : Nat) : Bool := !anyN 15 (fun q => !okc x l n w s c (15 * t + q))
theorem fitB_iff {x : St} {l n t : Nat} {w s c : Nat → Nat} : fitB x l n w s c t = true ↔ ∀ q, q < 15 → okc x l n w s c (15 * t + q) = true := by
  unfold fitB
  rw [Bool.not_eq_true']
  constructor
  · intro h q hq
    cases e : okc x l n w s c (15 * t + q)
    · have : anyN 15 (fun q => !okc x l n w s c (15 * t + q)) = true := anyN_iff.mpr ⟨q, hq, by rw [e]; rfl⟩
      rw [h] at this; cases this
    · rfl
  · intro h
    cases e : anyN 15 (fun q => !okc x l n w s c (15 * t + q))
    · rfl
    · obtain ⟨q, hq, g⟩ := anyN_iff.mp e
      rw [h q hq] at g; cases g
theorem p_fits {x y : St} {l n t : Nat} {w s c : Nat → Nat} (hE : RE x y) (hl : l < 4) (ht : t < 10) (hn : n ≤ 3) (e4 : x (35 + 9 * l) 4 = nI n) (hL : ∀ j, j < n → x (35 + 9 * l + 6) j = nI (w j) ∧ x (35 + 9 * l + 7) j = nI (s j) ∧ w j < 16 ∧ wordOK x y (w j) ∧ s j < 16) (hc8 : ∀ j, j < n → x (35 + 9 * l + 8) j = nI (c j) ∧ c j ≤ 3) : f_X9_fitsIn x l (nI t) = some (iB (fitB x l n w s c t), x) := by
  have e3 : ∀ j, j < 3 → ¬ (3 : Int32) < nI (j + 1) := fun j hj => by rw [show (3 : Int32) = nI 3 from by decide]; exact nI_nlt (by omega) (by decide)
  unfold f_X9_fitsIn
  have := loop_P (fun fuel j => f_X9_fitsIn_2 fuel x l (nI t) (nI (j + 1))) 3 (some (iB (fitB x l n w s c t), x)) (fun j => ∀ u, 1 ≤ u → u ≤ j → ∀ q, q < 15 → ok1 x l n w s c u (15 * t + q) = true) (by decide) (fun u h1 h2 => absurd h2 (by omega)) (fun fuel hP => ?_) (fun fuel j hj hP => ?_)
  · exact this
  · show f_X9_fitsIn_2 (fuel + 1) _ _ _ _ = _
    rw [f_X9_fitsIn_2, if_pos (by decide)]
    rw [fitB_iff.mpr (fun q hq => by unfold okc; rw [hP 1 (by omega) (by omega) q hq, hP 2 (by omega) (by omega) q hq, hP 3 (by omega) (by omega) q hq]; rfl)]
    rfl
  · show f_X9_fitsIn_2 (fuel + 1) _ _ _ _ = _ ∨ (_ ∧ f_X9_fitsIn_2 (fuel + 1) _ _ _ _ = f_X9_fitsIn_2 fuel _ _ _ _)
    rw [f_X9_fitsIn_2, if_neg (e3 j hj), p_fits13 (w := w) (s := s) (c := c) _ hE hl ht (by omega) hn e4 hL hc8]
    by_cases g : ∀ q, q < 15 → ok1 x l n w s c (j + 1) (15 * t + q) = true
    · right
      rw [if_pos g]
      refine ⟨fun u h1 h2 q hq => ?_, rfl⟩
      by_cases e : u = j + 1
      · rw [e]; exact g q hq
      · exact hP u h1 (by omega) q hq
    · left
      rw [if_neg g]
      have : fitB x l n w s c t = false := by
        cases e : fitB x l n w s c t
        · rfl
        · refine absurd (fun q hq => ?_) g
          have := fitB_iff.mp e q hq
          unfold okc at this
          rw [Bool.and_eq_true, Bool.and_eq_true] at this
          have hj3 : j = 0 ∨ j = 1 ∨ j = 2 := by omega
          rcases hj3 with rfl | rfl | rfl
          · exact this.1.1
          · exact this.1.2
          · exact this.2
      rw [this]
      rfl
theorem p_fadedIn {x y : St} {l n t : Nat} {w s c : Nat → Nat} (hB : RB x y) (hE : RE x y) (hl : l < 4) (ht : t < 10) (hn : n ≤ 3) (e4 : x (35 + 9 * l) 4 = nI n) (hL : ∀ j, j < n → x (35 + 9 * l + 6) j = nI (w j) ∧ x (35 + 9 * l + 7) j = nI (s j) ∧ w j < 16 ∧ wordOK x y (w j) ∧ s j < 16) (hc8 : ∀ j, j < n → x (35 + 9 * l + 8) j = nI (c j) ∧ c j ≤ 3) : f_X9_fadedIn x l (nI t) = some (nI (sm 15 (fun q => fxk x l n w s c (15 * t + q))), x) := by
  unfold f_X9_fadedIn
  rw [ui_n ht (by decide), nI_clamp (show t < 2 ^ 31 by omega), ul_eq]
  refine loop_J (fun fuel j (p : Int32) => f_X9_fadedIn_15 fuel x l (nI t) (nI (sm 15 (fun q => fxk x l j w s c (15 * t + q)))) p (nI j)) n (fun j p => m15 p ∧ ∀ q, q < 15 → bt p q = (sn x l 0 (15 * t + q) || anyN j (fun i => sn x l (c i) (15 * t + q)))) (fun r => r = some (nI (sm 15 (fun q => fxk x l n w s c (15 * t + q))), x)) (by omega) _ ⟨m15_mk hE hl (show 0 < 4 by omega) ht, fun q hq => ?_⟩ (fun fuel p hp => ?_) (fun fuel j p hj hp => ?_)
  · unfold sn mk
    rw [(d15 hq).1, (d15 hq).2]
    show _ = (_ || false)
    rw [Bool.or_false]
    rfl
  · show f_X9_fadedIn_15 (fuel + 1) _ _ _ _ _ _ = _
    rw [f_X9_fadedIn_15, e4, if_pos (nI_le (Nat.le_refl _) (by omega))]
  · right
    show ∃ p', _ ∧ f_X9_fadedIn_15 (fuel + 1) x l (nI t) (nI (sm 15 (fun q => fxk x l j w s c (15 * t + q)))) p (nI j) = f_X9_fadedIn_15 fuel x l (nI t) (nI (sm 15 (fun q => fxk x l (j + 1) w s c (15 * t + q)))) p' (nI (j + 1))
    have hcj := (hc8 j hj).2
    rw [f_X9_fadedIn_15, e4, if_neg (nI_ge hj (by omega)), p_layerCells hL hn hj ht, ub_some, p_bc (m15_andL (m15_ce hB (hL j hj).2.2.2.1)), ub_some, ul_eq, ui_n (show j < 3 by omega) (by decide), nI_clamp (show j < 2 ^ 31 by omega), (hc8 j hj).1, ui_n (show c j < 4 by omega) (by decide), ui_n ht (by decide), nI_clamp (show c j < 2 ^ 31 by omega), nI_clamp (show t < 2 ^ 31 by omega), ul_eq, ul_eq, nI_1, nI_add]
    refine ⟨p ||| x (35 + 9 * l + 2 + c j) t, ⟨m15_or hp.1 (m15_mk hE hl (by omega) ht), fun q hq => ?_⟩, ?_⟩
    · rw [b_or, hp.2 q hq, anyN_s, ← Bool.or_assoc]
      congr 1
      unfold sn mk
      rw [(d15 hq).1, (d15 hq).2]
    · have : sm 15 (fun q => fxk x l j w s c (15 * t + q)) + pc (ce x (w j) (s j) t &&& p) = sm 15 (fun q => fxk x l (j + 1) w s c (15 * t + q)) := by
        unfold pc
        rw [← sm_add]
        apply sm_congr
        intro q hq
        show fxk x l j w s c (15 * t + q) + bN (bt (ce x (w j) (s j) t &&& p) q) = fxk x l j w s c (15 * t + q) + bN (lh x w s j (15 * t + q) && (sn x l 0 (15 * t + q) || anyN j (fun i => sn x l (c i) (15 * t + q))))
        rw [b_and, hp.2 q hq]
        unfold lh hc
        rw [(d15 hq).1, (d15 hq).2]
      rw [this]
theorem p_fadedX {x y : St} {l n : Nat} {w s c : Nat → Nat} (hB : RB x y) (hE : RE x y) (hl : l < 4) (hn : n ≤ 3) (e4 : x (35 + 9 * l) 4 = nI n) (hL : ∀ j, j < n → x (35 + 9 * l + 6) j = nI (w j) ∧ x (35 + 9 * l + 7) j = nI (s j) ∧ w j < 16 ∧ wordOK x y (w j) ∧ s j < 16) (hc8 : ∀ j, j < n → x (35 + 9 * l + 8) j = nI (c j) ∧ c j ≤ 3) : f_X9_faded_13 fu x (nI l) 0 0 = some (FD x l n w s c, x) := by
  have := loop_P (fun fuel j => f_X9_faded_13 fuel x (nI l) (nI (sm (15 * j) (fxk x l n w s c))) (nI j)) 10 (some (FD x l n w s c, x)) (fun j => ∀ k, k < 15 * j → okc x l n w s c k = true) (by decide) (fun k hk => absurd hk (by omega)) (fun fuel hP => ?_) (fun fuel j hj hP => ?_)
  · exact this
  · show f_X9_faded_13 (fuel + 1) _ _ _ _ = _
    rw [f_X9_faded_13, if_pos (by decide)]
    unfold FD
    rw [if_pos hP]
  · show f_X9_faded_13 (fuel + 1) _ _ _ _ = _ ∨ (_ ∧ f_X9_faded_13 (fuel + 1) _ _ _ _ = f_X9_faded_13 fuel _ _ _ _)
    have h10 : ¬ (10 : Int32) ≤ nI j := by rw [show (10 : Int32) = nI 10 from by decide]; exact nI_ge hj (by decide)
    rw [f_X9_faded_13, if_neg h10, ui_n hl (by decide), nI_clamp (show l < 2 ^ 31 by omega), p_fits hE hl hj hn e4 hL hc8, ub_some, ui_n hl (by decide), p_fadedIn hB hE hl hj hn e4 hL hc8, ub_some]
    simp only [ul_eq, nI_1, nI_add]
    by_cases g : ∀ q, q < 15 → okc x l n w s c (15 * j + q) = true
    · right
      rw [if_neg (by rw [fitB_iff.mpr g]; decide)]
      refine ⟨fun k hk => ?_, ?_⟩
      · by_cases q : k < 15 * j
        · exact hP k q
        · have := g (k - 15 * j) (by omega)
          rw [show 15 * j + (k - 15 * j) = k by omega] at this
          exact this
      · rw [Nat.mul_succ, sm_split]
    · left
      have hz : fitB x l n w s c j = false := by
        cases e : fitB x l n w s c j
        · rfl
        · exact absurd (fitB_iff.mp e) g
      rw [if_pos (by rw [hz]; rfl)]
      unfold FD
      rw [if_neg (fun a => g (fun q hq => a _ (by omega)))]
theorem op_faded {x y : St} (h : Rel x y) (a1 : Int32) : ∃ (r : Int32) (x' y' : St), f_X9_faded x a1 = some (r, x') ∧ f_X10_faded y a1 = some (r, y') ∧ Rel x' y' := by
  obtain ⟨-, hB, -, hE, -, -, -, W, hD, hF, -⟩ := id h
  unfold f_X9_faded f_X10_faded
  simp only [p_isLine, p_mLine, ub_some, bI_z, ite_not]
  by_cases h1 : 0 ≤ a1.toInt ∧ a1.toInt ≤ 3
  · rw [if_pos h1, if_pos h1]
    obtain ⟨l, hl, rfl⟩ := n_of (N := 4) (v := a1) (by omega) (by decide)
    obtain ⟨n, hn, e1, e2, hr, hd⟩ := hF l hl
    have hw6 : ∀ j, j < n → x (35 + 9 * l + 6) j = nI ((x (35 + 9 * l + 6) j).toNatClampNeg) ∧ x (35 + 9 * l + 7) j = nI ((x (35 + 9 * l + 7) j).toNatClampNeg) ∧ (x (35 + 9 * l + 6) j).toNatClampNeg < 16 ∧ wordOK x y ((x (35 + 9 * l + 6) j).toNatClampNeg) ∧ (x (35 + 9 * l + 7) j).toNatClampNeg < 16 := fun j hj => by
      obtain ⟨-, -, -, ⟨w, hw, g1, n9, t, g2, g3, g4⟩, -⟩ := hr j hj
      have hW := hD.1
      rw [g1, g3, nI_clamp (show w < 2 ^ 31 by omega), nI_clamp (show t < 2 ^ 31 by omega)]
      exact ⟨rfl, rfl, by omega, hD.2.2.2.1 w hw, by omega⟩
    have hc8 : ∀ j, j < n → x (35 + 9 * l + 8) j = nI ((x (35 + 9 * l + 8) j).toNatClampNeg) ∧ 1 ≤ (x (35 + 9 * l + 8) j).toNatClampNeg ∧ (x (35 + 9 * l + 8) j).toNatClampNeg ≤ 3 := fun j hj => by
      obtain ⟨-, -, -, -, c, g1, g2, g3⟩ := hr j hj
      rw [g3, nI_clamp (show c < 2 ^ 31 by omega)]
      exact ⟨rfl, g1, g2⟩
    rw [p_fadedX (w := fun j => (x (35 + 9 * l + 6) j).toNatClampNeg) (s := fun j => (x (35 + 9 * l + 7) j).toNatClampNeg) (c := fun j => (x (35 + 9 * l + 8) j).toNatClampNeg) hB hE hl hn e1 hw6 (fun j hj => ⟨(hc8 j hj).1, (hc8 j hj).2.2⟩), p_fadedOf (w := fun j => (x (35 + 9 * l + 6) j).toNatClampNeg) (s := fun j => (x (35 + 9 * l + 7) j).toNatClampNeg) (c := fun j => (x (35 + 9 * l + 8) j).toNatClampNeg) hB hE hl hn e2 (fun j hj => ⟨by rw [← (hr j hj).1]; exact (hw6 j hj).1, by rw [← (hr j hj).2.1]; exact (hw6 j hj).2.1, by rw [← (hr j hj).2.2.1]; exact (hc8 j hj).1, (hw6 j hj).2.2.1, (hw6 j hj).2.2.2.1, (hw6 j hj).2.2.2.2, (hc8 j hj).2⟩) (fun i j hi hj e => hd i j hi hj (by rw [(hc8 i hi).1, (hc8 j hj).1, e])), ub_some]
    exact ⟨_, _, _, rfl, rfl, h⟩
  · rw [if_neg h1, if_neg h1]; exact ⟨_, _, _, rfl, rfl, h⟩
