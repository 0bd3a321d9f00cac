/-! ===== gain, next ===== -/
theorem cnt_any {v : Nat → Bool} {c : Nat} : 0 < cnt v c ↔ anyN c v = true := by
  rw [anyN_iff]
  constructor
  · intro h
    by_cases g : ∃ i, i < c ∧ v i = true
    · exact g
    · have : cnt v c = 0 := cnt_0.mpr (fun d hd => by
        cases e : v d
        · rfl
        · exact absurd ⟨d, hd, e⟩ g)
      omega
  · rintro ⟨i, hi, e⟩
    have := cnt_lt e hi
    omega
theorem cnt_split {r p : Nat → Bool} {c : Nat} : cnt r c = cnt (fun d => r d && p d) c + cnt (fun d => r d && !p d) c := by
  unfold cnt
  rw [← sm_add]
  apply sm_congr
  intro d _
  show bN (r d) = bN (r d && p d) + bN (r d && !p d)
  cases r d <;> cases p d <;> rfl
/-- cell k is one of the cells of the word and slot of code d -/
def hcd (x : St) (d k : Nat) : Bool := hc x (d / 10) (d % 10) k
def spl (x : St) (rv : Nat → Bool) (C k : Nat) : Bool := anyN C (fun d => rv d && hcd x d k) && anyN C (fun d => rv d && !hcd x d k)
theorem b_32767 : ∀ k, k < 15 → bt 32767 k = true := by decide +kernel
theorem m15_32767 : m15 32767 := ⟨32767, by decide, by decide⟩
def SPX (x z z' : St) (rv : Nat → Bool) (C T : Nat) : Prop := (∀ q, q ≠ 97 → z' q = z q) ∧ ∀ t, t < T → m15 (z' 97 t) ∧ ∀ c, c < 15 → bt (z' 97 t) c = spl x rv C (15 * t + c)
theorem p_split39 {x y z σ : St} {W l u t : Nat} (k : St → Int32 → Int32 → Option (Unit × St)) (hB : RB x y) (hD : RD W x y) (hl : l < 4) (hu : u < 4) (hz : PL x z l u 0 (10 * W)) (hσ : ∀ q, q ≠ 97 → σ q = z q) (L : Int32) (ht : t < 10) : ∃ m, m15 m ∧ (∀ c, c < 15 → bt m c = spl x (rvl (vld x l u) (lk x l u) L) (10 * W) (15 * t + c)) ∧ f_X9_splitRivals_39 k fu σ L (nI t) 0 32767 0 = k (us σ 97 t m) L (nI (t + 1)) := by
  have hC : 10 * W ≤ 160 := by have := hD.1; omega
  have hCl := cnt_le (v := vld x l u) (c := 10 * W)
  have hK : Kx x σ := fun q h1 h2 => (hσ q (by omega)).trans (PL_Kx hz q h1 h2)
  have hDσ := Kx_D hK hD
  obtain ⟨h1, h2, h3⟩ := hz
  have e86 : σ (86 + 5 * 0) = z (86 + 5 * 0) := hσ _ (by omega)
  have e87 : σ (86 + 5 * 0 + 1) = z (86 + 5 * 0 + 1) := hσ _ (by omega)
  have e88 : σ (86 + 5 * 0 + 2) = z (86 + 5 * 0 + 2) := hσ _ (by omega)
  have e89 : σ (86 + 5 * 0 + 3) = z (86 + 5 * 0 + 3) := hσ _ (by omega)
  refine loop_EJ (fun fuel j (s : Int32 × Int32) => f_X9_splitRivals_39 k fuel σ L (nI t) s.1 s.2 (nI j)) (10 * W) (vld x l u)
    (fun c s => (∀ q, bt s.1 q = anyN c (fun d => rvl (vld x l u) (lk x l u) L d && bt (ce x (d / 10) (d % 10) t) q)) ∧ ∀ q, q < 15 → bt s.2 q = !anyN c (fun d => rvl (vld x l u) (lk x l u) L d && !bt (ce x (d / 10) (d % 10) t) q))
    (fun r => ∃ m, m15 m ∧ (∀ c, c < 15 → bt m c = spl x (rvl (vld x l u) (lk x l u) L) (10 * W) (15 * t + c)) ∧ r = k (us σ 97 t m) L (nI (t + 1))) (by omega) (0, 32767) ⟨fun q => b_0 q, fun q hq => b_32767 q hq⟩ (fun c s _ e hs => ?_) (fun fuel s hs => ?_) (fun fuel c s hc e hs => ?_)
  · have er : rvl (vld x l u) (lk x l u) L c = false := by unfold rvl; rw [e]; rfl
    exact ⟨fun q => by rw [hs.1 q, anyN_s, er]; simp, fun q hq => by rw [hs.2 q hq, anyN_s, er]; simp⟩
  · show ∃ m, _ ∧ _ ∧ f_X9_splitRivals_39 k (fuel + 1) σ L (nI t) s.1 s.2 (nI (cnt (vld x l u) (10 * W))) = _
    rw [f_X9_splitRivals_39, e86, h2, if_pos (nI_le (Nat.le_refl _) (by omega)), ui_n ht (by decide), nI_clamp (show t < 2 ^ 31 by omega), ul_eq, ul_eq, nI_1]
    have hm : m15 s.1 := m15_of (fun i hi _ => by
      rw [hs.1 i]
      cases e : anyN (10 * W) (fun d => rvl (vld x l u) (lk x l u) L d && bt (ce x (d / 10) (d % 10) t) i)
      · rfl
      · obtain ⟨d, hd, g⟩ := anyN_iff.mp e
        rw [Bool.and_eq_true, m15_bt (m15_ce hB (hD.2.2.2.1 (d / 10) (by omega))) hi] at g
        exact absurd g.2 (by decide))
    refine ⟨_, m15_andL hm, fun c hc' => ?_, rfl⟩
    rw [b_and, b_not _ (by omega), hs.1 c, hs.2 c hc', Bool.not_not]
    unfold spl hcd hc
    rw [(d15 hc').1, (d15 hc').2]
  · right
    show ∃ s' : Int32 × Int32, _ ∧ f_X9_splitRivals_39 k (fuel + 1) σ L (nI t) s.1 s.2 (nI (cnt (vld x l u) c)) = f_X9_splitRivals_39 k fuel σ L (nI t) s'.1 s'.2 (nI (cnt (vld x l u) c + 1))
    have hlt := cnt_lt e hc
    obtain ⟨p1, p2, p3, -⟩ := h3 c hc e
    rw [f_X9_splitRivals_39, e86, h2, if_neg (nI_ge hlt (by omega)), ui_n (show cnt (vld x l u) c < 160 by omega) (by decide), ui_n (show cnt (vld x l u) c < 160 by omega) (by decide), ui_n (show cnt (vld x l u) c < 160 by omega) (by decide), nI_clamp (show cnt (vld x l u) c < 2 ^ 31 by omega), e89, e87, e88, p1, p2, p3, p_cellsIn (by omega) (hDσ.2.2.2.1 (c / 10) (by omega)) (by omega) (by omega), ub_some, ce_K hK (by omega)]
    simp only [ul_eq, nI_1]
    by_cases q : lk x l u c = L
    · have er : rvl (vld x l u) (lk x l u) L c = true := by unfold rvl; rw [e]; simp [q]
      rw [if_pos q]
      refine ⟨(s.1 ||| ce x (c / 10) (c % 10) t, s.2 &&& ce x (c / 10) (c % 10) t), ⟨fun i => ?_, fun i hi => ?_⟩, rfl⟩
      · show bt (s.1 ||| ce x (c / 10) (c % 10) t) i = _
        rw [b_or, hs.1 i, anyN_s, er]; simp
      · show bt (s.2 &&& ce x (c / 10) (c % 10) t) i = _
        rw [b_and, hs.2 i hi, anyN_s, er]; simp
    · have er : rvl (vld x l u) (lk x l u) L c = false := by unfold rvl; simp [q]
      rw [if_neg q]
      exact ⟨s, ⟨fun i => by rw [hs.1 i, anyN_s, er]; simp, fun i hi => by rw [hs.2 i hi, anyN_s, er]; simp⟩, rfl⟩
theorem p_splitR {x y : St} {W l u : Nat} (hB : RB x y) (hE : RE x y) (hD : RD W x y) (hl : l < 4) (hu : u < 4) : ∃ z z', f_X9_splitRivals x l (nI u) = some ((), z') ∧ PL x z l u 0 (10 * W) ∧ SPX x z z' (rvl (vld x l u) (lk x l u) (ls (vld x l u) (lk x l u) (10 * W))) (10 * W) 10 := by
  obtain ⟨z, f1, f2⟩ := p_gather (i := 0) hB hE hD hl hu
  have hC : 10 * W ≤ 160 := by have := hD.1; omega
  refine ⟨z, ?_⟩
  unfold f_X9_splitRivals
  rw [f1, ub_some, p_least hC f2, ub_some]
  generalize ls (vld x l u) (lk x l u) (10 * W) = L
  have key := loop_J (fun fuel t (σ : St) => f_X9_splitRivals_21 fuel σ L (nI t)) 10 (fun t σ => SPX x z σ (rvl (vld x l u) (lk x l u) L) (10 * W) t) (fun r => ∃ z', r = some ((), z') ∧ SPX x z z' (rvl (vld x l u) (lk x l u) L) (10 * W) 10) (by decide) z ⟨fun q _ => rfl, fun t ht => absurd ht (by omega)⟩ (fun fuel σ hI => ?_) (fun fuel t σ ht hI => ?_)
  · obtain ⟨z', g1, g2⟩ := key
    exact ⟨z', g1, f2, g2⟩
  · show ∃ z', f_X9_splitRivals_21 (fuel + 1) σ L (nI 10) = _ ∧ _
    rw [f_X9_splitRivals_21, if_pos (by decide)]
    exact ⟨σ, rfl, hI⟩
  · right
    show ∃ σ', _ ∧ f_X9_splitRivals_21 (fuel + 1) σ L (nI t) = f_X9_splitRivals_21 fuel σ' L (nI (t + 1))
    have h10 : ¬ (10 : Int32) ≤ nI t := by rw [show (10 : Int32) = nI 10 from by decide]; exact nI_ge ht (by decide)
    rw [f_X9_splitRivals_21, if_neg h10]
    obtain ⟨m, m1, m2, m3⟩ := p_split39 (f_X9_splitRivals_21 fuel) hB hD hl hu f2 hI.1 L ht
    rw [m3]
    refine ⟨_, ⟨fun q hq => by rw [us_n hq]; exact hI.1 q hq, fun t' ht' => ?_⟩, rfl⟩
    rw [us_e]
    unfold upd
    by_cases e : t' = t
    · subst e; rw [if_pos rfl]; exact ⟨m1, m2⟩
    · rw [if_neg e]; exact hI.2 t' (by omega)
-- what a light shows
def lit (x : St) (n : Nat) (g l : Int32) (k : Nat) : Bool := anyN n (fun i => ((decide (x 76 i = g) && decide (x 77 i = l)) && decide (x 78 i = nI (k / 15))) && bt (x 79 i) (k % 15))
theorem p_lightCells {x y z : St} {n t : Nat} (hn : n ≤ 30) (e : x 75 4 = nI n) (hm : ∀ i, i < n → m15 (x 79 i)) (hz : ∀ q, 75 ≤ q → q < 80 → z q = x q) (g l : Int32) : ∃ m, m15 m ∧ (∀ c, c < 15 → bt m c = lit x n g l (15 * t + c)) ∧ f_X1_cellsIn z g l (nI t) = some (m, z) := by
  unfold f_X1_cellsIn
  have e75 := hz 75 (by omega) (by omega)
  have e76 := hz 76 (by omega) (by omega)
  have e77 := hz 77 (by omega) (by omega)
  have e78 := hz 78 (by omega) (by omega)
  have e79 := hz 79 (by omega) (by omega)
  refine loop_J (fun fuel j (s : Int32) => f_X1_cellsIn_6 fuel z g l (nI t) s (nI j)) n (fun j s => ∀ q, bt s q = anyN j (fun i => ((decide (x 76 i = g) && decide (x 77 i = l)) && decide (x 78 i = nI t)) && bt (x 79 i) q)) (fun r => ∃ m, m15 m ∧ (∀ c, c < 15 → bt m c = lit x n g l (15 * t + c)) ∧ r = some (m, z)) (by omega) 0 (fun q => b_0 q) (fun fuel s hs => ?_) (fun fuel j s hj hs => ?_)
  · show ∃ m, _ ∧ _ ∧ f_X1_cellsIn_6 (fuel + 1) z g l (nI t) s (nI n) = _
    rw [f_X1_cellsIn_6, e75, e, if_pos (nI_le (Nat.le_refl _) (by omega))]
    refine ⟨s, m15_of (fun i hi _ => ?_), fun c hc => ?_, rfl⟩
    · rw [hs i]
      cases e' : anyN n (fun j => ((decide (x 76 j = g) && decide (x 77 j = l)) && decide (x 78 j = nI t)) && bt (x 79 j) i)
      · rfl
      · obtain ⟨d, hd, q⟩ := anyN_iff.mp e'
        rw [Bool.and_eq_true, m15_bt (hm d hd) hi] at q
        exact absurd q.2 (by decide)
    · rw [hs c]
      unfold lit
      rw [(d15 hc).1, (d15 hc).2]
  · right
    show ∃ s', _ ∧ f_X1_cellsIn_6 (fuel + 1) z g l (nI t) s (nI j) = f_X1_cellsIn_6 fuel z g l (nI t) s' (nI (j + 1))
    rw [f_X1_cellsIn_6, e75, e, if_neg (nI_ge hj (by omega)), e76, e77, e78, e79]
    simp only [ui_n (show j < 30 by omega) (show 30 < 2 ^ 31 by decide), nI_clamp (show j < 2 ^ 31 by omega), ul_eq, nI_1]
    by_cases c1 : x 76 j = g
    · rw [if_pos c1]
      by_cases c2 : x 77 j = l
      · rw [if_pos c2]
        by_cases c3 : x 78 j = nI t
        · rw [if_pos c3]
          refine ⟨s ||| x 79 j, fun q => ?_, rfl⟩
          rw [b_or, hs q, anyN_s]; simp [c1, c2, c3]
        · rw [if_neg c3]
          exact ⟨s, fun q => by rw [hs q, anyN_s]; simp [c3], rfl⟩
      · rw [if_neg c2]
        exact ⟨s, fun q => by rw [hs q, anyN_s]; simp [c2], rfl⟩
    · rw [if_neg c1]
      exact ⟨s, fun q => by rw [hs q, anyN_s]; simp [c1], rfl⟩
def gn (x : St) (n : Nat) (rv : Nat → Bool) (C : Nat) (g : Int32) (l k : Nat) : Nat := bN ((lit x n g (nI l) k && !kn x l k) && spl x rv C k)
theorem p_gainX {x y z z' : St} {W l u n C : Nat} {rv : Nat → Bool} (hE : RE x y) (hl : l < 4) (hz : PL x z l u 0 C) (hs : SPX x z z' rv C 10) (hn : n ≤ 30) (e : x 75 4 = nI n) (hm : ∀ i, i < n → m15 (x 79 i)) (g : Int32) : f_X9_gainOf z' g (nI l) = some (nI (sm 150 (gn x n rv C g l)), z') := by
  unfold f_X9_gainOf
  have hK : Kx x z' := fun q h1 h2 => (hs.1 q (by omega)).trans (PL_Kx hz q h1 h2)
  have := loop_fu (fun fuel j => f_X9_gainOf_5 fuel z' g (nI l) (nI (sm (15 * j) (gn x n rv C g l))) (nI j)) 10 (some (nI (sm 150 (gn x n rv C g l)), z')) (by decide) (fun fuel => ?_) (fun fuel j hj => ?_)
  · exact this
  · show f_X9_gainOf_5 (fuel + 1) _ _ _ _ _ = _
    rw [f_X9_gainOf_5, if_pos (by decide)]
  · right
    show f_X9_gainOf_5 (fuel + 1) _ _ _ _ _ = f_X9_gainOf_5 fuel _ _ _ _ _
    have h10 : ¬ (10 : Int32) ≤ nI j := by rw [show (10 : Int32) = nI 10 from by decide]; exact nI_ge hj (by decide)
    obtain ⟨m, m1, m2, m3⟩ := p_lightCells (x := x) (y := y) (z := z') (t := j) hn e hm (fun q h1 h2 => hK q (by omega) (by omega)) g (nI l)
    rw [f_X9_gainOf_5, if_neg h10, m3, ub_some, ui_n hl (by decide), nI_clamp (show l < 2 ^ 31 by omega), p_known hj, ub_some, ul_eq, ui_n hj (by decide), nI_clamp (show j < 2 ^ 31 by omega), p_bc (m15_andL (m15_andL m1)), ub_some, ul_eq, ul_eq, nI_1, nI_add]
    have : pc (m &&& (knm z' l j ^^^ -1) &&& z' 97 j) = sm 15 (fun c => gn x n rv C g l (15 * j + c)) := by
      unfold pc
      apply sm_congr
      intro c hc
      unfold gn
      rw [b_and, b_and, b_not _ (by omega), m2 c hc, b_knm hc, kn_K hK hl, (hs.2 j hj).2 c hc]
    rw [this, Nat.mul_succ, sm_split]
theorem p_gain108 {x y z : St} {W l C : Nat} {v : Nat → Bool} {f : Nat → Int32} {g a b : Int32} {k : Nat} (kk : St → Int32 → Int32 → Int32 → Int32 → Option (Int32 × St)) (hB : RB x y) (hE : RE x y) (hD : RD W x y) (hl : l < 4) (hk : k < 150) (hC : C = 10 * W) (hz : RVd y z v f C) : f_X10_gainOf_108 kk fu z g (nI l) a (nI k) b 0 0 = kk z g (nI l) (if ¬ b = 0 ∧ kn x l k = false ∧ spl x (rvl v f (ls v f C)) C k = true then a + 1 else a) (nI (k + 1)) := by
  obtain ⟨z1, z2, z3, z4⟩ := hz
  have hCl : C ≤ 160 := by have := hD.1; omega
  have hcl := cnt_le (v := rvl v f (ls v f C)) (c := C)
  have hB' : RB x z := RB_of rfl (z1 _ (by omega) (by omega)) hB
  have hw' : ∀ w, w < W → wordOK x z w := fun w hw => wordOK_of rfl rfl rfl rfl rfl rfl rfl (z1 _ (by omega) (by omega)) (z1 _ (by omega) (by omega)) (z1 _ (by omega) (by omega)) (z1 _ (by omega) (by omega)) (z1 _ (by omega) (by omega)) (z1 _ (by omega) (by omega)) (z1 _ (by omega) (by omega)) (hD.2.2.2.1 w hw)
  have h14 : z 14 = y 14 := z1 _ (by omega) (by omega)
  obtain ⟨v0, v1, v2, -, v4⟩ := sees hE hl hk
  refine loop_EJ (fun fuel j (s : Int32) => f_X10_gainOf_108 kk fuel z g (nI l) a (nI k) b s (nI j)) C (rvl v f (ls v f C)) (fun c s => s = nI (cnt (fun d => rvl v f (ls v f C) d && hcd x d k) c)) (fun r => r = kk z g (nI l) (if ¬ b = 0 ∧ kn x l k = false ∧ spl x (rvl v f (ls v f C)) C k = true then a + 1 else a) (nI (k + 1))) (by omega) 0 rfl (fun c s _ e hs => by rw [hs, cnt_f (v := fun d => rvl v f (ls v f C) d && hcd x d k) (by rw [e]; rfl)]) (fun fuel s hs => ?_) (fun fuel c s hcC e hs => ?_)
  · show f_X10_gainOf_108 kk (fuel + 1) _ _ _ _ _ _ _ _ = _
    have hc2 := cnt_le (v := fun d => rvl v f (ls v f C) d && hcd x d k) (c := C)
    have hsp := cnt_split (r := rvl v f (ls v f C)) (p := fun d => hcd x d k) (c := C)
    rw [f_X10_gainOf_108, z3, if_pos (nI_le (Nat.le_refl _) (by omega)), e150, ui_n (show 150 * l + k < 600 by omega) (by decide), nI_clamp (show 150 * l + k < 2 ^ 31 by omega), h14, v2, hs]
    simp only [ul_eq, nI_1, nI_p0]
    by_cases c1 : b = 0
    · rw [if_pos c1, if_neg (fun q => q.1 c1)]
    · rw [if_neg c1]
      by_cases c2 : v0 = 4
      · rw [if_pos (by rw [c2]; decide)]
        have hkn : kn x l k = false := by rw [v4, c2]; decide
        by_cases c3 : cnt (fun d => rvl v f (ls v f C) d && hcd x d k) C = 0
        · rw [if_pos (by rw [c3]; decide), if_neg (fun q => by
            have := q.2.2
            unfold spl at this
            rw [Bool.and_eq_true] at this
            have := cnt_any.mpr this.1
            omega)]
        · rw [if_neg (nI_nle (by omega) (by omega))]
          by_cases c4 : cnt (rvl v f (ls v f C)) C ≤ cnt (fun d => rvl v f (ls v f C) d && hcd x d k) C
          · rw [if_pos (nI_le c4 (by omega)), if_neg (fun q => by
              have := q.2.2
              unfold spl at this
              rw [Bool.and_eq_true] at this
              have := cnt_any.mpr this.2
              omega)]
          · rw [if_neg (nI_ge (by omega) (by omega)), if_pos ⟨c1, hkn, by
              unfold spl
              rw [Bool.and_eq_true]
              exact ⟨cnt_any.mp (by omega), cnt_any.mp (by omega)⟩⟩]
      · rw [if_neg (nI_nq (k := 4) (by decide) c2 (by omega) (by decide)), if_neg (fun q => by rw [v4] at q; simp [c2] at q)]
  · right
    show ∃ s', s' = _ ∧ f_X10_gainOf_108 kk (fuel + 1) z g (nI l) a (nI k) b s (nI (cnt (rvl v f (ls v f C)) c)) = f_X10_gainOf_108 kk fuel z g (nI l) a (nI k) b s' (nI (cnt (rvl v f (ls v f C)) c + 1))
    have hlt := cnt_lt e hcC
    have e1 : nI c / 10 = nI (c / 10) := by rw [show (10 : Int32) = nI 10 from by decide]; exact pk_div (by omega) (by decide) (by decide)
    have e2 : nI c - nI c / 10 * 10 = nI (c % 10) := by rw [show (10 : Int32) = nI 10 from by decide]; exact pk_rem (by omega) (by decide) (by decide)
    rw [f_X10_gainOf_108, z3, if_neg (nI_ge hlt (by omega)), ui_n (show cnt (rvl v f (ls v f C)) c < 160 by omega) (by decide), ui_n (show cnt (rvl v f (ls v f C)) c < 160 by omega) (by decide), nI_clamp (show cnt (rvl v f (ls v f C)) c < 2 ^ 31 by omega), z4 c hcC e, e2, e1, p_has hB' (by omega) (hw' (c / 10) (by omega)) (by omega) hk, ub_some, hs]
    simp only [ul_eq, nI_1, nI_p0, bI_z]
    by_cases q : hc x (c / 10) (c % 10) k = true
    · rw [if_neg (fun a => a q), cnt_t (v := fun d => rvl v f (ls v f C) d && hcd x d k) (by rw [e]; unfold hcd; rw [q]; rfl)]
      exact ⟨_, rfl, rfl⟩
    · rw [if_pos q, cnt_f (v := fun d => rvl v f (ls v f C) d && hcd x d k) (by unfold hcd; simp [q])]
      exact ⟨_, rfl, rfl⟩
theorem p_gain19 {x y z : St} {W l C n : Nat} {v : Nat → Bool} {f : Nat → Int32} {g a : Int32} {k : Nat} (kk : St → Int32 → Int32 → Int32 → Int32 → Option (Int32 × St)) (hB : RB x y) (hE : RE x y) (hD : RD W x y) (hl : l < 4) (hk : k < 150) (hC : C = 10 * W) (hz : RVd y z v f C) (hn : n ≤ 30) (e : y 0 32 = nI n) (hr : ∀ i, i < n → x 76 i = y 25 i ∧ x 77 i = y 26 i ∧ x 78 i = y 27 i ∧ x 79 i = y 28 i) : f_X10_gainOf_19 kk fu z g (nI l) a (nI k) 0 0 = kk z g (nI l) (a + nI (gn x n (rvl v f (ls v f C)) C g l k)) (nI (k + 1)) := by
  have d1 : nI k / 15 = nI (k / 15) := by rw [show (15 : Int32) = nI 15 from by decide]; exact pk_div (by omega) (by decide) (by decide)
  have d2 : nI k - nI k / 15 * 15 = nI (k % 15) := by rw [show (15 : Int32) = nI 15 from by decide]; exact pk_rem (by omega) (by decide) (by decide)
  obtain ⟨z1, z2, -⟩ := id hz
  have e32 : z 0 32 = nI n := (z2 32 (by omega)).trans e
  have e25 : z 25 = y 25 := z1 _ (by omega) (by omega)
  have e26 : z 26 = y 26 := z1 _ (by omega) (by omega)
  have e27 : z 27 = y 27 := z1 _ (by omega) (by omega)
  have e28 : z 28 = y 28 := z1 _ (by omega) (by omega)
  have := loop_fu (fun fuel j => f_X10_gainOf_19 kk fuel z g (nI l) a (nI k) (iB (lit x j g (nI l) k)) (nI j)) n (kk z g (nI l) (a + nI (gn x n (rvl v f (ls v f C)) C g l k)) (nI (k + 1))) (by omega) (fun fuel => ?_) (fun fuel j hj => ?_)
  · exact this
  · show f_X10_gainOf_19 kk (fuel + 1) _ _ _ _ _ _ _ = _
    rw [f_X10_gainOf_19, e32, if_pos (nI_le (Nat.le_refl _) (by omega)), p_gain108 kk hB hE hD hl hk hC hz]
    congr 1
    unfold gn
    cases q1 : lit x n g (nI l) k
    · rw [if_neg (fun q => q.1 rfl)]
      show a = a + nI 0
      rw [nI_0, nI_p0]
    · cases q2 : kn x l k
      · cases q3 : spl x (rvl v f (ls v f C)) C k
        · rw [if_neg (fun q => by cases q.2.2)]
          show a = a + nI 0
          rw [nI_0, nI_p0]
        · rw [if_pos ⟨by decide, rfl, rfl⟩]
          rfl
      · rw [if_neg (fun q => by cases q.2.1)]
        show a = a + nI 0
        rw [nI_0, nI_p0]
  · right
    show f_X10_gainOf_19 kk (fuel + 1) _ _ _ _ _ _ _ = f_X10_gainOf_19 kk fuel _ _ _ _ _ _ _
    obtain ⟨r1, r2, r3, r4⟩ := hr j hj
    have el : lit x (j + 1) g (nI l) k = (lit x j g (nI l) k || (((decide (x 76 j = g) && decide (x 77 j = nI l)) && decide (x 78 j = nI (k / 15))) && bt (x 79 j) (k % 15))) := rfl
    rw [f_X10_gainOf_19, e32, if_neg (nI_ge hj (by omega)), d2, d1, e25, e26, e27, e28]
    simp only [ui_n (show j < 30 by omega) (show 30 < 2 ^ 31 by decide), nI_clamp (show j < 2 ^ 31 by omega), ul_eq, nI_1, ← r1, ← r2, ← r3, ← r4, b_test _ (show k % 15 < 32 by omega)]
    rw [el]
    cases q : lit x j g (nI l) k
    · rw [if_pos (show iB false = 0 from rfl), Bool.false_or]
      by_cases c1 : x 76 j = g
      · rw [if_pos c1]
        by_cases c2 : x 77 j = nI l
        · rw [if_pos c2]
          by_cases c3 : x 78 j = nI (k / 15)
          · rw [if_pos c3]
            cases c4 : bt (x 79 j) (k % 15)
            · rw [if_neg (by decide)]; simp [iB]
            · rw [if_pos (by decide)]; simp [c1, c2, c3, iB]
          · rw [if_neg c3]; simp [c3, iB]
        · rw [if_neg c2]; simp [c2, iB]
      · rw [if_neg c1]; simp [c1, iB]
    · rw [if_neg (show ¬ iB true = 0 by decide), Bool.true_or]; rfl
theorem p_gainY {x y z : St} {W l C n : Nat} {v : Nat → Bool} {f : Nat → Int32} (hB : RB x y) (hE : RE x y) (hD : RD W x y) (hl : l < 4) (hC : C = 10 * W) (hz : RVd y z v f C) (hn : n ≤ 30) (e : y 0 32 = nI n) (hr : ∀ i, i < n → x 76 i = y 25 i ∧ x 77 i = y 26 i ∧ x 78 i = y 27 i ∧ x 79 i = y 28 i) (g : Int32) : f_X10_gainOf z g (nI l) = some (nI (sm 150 (gn x n (rvl v f (ls v f C)) C g l)), z) := by
  unfold f_X10_gainOf
  have := loop_fu (fun fuel j => f_X10_gainOf_5 fuel z g (nI l) (nI (sm j (gn x n (rvl v f (ls v f C)) C g l))) (nI j)) 150 (some (nI (sm 150 (gn x n (rvl v f (ls v f C)) C g l)), z)) (by decide) (fun fuel => ?_) (fun fuel j hj => ?_)
  · exact this
  · show f_X10_gainOf_5 (fuel + 1) _ _ _ _ _ = _
    rw [f_X10_gainOf_5, if_pos (by decide)]
  · right
    show f_X10_gainOf_5 (fuel + 1) _ _ _ _ _ = f_X10_gainOf_5 fuel _ _ _ _ _
    have h150 : ¬ (150 : Int32) ≤ nI j := by rw [show (150 : Int32) = nI 150 from by decide]; exact nI_ge hj (by decide)
    rw [f_X10_gainOf_5, if_neg h150, p_gain19 _ hB hE hD hl hj hC hz hn e hr, nI_add, sm_s]
/-- behind the splitting the relation holds -/
theorem Rel_SP {x y z z' y' : St} {l u C T : Nat} {rv v : Nat → Bool} {f : Nat → Int32} (h : Rel x y) (hX : PL x z l u 0 C) (hS : SPX x z z' rv C T) (hY : RVd y y' v f C) : Rel z' y' := by
  have hR := Rel_PR h hX hY
  refine Rel_K (x := z) (y := y') (fun q h1 h2 => hS.1 q (by omega)) ⟨fun _ _ _ _ _ _ _ => rfl, rfl, rfl, rfl, rfl, rfl, rfl, rfl⟩ ?_ hR
  obtain ⟨a1, a2, a3⟩ := hR.1
  unfold RA
  rw [hS.1 0 (by omega), hS.1 98 (by omega)]
  exact ⟨a1, a2, a3⟩
theorem op_gain {x y : St} (h : Rel x y) (a1 a2 a3 : Int32) : ∃ (r : Int32) (x' y' : St), f_X9_gain x a1 a2 a3 = some (r, x') ∧ f_X10_gain y a1 a2 a3 = some (r, y') ∧ Rel x' y' := by
  obtain ⟨-, hB, -, hE, -, hH, -, W, hD, -⟩ := id h
  obtain ⟨n, hn, e1, e2, hr⟩ := hH
  unfold f_X9_gain f_X10_gain
  simp only [p_lightNo, p_in, p_isLine, p_mLine, p_isColour, p_mColour, ub_some, bI_z, ite_not]
  rw [show (0 : Int32).toInt = 0 from by decide, show (5 : Int32).toInt = 5 from by decide]
  by_cases h1 : 0 ≤ a1.toInt ∧ a1.toInt ≤ 5
  · rw [if_pos h1, if_pos h1]
    by_cases h2 : 0 ≤ a2.toInt ∧ a2.toInt ≤ 3
    · rw [if_pos h2, if_pos h2]
      by_cases h3 : 1 ≤ a3.toInt ∧ a3.toInt ≤ 3
      · rw [if_pos h3, if_pos h3]
        obtain ⟨l, hl, rfl⟩ := n_of (N := 4) (v := a2) (by omega) (by decide)
        obtain ⟨u, hu, rfl⟩ := n_of (N := 4) (v := a3) (by omega) (by decide)
        obtain ⟨z, x', f1, f2, f3⟩ := p_splitR hB hE hD hl hu
        obtain ⟨y', g1, g2⟩ := p_setRivals hB hE hD hl hu
        rw [ui_n hl (by decide), nI_clamp (by omega), f1, ub_some, g1, ub_some, p_gainX (W := W) hE hl f2 f3 hn e1 (fun i hi => (hr i hi).2.2.2.2.1), ub_some, p_gainY hB hE hD hl rfl g2 hn e2 (fun i hi => ⟨(hr i hi).1, (hr i hi).2.1, (hr i hi).2.2.1, (hr i hi).2.2.2.1⟩), ub_some]
        exact ⟨_, _, _, rfl, rfl, Rel_SP h f2 f3 g2⟩
      · rw [if_neg h3, if_neg h3]; exact ⟨_, _, _, rfl, rfl, h⟩
    · rw [if_neg h2, if_neg h2]; exact ⟨_, _, _, rfl, rfl, h⟩
  · rw [if_neg h1, if_neg h1]; exact ⟨_, _, _, rfl, rfl, h⟩
def nxt (G : Nat → Int32) : Nat → Int32 × Int32
  | 0 => (-9, 0)
  | j + 1 => if G j ≤ (nxt G j).2 then nxt G j else (nI j, G j)
theorem op_next {x y : St} (h : Rel x y) (a1 a2 : Int32) : ∃ (r : Int32) (x' y' : St), f_X9_next x a1 a2 = some (r, x') ∧ f_X10_next y a1 a2 = some (r, y') ∧ Rel x' y' := by
  obtain ⟨-, hB, -, hE, -, hH, -, W, hD, -⟩ := id h
  obtain ⟨n, hn, e1, e2, hr⟩ := hH
  unfold f_X9_next f_X10_next
  simp only [p_isLine, p_mLine, p_isColour, p_mColour, ub_some, bI_z, ite_not]
  by_cases h2 : 0 ≤ a1.toInt ∧ a1.toInt ≤ 3
  · rw [if_pos h2, if_pos h2]
    by_cases h3 : 1 ≤ a2.toInt ∧ a2.toInt ≤ 3
    · rw [if_pos h3, if_pos h3]
      obtain ⟨l, hl, rfl⟩ := n_of (N := 4) (v := a1) (by omega) (by decide)
      obtain ⟨u, hu, rfl⟩ := n_of (N := 4) (v := a2) (by omega) (by decide)
      obtain ⟨z, x', f1, f2, f3⟩ := p_splitR hB hE hD hl hu
      obtain ⟨y', g1, g2⟩ := p_setRivals hB hE hD hl hu
      rw [ui_n hl (by decide), nI_clamp (by omega), f1, ub_some, g1, ub_some]
      have gx : ∀ g, f_X9_gainOf x' g (nI l) = _ := fun g => p_gainX (W := W) hE hl f2 f3 hn e1 (fun i hi => (hr i hi).2.2.2.2.1) g
      have gy : ∀ g, f_X10_gainOf y' g (nI l) = _ := fun g => p_gainY hB hE hD hl rfl g2 hn e2 (fun i hi => ⟨(hr i hi).1, (hr i hi).2.1, (hr i hi).2.2.1, (hr i hi).2.2.2.1⟩) g
      generalize hG : (fun j : Nat => nI (sm 150 (gn x n (rvl (vld x l u) (lk x l u) (ls (vld x l u) (lk x l u) (10 * W))) (10 * W) (nI j) l))) = G
      have gx' : ∀ j : Nat, f_X9_gainOf x' (nI j) (nI l) = some (G j, x') := fun j => by rw [gx, ← hG]
      have gy' : ∀ j : Nat, f_X10_gainOf y' (nI j) (nI l) = some (G j, y') := fun j => by rw [gy, ← hG]
      have h6 : ∀ j, j < 6 → ¬ (6 : Int32) ≤ nI j := fun j hj => by rw [show (6 : Int32) = nI 6 from by decide]; exact nI_ge hj (by decide)
      have rx : f_X9_next_36 fu x' (nI l) (-9) 0 0 = some ((nxt G 6).1, x') := by
        have := loop_fu (fun fuel j => f_X9_next_36 fuel x' (nI l) (nxt G j).1 (nxt G j).2 (nI j)) 6 (some ((nxt G 6).1, x')) (by decide) (fun fuel => ?_) (fun fuel j hj => ?_)
        · exact this
        · show f_X9_next_36 (fuel + 1) _ _ _ _ _ = _
          rw [f_X9_next_36, if_pos (by decide)]
        · right
          show f_X9_next_36 (fuel + 1) _ _ _ _ _ = f_X9_next_36 fuel _ _ _ _ _
          have en : nxt G (j + 1) = if G j ≤ (nxt G j).2 then nxt G j else (nI j, G j) := rfl
          rw [f_X9_next_36, if_neg (h6 j hj), gx', ub_some, en]
          simp only [ul_eq, nI_1]
          by_cases c : G j ≤ (nxt G j).2
          · rw [if_pos c, if_pos c]
          · rw [if_neg c, if_neg c]
      have ry : f_X10_next_31 fu y' (nI l) (-9) 0 0 = some ((nxt G 6).1, y') := by
        have := loop_fu (fun fuel j => f_X10_next_31 fuel y' (nI l) (nxt G j).1 (nxt G j).2 (nI j)) 6 (some ((nxt G 6).1, y')) (by decide) (fun fuel => ?_) (fun fuel j hj => ?_)
        · exact this
        · show f_X10_next_31 (fuel + 1) _ _ _ _ _ = _
          rw [f_X10_next_31, if_pos (by decide)]
        · right
          show f_X10_next_31 (fuel + 1) _ _ _ _ _ = f_X10_next_31 fuel _ _ _ _ _
          have en : nxt G (j + 1) = if G j ≤ (nxt G j).2 then nxt G j else (nI j, G j) := rfl
          rw [f_X10_next_31, if_neg (h6 j hj), gy', ub_some, en]
          simp only [ul_eq, nI_1]
          by_cases c : G j ≤ (nxt G j).2
          · simp only [if_pos c]
          · simp only [if_neg c]
      rw [rx, ry]
      exact ⟨_, _, _, rfl, rfl, Rel_SP h f2 f3 g2⟩
    · rw [if_neg h3, if_neg h3]; exact ⟨_, _, _, rfl, rfl, h⟩
  · rw [if_neg h2, if_neg h2]; exact ⟨_, _, _, rfl, rfl, h⟩
