/-! ===== all places of a colour; RIVALS ===== -/
def cnt (v : Nat → Bool) (c : Nat) : Nat := sm c (fun d => bN (v d))
theorem cnt_t {v : Nat → Bool} {c : Nat} (h : v c = true) : cnt v (c + 1) = cnt v c + 1 := by unfold cnt; rw [sm_s, bN_t h]
theorem cnt_f {v : Nat → Bool} {c : Nat} (h : v c = false) : cnt v (c + 1) = cnt v c := by unfold cnt; rw [sm_s, bN_f h]; rfl
theorem cnt_le {v : Nat → Bool} {c : Nat} : cnt v c ≤ c := sm_1 (fun i _ => by unfold bN; split <;> omega)
theorem cnt_mono {v : Nat → Bool} {a b : Nat} (h : a ≤ b) : cnt v a ≤ cnt v b := sm_mono h
theorem cnt_lt {v : Nat → Bool} {d c : Nat} (h : v d = true) (hd : d < c) : cnt v d < cnt v c := by
  have h1 : cnt v (d + 1) ≤ cnt v c := cnt_mono (by omega)
  rw [cnt_t h] at h1; omega
theorem cnt_congr {v w : Nat → Bool} {c : Nat} (h : ∀ d, d < c → v d = w d) : cnt v c = cnt w c := sm_congr (fun d hd => by rw [h d hd])
theorem cnt_0 {v : Nat → Bool} {c : Nat} : cnt v c = 0 ↔ ∀ d, d < c → v d = false := by
  constructor
  · intro h d hd
    cases e : v d
    · rfl
    · have := cnt_lt e hd; omega
  · intro h
    exact sm_zero (fun d hd => by rw [h d hd]; rfl)
/-- a loop over the entries of a row that were noted for the codes that count -/
theorem loop_E {α β : Type} (F : Nat → Nat → β → α) (C : Nat) (v : Nat → Bool) (I : Nat → β → Prop) (Q : α → Prop) (hn : ∀ c s, c < C → v c = false → I c s → I (c + 1) s) (hx : ∀ fuel s, I C s → Q (F (fuel + 1) (cnt v C) s)) (hs : ∀ fuel c s, c < C → v c = true → I c s → Q (F (fuel + 1) (cnt v c) s) ∨ ∃ s', I (c + 1) s' ∧ F (fuel + 1) (cnt v c) s = F fuel (cnt v c + 1) s') : ∀ m c fuel s, c + m = C → cnt v C < fuel + cnt v c → I c s → Q (F fuel (cnt v c) s) := by
  intro m
  induction m with
  | zero =>
    intro c fuel s hc hf hi
    have : c = C := by omega
    subst this
    obtain ⟨g, rfl⟩ : ∃ g, fuel = g + 1 := ⟨fuel - 1, by omega⟩
    exact hx g s hi
  | succ m ih =>
    intro c fuel s hc hf hi
    cases e : v c
    · have := ih (c + 1) fuel s (by omega) (by rw [cnt_f e]; exact hf) (hn c s (by omega) e hi)
      rw [cnt_f e] at this
      exact this
    · have h1 := cnt_lt e (show c < C by omega)
      obtain ⟨g, rfl⟩ : ∃ g, fuel = g + 1 := ⟨fuel - 1, by omega⟩
      rcases hs g c s (by omega) e hi with h | ⟨s', h1, h2⟩
      · exact h
      · rw [h2]
        have := ih (c + 1) g s' (by omega) (by rw [cnt_t e]; omega) h1
        rw [cnt_t e] at this
        exact this
theorem loop_EJ {α β : Type} (F : Nat → Nat → β → α) (C : Nat) (v : Nat → Bool) (I : Nat → β → Prop) (Q : α → Prop) (hC : C < 4999) (s : β) (h0 : I 0 s) (hn : ∀ c s, c < C → v c = false → I c s → I (c + 1) s) (hx : ∀ fuel s, I C s → Q (F (fuel + 1) (cnt v C) s)) (hs : ∀ fuel c s, c < C → v c = true → I c s → Q (F (fuel + 1) (cnt v c) s) ∨ ∃ s', I (c + 1) s' ∧ F (fuel + 1) (cnt v c) s = F fuel (cnt v c + 1) s') : Q (F fu 0 s) :=
  loop_E F C v I Q hn hx hs C 0 fu s (by omega) (by have := cnt_le (v := v) (c := C); unfold fu; omega) h0
-- what is looked at does not change
theorem Kx_B {x z y : St} (h : Kx x z) (hB : RB x y) : RB z y := RB_of (h _ (by omega) (by omega)) rfl hB
theorem Kx_E {x z y : St} (h : Kx x z) (hE : RE x y) : RE z y := RE_of (fun l u hl hu => h _ (by omega) (by omega)) rfl hE
theorem Kx_D {x z y : St} {W : Nat} (h : Kx x z) (hD : RD W x y) : RD W z y := RD_of (by rw [h 8 (by omega) (by omega)]) (fun w hw => h _ (by omega) (by omega)) (h _ (by omega) (by omega)) (h _ (by omega) (by omega)) (h _ (by omega) (by omega)) (h _ (by omega) (by omega)) (h _ (by omega) (by omega)) (h _ (by omega) (by omega)) (h _ (by omega) (by omega)) rfl rfl rfl rfl rfl rfl rfl rfl rfl hD
theorem hc_K {x z : St} (h : Kx x z) {w s : Nat} (hw : w < 16) (k : Nat) : hc z w s k = hc x w s k := by
  unfold hc ce ln
  rw [h 9 (by omega) (by omega), h 11 (by omega) (by omega), h (18 + w) (by omega) (by omega)]
theorem ce_K {x z : St} (h : Kx x z) {w s t : Nat} (hw : w < 16) : ce z w s t = ce x w s t := by
  unfold ce ln
  rw [h 9 (by omega) (by omega), h 11 (by omega) (by omega), h (18 + w) (by omega) (by omega)]
theorem sn_K {x z : St} (h : Kx x z) {l u : Nat} (hl : l < 4) (hu : u < 4) (k : Nat) : sn z l u k = sn x l u k := by
  unfold sn mk
  rw [h (35 + 9 * l + 2 + u) (by omega) (by omega)]
theorem kn_K {x z : St} (h : Kx x z) {l : Nat} (hl : l < 4) (k : Nat) : kn z l k = kn x l k := by
  unfold kn
  rw [sn_K h hl (by omega), sn_K h hl (by omega), sn_K h hl (by omega), sn_K h hl (by omega)]
theorem LK_K {x z : St} (h : Kx x z) {l w s u : Nat} (hl : l < 4) (hw : w < 16) (hu : u < 4) : LK z l w s u = LK x l w s u := by
  have e1 : lo z l w s u = lo x l w s u := funext (fun k => by unfold lo; rw [sn_K h hl hu, hc_K h hw])
  have e2 : lc z l w s u = lc x l w s u := funext (fun k => by unfold lc; rw [sn_K h hl hu, hc_K h hw, kn_K h hl])
  unfold LK
  rw [e1, e2]
theorem BR_K {x z : St} (h : Kx x z) {l w s : Nat} (hl : l < 4) (hw : w < 16) : BR z l w s = BR x l w s := by
  unfold BR
  apply sm_congr
  intro k _
  rw [hc_K h hw, sn_K h hl (by omega)]
theorem ln_K {x z : St} (h : Kx x z) {w : Nat} : ln z w = ln x w := by unfold ln; rw [h 11 (by omega) (by omega)]
def lk (x : St) (l u c : Nat) : Int32 := LK x l (c / 10) (c % 10) u
def vld (x : St) (l u c : Nat) : Bool := (decide (x 17 (c / 10) = 0) && decide (c % 10 + ln x (c / 10) ≤ 10)) && decide (¬ lk x l u c = -9)
theorem vld_n9 {x : St} {l u c : Nat} (h : vld x l u c = true) : ¬ lk x l u c = -9 := by
  unfold vld at h
  rw [Bool.and_eq_true] at h
  exact of_decide_eq_true h.2
theorem vld_K {x z : St} (h : Kx x z) {l u c : Nat} (hl : l < 4) (hc : c < 160) (hu : u < 4) : vld z l u c = vld x l u c ∧ lk z l u c = lk x l u c := by
  have e : lk z l u c = lk x l u c := by unfold lk; exact LK_K h hl (by omega) hu
  refine ⟨?_, e⟩
  unfold vld
  rw [e, ln_K h, h 17 (by omega) (by omega)]
def PL (x z : St) (l u i C : Nat) : Prop := (∀ q, q < 86 + 5 * i ∨ 86 + 5 * i + 4 < q → z q = x q) ∧ z (86 + 5 * i) 4 = nI (cnt (vld x l u) C) ∧ ∀ d, d < C → vld x l u d = true → z (86 + 5 * i + 1) (cnt (vld x l u) d) = nI (d / 10) ∧ z (86 + 5 * i + 2) (cnt (vld x l u) d) = nI (d % 10) ∧ z (86 + 5 * i + 3) (cnt (vld x l u) d) = lk x l u d ∧ z (86 + 5 * i + 4) (cnt (vld x l u) d) = nI (BR x l (d / 10) (d % 10))
theorem PL_Kx {x z : St} {l u i C : Nat} (h : PL x z l u i C) : Kx x z := fun k h1 h2 => h.1 k (by omega)
theorem PL_f {x z : St} {l u i c : Nat} (h : PL x z l u i c) (e : vld x l u c = false) : PL x z l u i (c + 1) := by
  obtain ⟨h1, h2, h3⟩ := h
  refine ⟨h1, by rw [cnt_f e]; exact h2, fun d hd hv => ?_⟩
  by_cases q : d = c
  · subst q; rw [e] at hv; cases hv
  · exact h3 d (by omega) hv
theorem PL_t {x z : St} {l u i c : Nat} (hc : c < 160) (h : PL x z l u i c) (e : vld x l u c = true) : ∃ z', f_X4_add z i (nI (c / 10)) (nI (c % 10)) (lk x l u c) (nI (BR x l (c / 10) (c % 10))) = some ((), z') ∧ PL x z' l u i (c + 1) := by
  obtain ⟨h1, h2, h3⟩ := h
  have hn := cnt_le (v := vld x l u) (c := c)
  have d1 : ∀ (t : St) (j : Nat) (a : Int32), us t (86 + 5 * i + 1) j a (86 + 5 * i) 4 = t (86 + 5 * i) 4 := fun t j a => by rw [us_n (by omega)]
  have d2 : ∀ (t : St) (j : Nat) (a : Int32), us t (86 + 5 * i + 2) j a (86 + 5 * i) 4 = t (86 + 5 * i) 4 := fun t j a => by rw [us_n (by omega)]
  have d3 : ∀ (t : St) (j : Nat) (a : Int32), us t (86 + 5 * i + 3) j a (86 + 5 * i) 4 = t (86 + 5 * i) 4 := fun t j a => by rw [us_n (by omega)]
  have d4 : ∀ (t : St) (j : Nat) (a : Int32), us t (86 + 5 * i + 4) j a (86 + 5 * i) 4 = t (86 + 5 * i) 4 := fun t j a => by rw [us_n (by omega)]
  unfold f_X4_add
  simp only [ul_eq, h2, d1, d2, d3, d4, ui_n (show cnt (vld x l u) c < 160 by omega) (show 160 < 2 ^ 31 by decide), nI_clamp (show cnt (vld x l u) c < 2 ^ 31 by omega), nI_1]
  refine ⟨_, rfl, fun q hq => ?_, ?_, fun d hd hv => ?_⟩
  · rw [us_n (by omega), us_n (by omega), us_n (by omega), us_n (by omega), us_n (by omega)]; exact h1 q hq
  · rw [us_at, cnt_t e]
  · rw [us_n (show 86 + 5 * i + 1 ≠ 86 + 5 * i by omega), us_n (show 86 + 5 * i + 1 ≠ 86 + 5 * i + 4 by omega), us_n (show 86 + 5 * i + 1 ≠ 86 + 5 * i + 3 by omega), us_n (show 86 + 5 * i + 1 ≠ 86 + 5 * i + 2 by omega), us_e, us_n (show 86 + 5 * i + 2 ≠ 86 + 5 * i by omega), us_n (show 86 + 5 * i + 2 ≠ 86 + 5 * i + 4 by omega), us_n (show 86 + 5 * i + 2 ≠ 86 + 5 * i + 3 by omega), us_e, us_n (show 86 + 5 * i + 3 ≠ 86 + 5 * i by omega), us_n (show 86 + 5 * i + 3 ≠ 86 + 5 * i + 4 by omega), us_e, us_n (show 86 + 5 * i + 4 ≠ 86 + 5 * i by omega), us_e, us_n (show 86 + 5 * i + 2 ≠ 86 + 5 * i + 1 by omega), us_n (show 86 + 5 * i + 3 ≠ 86 + 5 * i + 2 by omega), us_n (show 86 + 5 * i + 3 ≠ 86 + 5 * i + 1 by omega), us_n (show 86 + 5 * i + 4 ≠ 86 + 5 * i + 3 by omega), us_n (show 86 + 5 * i + 4 ≠ 86 + 5 * i + 2 by omega), us_n (show 86 + 5 * i + 4 ≠ 86 + 5 * i + 1 by omega)]
    unfold upd
    by_cases q : d = c
    · subst q
      simp only [if_true]
      exact ⟨trivial, trivial, trivial, trivial⟩
    · have := cnt_lt hv (show d < c by omega)
      simp only [if_neg (show ¬ cnt (vld x l u) d = cnt (vld x l u) c by omega)]
      exact h3 d (by omega) hv
theorem p_isThere {x y : St} {W w : Nat} (hD : RD W x y) (hw : w < W) : f_X8_isThere x (nI w) = some (bI (x 17 w = 0), x) := by
  obtain ⟨hW, w1, -⟩ := hD
  unfold f_X8_isThere
  rw [p_wordNo w1 hW, ub_some]
  simp only [bI_z, ite_not]
  rw [if_pos (by rw [nI_toInt (by omega)]; omega), ui_n (by omega) (by decide), nI_clamp (by omega)]
  unfold bI
  by_cases c : x 17 w = 0
  · rw [if_pos c, if_pos c]
  · rw [if_neg c, if_neg c]
theorem p_gather23 {x y : St} {W l u i w : Nat} (k : St → Nat → Int32 → Nat → Int32 → Option (Unit × St)) (hB : RB x y) (hE : RE x y) (hD : RD W x y) (hl : l < 4) (hu : u < 4) (hw : w < W) (z : St) (hz : PL x z l u i (10 * w)) : ∃ z', f_X9_gatherPlaces_23 k fu z l (nI u) i (nI w) 0 = k z' l (nI u) i (nI (w + 1)) ∧ PL x z' l u i (10 * (w + 1)) := by
  have h16 : w < 16 := by have := hD.1; omega
  refine loop_J (fun fuel s (σ : St) => f_X9_gatherPlaces_23 k fuel σ l (nI u) i (nI w) (nI s)) 10 (fun s σ => PL x σ l u i (10 * w + s)) (fun r => ∃ z', r = k z' l (nI u) i (nI (w + 1)) ∧ PL x z' l u i (10 * (w + 1))) (by decide) z hz (fun fuel σ hI => ?_) (fun fuel s σ hs hI => ?_)
  · show ∃ z', f_X9_gatherPlaces_23 k (fuel + 1) σ l (nI u) i (nI w) (nI 10) = _ ∧ _
    rw [f_X9_gatherPlaces_23, if_pos (by decide), ul_eq, nI_1]
    exact ⟨σ, rfl, hI⟩
  · right
    show ∃ σ', PL x σ' l u i (10 * w + s + 1) ∧ f_X9_gatherPlaces_23 k (fuel + 1) σ l (nI u) i (nI w) (nI s) = f_X9_gatherPlaces_23 k fuel σ' l (nI u) i (nI w) (nI (s + 1))
    have hK := PL_Kx hI
    have hDσ := Kx_D hK hD
    have hkσ := hDσ.2.2.2.1 w hw
    have h10 : ¬ (10 : Int32) ≤ nI s := by rw [show (10 : Int32) = nI 10 from by decide]; exact nI_ge hs (by decide)
    have c1 : (10 * w + s) / 10 = w := by omega
    have c2 : (10 * w + s) % 10 = s := by omega
    have ev : vld x l u (10 * w + s) = ((decide (x 17 w = 0) && decide (s + ln x w ≤ 10)) && decide (¬ LK x l w s u = -9)) := by unfold vld lk; rw [c1, c2]
    rw [f_X9_gatherPlaces_23, if_neg h10, p_isThere hDσ hw, ub_some, hK 17 (by omega) (by omega)]
    simp only [bI_z, ite_not, ul_eq, nI_1]
    by_cases g1 : x 17 w = 0
    · rw [if_pos g1, p_onX h16 hkσ, ub_some, ln_K hK, nI_toInt (by omega)]
      simp only [bI_z, ite_not]
      by_cases g2 : s + ln x w ≤ 10
      · rw [if_pos (by omega), p_lackAt (Kx_B hK hB) (Kx_E hK hE) hl h16 hkσ (by omega) hu, ub_some, LK_K hK hl h16 hu]
        by_cases g3 : LK x l w s u = -9
        · rw [if_pos g3]
          exact ⟨σ, PL_f hI (by rw [ev]; simp [g3]), rfl⟩
        · rw [if_neg g3, p_bareAt (Kx_B hK hB) (Kx_E hK hE) hl h16 hkσ (by omega), ub_some, BR_K hK hl h16]
          obtain ⟨z', q1, q2⟩ := PL_t (show 10 * w + s < 160 by omega) hI (by rw [ev]; simp [g1, g2, g3])
          rw [c1, c2, show lk x l u (10 * w + s) = LK x l w s u from by unfold lk; rw [c1, c2]] at q1
          rw [q1, ub_some]
          exact ⟨z', q2, rfl⟩
      · rw [if_neg (by omega)]
        exact ⟨σ, PL_f hI (by rw [ev]; simp [g2]), rfl⟩
    · rw [if_neg g1]
      exact ⟨σ, PL_f hI (by rw [ev]; simp [g1]), rfl⟩
theorem p_gather {x y : St} {W l u i : Nat} (hB : RB x y) (hE : RE x y) (hD : RD W x y) (hl : l < 4) (hu : u < 4) : ∃ z, f_X9_gatherPlaces x l (nI u) i = some ((), z) ∧ PL x z l u i (10 * W) := by
  obtain ⟨hW, w1, -⟩ := id hD
  unfold f_X9_gatherPlaces
  rw [ul_eq]
  refine loop_J (fun fuel w (σ : St) => f_X9_gatherPlaces_8 fuel σ l (nI u) i (nI w)) W (fun w σ => PL x σ l u i (10 * w)) (fun r => ∃ z, r = some ((), z) ∧ PL x z l u i (10 * W)) (by omega) (us x (86 + 5 * i) 4 0) ?_ (fun fuel σ hI => ?_) (fun fuel w σ hw hI => ?_)
  · refine ⟨fun q hq => us_n (by omega), ?_, fun d hd => absurd hd (by omega)⟩
    rw [us_at]; rfl
  · show ∃ z, f_X9_gatherPlaces_8 (fuel + 1) σ l (nI u) i (nI W) = _ ∧ _
    rw [f_X9_gatherPlaces_8, PL_Kx hI 8 (by omega) (by omega), w1, if_pos (nI_le (Nat.le_refl _) (by omega))]
    exact ⟨σ, rfl, hI⟩
  · right
    show ∃ σ', PL x σ' l u i (10 * (w + 1)) ∧ f_X9_gatherPlaces_8 (fuel + 1) σ l (nI u) i (nI w) = f_X9_gatherPlaces_8 fuel σ' l (nI u) i (nI (w + 1))
    rw [f_X9_gatherPlaces_8, PL_Kx hI 8 (by omega) (by omega), w1, if_neg (nI_ge hw (by omega))]
    obtain ⟨z', q1, q2⟩ := p_gather23 (f_X9_gatherPlaces_8 fuel) hB hE hD hl hu hw σ hI
    exact ⟨z', q2, q1⟩
-- the least
def ls (v : Nat → Bool) (f : Nat → Int32) : Nat → Int32
  | 0 => -9
  | c + 1 => if v c = true then (if ls v f c = -9 then f c else if ls v f c < f c then ls v f c else f c) else ls v f c
theorem ls_s {v : Nat → Bool} {f : Nat → Int32} {c : Nat} : ls v f (c + 1) = if v c = true then (if ls v f c = -9 then f c else if ls v f c < f c then ls v f c else f c) else ls v f c := rfl
theorem ls_f {v : Nat → Bool} {f : Nat → Int32} {c : Nat} (h : v c = false) : ls v f (c + 1) = ls v f c := by rw [ls_s, h]; rfl
theorem ls_none {v : Nat → Bool} {f : Nat → Int32} (hf : ∀ d, v d = true → ¬ f d = -9) {c : Nat} : ls v f c = -9 ↔ ∀ d, d < c → v d = false := by
  induction c with
  | zero => exact ⟨fun _ d hd => absurd hd (by omega), fun _ => rfl⟩
  | succ c ih =>
    rw [ls_s]
    constructor
    · intro h
      by_cases e : v c = true
      · rw [if_pos e] at h
        by_cases g : ls v f c = -9
        · rw [if_pos g] at h; exact absurd h (hf c e)
        · rw [if_neg g] at h
          by_cases q : ls v f c < f c
          · rw [if_pos q] at h; exact absurd h g
          · rw [if_neg q] at h; exact absurd h (hf c e)
      · rw [if_neg e] at h
        intro d hd
        by_cases q : d = c
        · subst q; simpa using e
        · exact ih.mp h d (by omega)
    · intro h
      rw [if_neg (by rw [h c (by omega)]; decide)]
      exact ih.mpr (fun d hd => h d (by omega))
theorem ls_min {v : Nat → Bool} {f : Nat → Int32} (hf : ∀ d, v d = true → ¬ f d = -9) {c d : Nat} (hd : d < c) (hv : v d = true) : (ls v f c).toInt ≤ (f d).toInt := by
  induction c with
  | zero => exact absurd hd (by omega)
  | succ c ih =>
    rw [ls_s]
    by_cases e : v c = true
    · rw [if_pos e]
      by_cases q : d = c
      · subst q
        by_cases g : ls v f d = -9
        · rw [if_pos g]; omega
        · rw [if_neg g]
          by_cases q : ls v f d < f d
          · rw [if_pos q]; rw [i_lt] at q; omega
          · rw [if_neg q]; omega
      · have := ih (by omega)
        by_cases g : ls v f c = -9
        · exact absurd ((ls_none hf).mp g d (by omega)) (by rw [hv]; decide)
        · rw [if_neg g]
          by_cases q : ls v f c < f c
          · rw [if_pos q]; exact this
          · rw [if_neg q]; rw [i_lt] at q; omega
    · rw [if_neg e]
      have : d ≠ c := fun q => e (by rw [← q]; exact hv)
      exact ih (by omega)
theorem ls_att {v : Nat → Bool} {f : Nat → Int32} {c : Nat} (h : ¬ ls v f c = -9) : ∃ d, d < c ∧ v d = true ∧ f d = ls v f c := by
  induction c with
  | zero => exact absurd rfl h
  | succ c ih =>
    rw [ls_s] at h ⊢
    by_cases e : v c = true
    · rw [if_pos e] at h ⊢
      by_cases g : ls v f c = -9
      · rw [if_pos g]; exact ⟨c, by omega, e, rfl⟩
      · rw [if_neg g]
        by_cases q : ls v f c < f c
        · rw [if_pos q]
          obtain ⟨d, h1, h2, h3⟩ := ih g
          exact ⟨d, by omega, h2, h3⟩
        · rw [if_neg q]; exact ⟨c, by omega, e, rfl⟩
    · rw [if_neg e] at h ⊢
      obtain ⟨d, h1, h2, h3⟩ := ih h
      exact ⟨d, by omega, h2, h3⟩
def rvl (v : Nat → Bool) (f : Nat → Int32) (a : Int32) (d : Nat) : Bool := v d && decide (f d = a)
def RVd (y z : St) (v : Nat → Bool) (f : Nat → Int32) (C : Nat) : Prop := (∀ q, q ≠ 0 → q ≠ 15 → z q = y q) ∧ (∀ i, i ≠ 17 → z 0 i = y 0 i) ∧ z 0 17 = nI (cnt (rvl v f (ls v f C)) C) ∧ ∀ d, d < C → rvl v f (ls v f C) d = true → z 15 (cnt (rvl v f (ls v f C)) d) = nI d
theorem RVd_f {y z : St} {v : Nat → Bool} {f : Nat → Int32} {c : Nat} (h : RVd y z v f c) (e : v c = false) : RVd y z v f (c + 1) := by
  obtain ⟨h1, h2, h3, h4⟩ := h
  have er : rvl v f (ls v f c) c = false := by unfold rvl; rw [e]; rfl
  unfold RVd
  rw [ls_f e]
  refine ⟨h1, h2, by rw [cnt_f er]; exact h3, fun d hd hv => ?_⟩
  by_cases q : d = c
  · subst q; rw [er] at hv; cases hv
  · exact h4 d (by omega) hv
theorem RVd_fs {y z : St} {v : Nat → Bool} {f : Nat → Int32} {c : Nat} (m : Nat) (h : RVd y z v f c) (e : ∀ d, c ≤ d → d < c + m → v d = false) : RVd y z v f (c + m) := by
  induction m with
  | zero => exact h
  | succ m ih => exact RVd_f (ih (fun d h1 h2 => e d h1 (by omega))) (e (c + m) (by omega) (by omega))
/-- a rival is noted: as one more, or as the first of a lesser LACK -/
theorem RVd_t {y z : St} {v : Nat → Bool} {f : Nat → Int32} {c n : Nat} (hf : ∀ d, v d = true → ¬ f d = -9) (h : RVd y z v f c) (e : v c = true) (hg : ls v f c = -9 ∨ ¬ ls v f c < f c) (hn : n = if f c = ls v f c then cnt (rvl v f (ls v f c)) c else 0) : RVd y (us (us (us z 0 17 (nI n)) 15 n (nI c)) 0 17 (nI (n + 1))) v f (c + 1) ∧ ls v f (c + 1) = f c := by
  have el : ls v f (c + 1) = f c := by
    rw [ls_s, if_pos e]
    rcases hg with g | g
    · rw [if_pos g]
    · by_cases q : ls v f c = -9
      · rw [if_pos q]
      · rw [if_neg q, if_neg g]
  refine ⟨?_, el⟩
  have er : rvl v f (f c) c = true := by unfold rvl; rw [e]; simp
  have hn' : n = cnt (rvl v f (f c)) c := by
    by_cases q : f c = ls v f c
    · rw [hn, if_pos q, ← q]
    · rw [hn, if_neg q]
      symm
      rw [cnt_0]
      intro d hd
      unfold rvl
      cases ev : v d
      · rfl
      · have hm := ls_min hf hd ev
        rcases hg with g | g
        · rw [(ls_none hf).mp g d hd] at ev; cases ev
        · rw [i_lt] at g
          have : ¬ f d = f c := fun q2 => by
            rw [q2] at hm
            apply q
            apply Int32.toInt_inj.mp
            omega
          simp [this]
  obtain ⟨h1, h2, h3, h4⟩ := h
  unfold RVd
  rw [el, cnt_t er, ← hn']
  refine ⟨fun q q0 q15 => by rw [us_n q0, us_n q15, us_n q0]; exact h1 q q0 q15, fun i hi => ?_, us_at, fun d hd hv => ?_⟩
  · show upd (upd (z 0) 17 _) 17 _ i = _
    unfold upd
    rw [if_neg hi, if_neg hi]; exact h2 i hi
  · show upd (z 15) n (nI c) (cnt (rvl v f (f c)) d) = nI d
    unfold upd
    by_cases q : d = c
    · subst q; rw [if_pos hn'.symm]
    · have hlt := cnt_lt hv (show d < c by omega)
      rw [if_neg (by omega)]
      by_cases q2 : f c = ls v f c
      · rw [q2] at hv ⊢
        exact h4 d (by omega) hv
      · rw [hn, if_neg q2] at hn'
        omega
theorem p_setRivals {x y : St} {W l u : Nat} (hB : RB x y) (hE : RE x y) (hD : RD W x y) (hl : l < 4) (hu : u < 4) : ∃ z, f_X10_setRivals y (nI l) (nI u) = some ((), z) ∧ RVd y z (vld x l u) (lk x l u) (10 * W) := by
  obtain ⟨hW, w1, w2, hwd, hst, -⟩ := id hD
  have hf : ∀ d, vld x l u d = true → ¬ lk x l u d = -9 := fun d h => vld_n9 h
  unfold f_X10_setRivals
  rw [ul_eq]
  have hY : ∀ {z : St} {c : Nat}, RVd y z (vld x l u) (lk x l u) c → RB x z ∧ RE x z ∧ (∀ w, w < W → wordOK x z w) ∧ z 0 7 = y 0 7 ∧ z 9 = y 9 := fun {z c} h => by
    have hq : ∀ q, q ≠ 0 → q ≠ 15 → z q = y q := h.1
    exact ⟨RB_of rfl (hq _ (by omega) (by omega)) hB, RE_of (fun _ _ _ _ => rfl) (hq _ (by omega) (by omega)) hE, fun w hw => wordOK_of rfl rfl rfl rfl rfl rfl rfl (hq _ (by omega) (by omega)) (hq _ (by omega) (by omega)) (hq _ (by omega) (by omega)) (hq _ (by omega) (by omega)) (hq _ (by omega) (by omega)) (hq _ (by omega) (by omega)) (hq _ (by omega) (by omega)) (hwd w hw), h.2.1 7 (by omega), hq _ (by omega) (by omega)⟩
  have inner : ∀ (k : St → Int32 → Int32 → Int32 → Int32 → Option (Unit × St)) (w : Nat), w < W → ∀ z, RVd y z (vld x l u) (lk x l u) (10 * w) → ∃ z', f_X10_setRivals_23 k fu z (nI l) (nI u) (ls (vld x l u) (lk x l u) (10 * w)) (nI w) 0 = k z' (nI l) (nI u) (ls (vld x l u) (lk x l u) (10 * (w + 1))) (nI (w + 1)) ∧ RVd y z' (vld x l u) (lk x l u) (10 * (w + 1)) := by
    intro k w hw z hz
    have h16 : w < 16 := by omega
    refine loop_J (fun fuel s (σ : St) => f_X10_setRivals_23 k fuel σ (nI l) (nI u) (ls (vld x l u) (lk x l u) (10 * w + s)) (nI w) (nI s)) 10 (fun s σ => RVd y σ (vld x l u) (lk x l u) (10 * w + s)) (fun r => ∃ z', r = k z' (nI l) (nI u) (ls (vld x l u) (lk x l u) (10 * (w + 1))) (nI (w + 1)) ∧ RVd y z' (vld x l u) (lk x l u) (10 * (w + 1))) (by decide) z hz (fun fuel σ hI => ?_) (fun fuel s σ hs hI => ?_)
    · show ∃ z', f_X10_setRivals_23 k (fuel + 1) σ (nI l) (nI u) (ls (vld x l u) (lk x l u) (10 * w + 10)) (nI w) (nI 10) = _ ∧ _
      rw [f_X10_setRivals_23, if_pos (by decide), ul_eq, nI_1]
      exact ⟨σ, rfl, hI⟩
    · show (∃ z', f_X10_setRivals_23 k (fuel + 1) σ (nI l) (nI u) (ls (vld x l u) (lk x l u) (10 * w + s)) (nI w) (nI s) = _ ∧ _) ∨ ∃ σ', RVd y σ' (vld x l u) (lk x l u) (10 * w + s + 1) ∧ f_X10_setRivals_23 k (fuel + 1) σ (nI l) (nI u) (ls (vld x l u) (lk x l u) (10 * w + s)) (nI w) (nI s) = f_X10_setRivals_23 k fuel σ' (nI l) (nI u) (ls (vld x l u) (lk x l u) (10 * w + s + 1)) (nI w) (nI (s + 1))
      have h10 : ¬ (10 : Int32) ≤ nI s := by rw [show (10 : Int32) = nI 10 from by decide]; exact nI_ge hs (by decide)
      have c1 : (10 * w + s) / 10 = w := by omega
      have c2 : (10 * w + s) % 10 = s := by omega
      have el : lk x l u (10 * w + s) = LK x l w s u := by unfold lk; rw [c1, c2]
      have ev : vld x l u (10 * w + s) = ((decide (x 17 w = 0) && decide (s + ln x w ≤ 10)) && decide (¬ LK x l w s u = -9)) := by unfold vld; rw [el, c1, c2]
      obtain ⟨hB', hE', hw', -, h9⟩ := hY hI
      have hk := hw' w hw
      rw [f_X10_setRivals_23, if_neg h10, ui_n h16 (by decide), nI_clamp (show w < 2 ^ 31 by omega), h9, ← (hst w h16).1]
      simp only [ul_eq, nI_1]
      by_cases g1 : x 17 w = 0
      · right
        rw [if_pos g1, p_onY h16 hk, ub_some, nI_toInt (by omega)]
        simp only [bI_z, ite_not]
        by_cases g2 : s + ln x w ≤ 10
        · rw [if_pos (by omega), p_lackOf hB' hE' hl h16 hk (by omega) hu, ub_some]
          by_cases g3 : LK x l w s u = -9
          · have e0 : vld x l u (10 * w + s) = false := by rw [ev]; simp [g3]
            rw [if_pos g3, ls_f e0]
            exact ⟨σ, RVd_f hI e0, rfl⟩
          · have e1 : vld x l u (10 * w + s) = true := by rw [ev]; simp [g1, g2, g3]
            have e17 : σ 0 17 = nI (cnt (rvl (vld x l u) (lk x l u) (ls (vld x l u) (lk x l u) (10 * w + s))) (10 * w + s)) := hI.2.2.1
            have hcl := cnt_le (v := rvl (vld x l u) (lk x l u) (ls (vld x l u) (lk x l u) (10 * w + s))) (c := 10 * w + s)
            rw [if_neg g3, ← el]
            have tail : (ls (vld x l u) (lk x l u) (10 * w + s) = -9 ∨ ¬ ls (vld x l u) (lk x l u) (10 * w + s) < lk x l u (10 * w + s)) → ∃ σ', RVd y σ' (vld x l u) (lk x l u) (10 * w + s + 1) ∧ f_X10_setRivals_87 k (f_X10_setRivals_23 k fuel) σ (nI l) (nI u) (ls (vld x l u) (lk x l u) (10 * w + s)) (nI w) (nI s) (lk x l u (10 * w + s)) = f_X10_setRivals_23 k fuel σ' (nI l) (nI u) (ls (vld x l u) (lk x l u) (10 * w + s + 1)) (nI w) (nI (s + 1)) := by
              intro hg
              unfold f_X10_setRivals_87
              simp only [ul_eq, us_at, us_d (k := 15) (q := 0) rfl, e10, nI_1]
              by_cases q : lk x l u (10 * w + s) = ls (vld x l u) (lk x l u) (10 * w + s)
              · rw [if_pos q, e17, ui_n (by omega) (by decide), nI_clamp (by omega), nI_1]
                obtain ⟨t1, t2⟩ := RVd_t hf hI e1 hg rfl
                rw [if_pos q] at t1
                refine ⟨_, t1, ?_⟩
                rw [t2]
              · rw [if_neg q, show (0 : Int32) = nI 0 from nI_0.symm, ui_n (show 0 < 160 by omega) (by decide), nI_clamp (show 0 < 2 ^ 31 by omega), nI_1]
                obtain ⟨t1, t2⟩ := RVd_t hf hI e1 hg rfl
                rw [if_neg q] at t1
                refine ⟨_, t1, ?_⟩
                rw [t2]
            by_cases g4 : ls (vld x l u) (lk x l u) (10 * w + s) = -9
            · rw [if_pos g4]
              exact tail (Or.inl g4)
            · rw [if_neg g4]
              by_cases g5 : ls (vld x l u) (lk x l u) (10 * w + s) < lk x l u (10 * w + s)
              · rw [if_pos g5]
                have e2 : ls (vld x l u) (lk x l u) (10 * w + s + 1) = ls (vld x l u) (lk x l u) (10 * w + s) := by rw [ls_s, if_pos e1, if_neg g4, if_pos g5]
                have er : rvl (vld x l u) (lk x l u) (ls (vld x l u) (lk x l u) (10 * w + s)) (10 * w + s) = false := by
                  unfold rvl
                  have : ¬ lk x l u (10 * w + s) = ls (vld x l u) (lk x l u) (10 * w + s) := fun q => by rw [← q, i_lt] at g5; omega
                  simp [this]
                rw [e2]
                refine ⟨σ, ⟨hI.1, hI.2.1, by rw [e2, cnt_f er]; exact e17, fun d hd hv => ?_⟩, rfl⟩
                rw [e2] at hv ⊢
                by_cases q : d = 10 * w + s
                · rw [q, er] at hv; cases hv
                · exact hI.2.2.2 d (by omega) hv
              · rw [if_neg g5]
                exact tail (Or.inr g5)
        · have e0 : vld x l u (10 * w + s) = false := by rw [ev]; simp [g2]
          rw [if_neg (by omega), ls_f e0]
          exact ⟨σ, RVd_f hI e0, rfl⟩
      · left
        rw [if_neg g1]
        have e0 : ∀ d, 10 * w + s ≤ d → d < 10 * w + s + (10 - s) → vld x l u d = false := fun d h1 h2 => by
          unfold vld
          rw [show d / 10 = w by omega]
          simp [g1]
        have e3 : ∀ m, m ≤ 10 - s → ls (vld x l u) (lk x l u) (10 * w + s + m) = ls (vld x l u) (lk x l u) (10 * w + s) := fun m => by
          induction m with
          | zero => intro _; rfl
          | succ m ih => intro hm; rw [← Nat.add_assoc, ls_f (e0 _ (by omega) (by omega)), ih (by omega)]
        have e4 := e3 (10 - s) (by omega)
        rw [show 10 * w + s + (10 - s) = 10 * (w + 1) by omega] at e4
        have := RVd_fs (10 - s) hI e0
        rw [show 10 * w + s + (10 - s) = 10 * (w + 1) by omega] at this
        exact ⟨σ, by rw [e4], this⟩
  refine loop_J (fun fuel w (σ : St) => f_X10_setRivals_11 fuel σ (nI l) (nI u) (ls (vld x l u) (lk x l u) (10 * w)) (nI w)) W (fun w σ => RVd y σ (vld x l u) (lk x l u) (10 * w)) (fun r => ∃ z, r = some ((), z) ∧ RVd y z (vld x l u) (lk x l u) (10 * W)) (by omega) (us y 0 17 0) ?_ (fun fuel σ hI => ?_) (fun fuel w σ hw hI => ?_)
  · refine ⟨fun q q0 _ => us_n q0, fun i hi => ?_, us_at, fun d hd => absurd hd (by omega)⟩
    show upd (y 0) 17 0 i = _
    unfold upd
    rw [if_neg hi]
  · show ∃ z, f_X10_setRivals_11 (fuel + 1) σ (nI l) (nI u) (ls (vld x l u) (lk x l u) (10 * W)) (nI W) = _ ∧ _
    rw [f_X10_setRivals_11, (hY hI).2.2.2.1, w2, if_pos (nI_le (Nat.le_refl _) (by omega))]
    exact ⟨σ, rfl, hI⟩
  · right
    show ∃ σ', RVd y σ' (vld x l u) (lk x l u) (10 * (w + 1)) ∧ f_X10_setRivals_11 (fuel + 1) σ (nI l) (nI u) (ls (vld x l u) (lk x l u) (10 * w)) (nI w) = f_X10_setRivals_11 fuel σ' (nI l) (nI u) (ls (vld x l u) (lk x l u) (10 * (w + 1))) (nI (w + 1))
    rw [f_X10_setRivals_11, (hY hI).2.2.2.1, w2, if_neg (nI_ge hw (by omega))]
    obtain ⟨z', q1, q2⟩ := inner (f_X10_setRivals_11 fuel) w hw σ hI
    exact ⟨z', q2, q1⟩
