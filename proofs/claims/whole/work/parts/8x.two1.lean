/-! ===== TWO through one another: what a pair has ===== -/
def w2 (p q : Nat) (i : Nat) : Nat := if i = 0 then p / 10 else q / 10
def s2 (p q : Nat) (i : Nat) : Nat := if i = 0 then p % 10 else q % 10
def c2 (u v : Nat) (i : Nat) : Nat := if i = 0 then u else v
theorem lk_v {x : St} {l u c : Nat} (h : ¬ lk x l u c = -9) : (∀ k, k < 150 → lo x l (c / 10) (c % 10) u k = true) ∧ lk x l u c = nI (sm 150 (lc x l (c / 10) (c % 10) u)) := by
  unfold lk LK at h ⊢
  by_cases g : ∀ k, k < 150 → lo x l (c / 10) (c % 10) u k = true
  · rw [if_pos g]; exact ⟨g, rfl⟩
  · rw [if_neg g] at h; exact absurd rfl h
theorem lo_v {x : St} {l w s u k : Nat} (h : lo x l w s u k = true) (g : sn x l u k = true) : hc x w s k = true := by
  unfold lo at h
  rw [g] at h
  simpa using h
theorem FD_two {x y : St} {l p q u v : Nat} (hE : RE x y) (hl : l < 4) (hu : 1 ≤ u ∧ u ≤ 3) (hv : 1 ≤ v ∧ v ≤ 3) (huv : u ≠ v) (hp : ¬ lk x l u p = -9) (hq : ¬ lk x l v q = -9) : FD x l 2 (w2 p q) (s2 p q) (c2 u v) = if anyN 150 (sn x l (6 - u - v)) = true then -9 else nI (BR x l (p / 10) (p % 10)) + lk x l v q := by
  obtain ⟨p1, p2⟩ := lk_v hp
  obtain ⟨q1, q2⟩ := lk_v hq
  have ok : ∀ k, k < 150 → okc x l 2 (w2 p q) (s2 p q) (c2 u v) k = !sn x l (6 - u - v) k := fun k hk => by
    have ou : ok1 x l 2 (w2 p q) (s2 p q) (c2 u v) u k = true := by
      unfold ok1
      cases g : sn x l u k
      · rfl
      · rw [Bool.not_true, Bool.false_or]
        exact anyN_iff.mpr ⟨0, by omega, by
          have : lh x (w2 p q) (s2 p q) 0 k = true := lo_v (p1 k hk) g
          rw [this]; unfold c2; simp⟩
    have ov : ok1 x l 2 (w2 p q) (s2 p q) (c2 u v) v k = true := by
      unfold ok1
      cases g : sn x l v k
      · rfl
      · rw [Bool.not_true, Bool.false_or]
        exact anyN_iff.mpr ⟨1, by omega, by
          have : lh x (w2 p q) (s2 p q) 1 k = true := lo_v (q1 k hk) g
          rw [this]; unfold c2; simp⟩
    have ot : ok1 x l 2 (w2 p q) (s2 p q) (c2 u v) (6 - u - v) k = !sn x l (6 - u - v) k := by
      unfold ok1
      have : anyN 2 (fun i => decide (c2 u v i = 6 - u - v) && lh x (w2 p q) (s2 p q) i k) = false := by
        cases e : anyN 2 (fun i => decide (c2 u v i = 6 - u - v) && lh x (w2 p q) (s2 p q) i k)
        · rfl
        · obtain ⟨i, hi, g⟩ := anyN_iff.mp e
          rw [Bool.and_eq_true] at g
          have g := of_decide_eq_true g.1
          unfold c2 at g
          split at g <;> omega
      rw [this, Bool.or_false]
    unfold okc
    have : (u = 1 ∧ v = 2) ∨ (u = 1 ∧ v = 3) ∨ (u = 2 ∧ v = 1) ∨ (u = 2 ∧ v = 3) ∨ (u = 3 ∧ v = 1) ∨ (u = 3 ∧ v = 2) := by omega
    rcases this with ⟨rfl, rfl⟩ | ⟨rfl, rfl⟩ | ⟨rfl, rfl⟩ | ⟨rfl, rfl⟩ | ⟨rfl, rfl⟩ | ⟨rfl, rfl⟩
    · rw [ou, ov]; exact ot
    · rw [ou, ov]; rw [show 6 - 1 - 3 = 2 from rfl] at ot ⊢; rw [ot]; simp
    · rw [ou, ov]; exact ot
    · rw [ou, ov]; rw [show 6 - 2 - 3 = 1 from rfl] at ot ⊢; rw [ot]; simp
    · rw [ou, ov]; rw [show 6 - 3 - 1 = 2 from rfl] at ot ⊢; rw [ot]; simp
    · rw [ou, ov]; rw [show 6 - 3 - 2 = 1 from rfl] at ot ⊢; rw [ot]; simp
  unfold FD
  by_cases g : anyN 150 (sn x l (6 - u - v)) = true
  · rw [if_pos g, if_neg (fun a => by
      obtain ⟨k, hk, e⟩ := anyN_iff.mp g
      have := a k hk
      rw [ok k hk, e] at this; cases this)]
  · have gz : ∀ k, k < 150 → sn x l (6 - u - v) k = false := fun k hk => by
      cases e : sn x l (6 - u - v) k
      · rfl
      · exact absurd (anyN_iff.mpr ⟨k, hk, e⟩) g
    rw [if_neg g, if_pos (fun k hk => by rw [ok k hk, gz k hk]; rfl), q2, nI_add]
    refine congrArg nI ?_
    unfold BR
    rw [← sm_add]
    apply sm_congr
    intro k hk
    obtain ⟨v0, h4, -, hb, hkn⟩ := sees hE hl hk
    have z := gz k hk
    rw [hb (6 - u - v) (by omega)] at z
    have z : ¬ 6 - u - v = v0 := by simpa using z
    show 0 + bN (lh x (w2 p q) (s2 p q) 0 k && (sn x l 0 k || false)) + bN (lh x (w2 p q) (s2 p q) 1 k && (sn x l 0 k || (false || sn x l (c2 u v 0) k))) = bN (hc x (p / 10) (p % 10) k && sn x l 0 k) + bN ((hc x (q / 10) (q % 10) k && kn x l k) && !(sn x l v k))
    have e0 : lh x (w2 p q) (s2 p q) 0 k = hc x (p / 10) (p % 10) k := rfl
    have e1 : lh x (w2 p q) (s2 p q) 1 k = hc x (q / 10) (q % 10) k := rfl
    have e2 : c2 u v 0 = u := rfl
    rw [e0, e1, e2, Bool.or_false, Bool.false_or, hb 0 (by omega), hb u (by omega), hb v (by omega), hkn, Nat.zero_add]
    congr 1
    congr 1
    rw [Bool.and_assoc]
    congr 1
    by_cases a0 : v0 = 0
    · have : ¬ v = v0 := by omega
      simp [a0, show ¬ v = 0 by omega]
    · by_cases au : u = v0
      · have : ¬ v = v0 := by omega
        simp [au, this, show ¬ v0 = 4 by omega]
      · by_cases av : v = v0
        · simp [av, au, show ¬ 0 = v0 by omega]
        · have : v0 = 4 := by omega
          simp [this, show ¬ u = 4 by omega]
-- the third colour
theorem p_shows {x y z : St} {l t : Nat} (hE : RE x y) (hK : Kx x z) (hl : l < 4) (ht : t < 4) : f_X2_shows z l (nI t) = some (iB (anyN 150 (sn x l t)), z) := by
  unfold f_X2_shows
  have em : ∀ s, z (35 + 9 * l + 2 + t) s = mk x l t s := fun s => by rw [hK (35 + 9 * l + 2 + t) (by omega) (by omega)]; rfl
  refine loop_J (fun fuel j (p : Int32) => f_X2_shows_4 fuel z l (nI t) p (nI j)) 10 (fun j p => m15 p ∧ ∀ q, q < 15 → bt p q = anyN j (fun s => sn x l t (15 * s + q))) (fun r => r = some (iB (anyN 150 (sn x l t)), z)) (by decide) 0 ⟨m15_0, fun q _ => b_0 q⟩ (fun fuel p hp => ?_) (fun fuel j p hj hp => ?_)
  · show f_X2_shows_4 (fuel + 1) _ _ _ _ _ = _
    rw [f_X2_shows_4, if_pos (by decide)]
    have hz : p = 0 ↔ anyN 150 (sn x l t) = false := by
      rw [m15_z hp.1]
      constructor
      · intro a
        cases e : anyN 150 (sn x l t)
        · rfl
        · obtain ⟨k, hk, g⟩ := anyN_iff.mp e
          have := a (k % 15) (by omega)
          rw [hp.2 (k % 15) (by omega)] at this
          have h2 : anyN 10 (fun s => sn x l t (15 * s + k % 15)) = true := anyN_iff.mpr ⟨k / 15, by omega, by rw [show 15 * (k / 15) + k % 15 = k by omega]; exact g⟩
          rw [h2] at this; cases this
      · intro a q hq
        rw [hp.2 q hq]
        cases e : anyN 10 (fun s => sn x l t (15 * s + q))
        · rfl
        · obtain ⟨s, hs, g⟩ := anyN_iff.mp e
          have h2 : anyN 150 (sn x l t) = true := anyN_iff.mpr ⟨15 * s + q, by omega, g⟩
          rw [h2] at a; cases a
    by_cases g : p = 0
    · rw [if_pos g, hz.mp g]; rfl
    · rw [if_neg g]
      have : anyN 150 (sn x l t) = true := by
        cases e : anyN 150 (sn x l t)
        · exact absurd (hz.mpr e) g
        · rfl
      rw [this]; rfl
  · right
    show ∃ p', _ ∧ f_X2_shows_4 (fuel + 1) z l (nI t) p (nI j) = f_X2_shows_4 fuel z l (nI t) p' (nI (j + 1))
    have h10 : ¬ (10 : Int32) ≤ nI j := by rw [show (10 : Int32) = nI 10 from by decide]; exact nI_ge hj (by decide)
    rw [f_X2_shows_4, if_neg h10, ui_n ht (by decide), ui_n hj (by decide), nI_clamp (show t < 2 ^ 31 by omega), nI_clamp (show j < 2 ^ 31 by omega), em, ul_eq, ul_eq, nI_1]
    refine ⟨_, ⟨m15_or hp.1 (m15_mk hE hl ht hj), fun q hq => ?_⟩, rfl⟩
    rw [b_or, hp.2 q hq, anyN_s]
    congr 1
    unfold sn
    rw [(d15 hq).1, (d15 hq).2]
-- the pairs, and the best of them
def pp (v : Nat → Bool) (c d : Nat) : Bool := v d && !decide (c / 10 = d / 10)
def TT (va vb : Nat → Bool) (C : Nat) (c : Nat) : Nat := sm c (fun c => if va c = true then cnt (pp vb c) C else 0)
theorem TT_s {va vb : Nat → Bool} {C c : Nat} : TT va vb C (c + 1) = TT va vb C c + (if va c = true then cnt (pp vb c) C else 0) := rfl
def tk (st : Option (Int32 × Nat × Nat × Bool)) (v : Int32) (c d : Nat) (f : Bool) : Option (Int32 × Nat × Nat × Bool) := match st with
  | none => some (v, c, d, f)
  | some q => if q.1 ≤ v then some q else some (v, c, d, f)
def S1 (x : St) (l b c d : Nat) : Int32 := nI (BR x l (c / 10) (c % 10)) + lk x l b d
def S2 (x : St) (l a c d : Nat) : Int32 := lk x l a c + nI (BR x l (d / 10) (d % 10))
def u2 (x : St) (l a b : Nat) (st : Option (Int32 × Nat × Nat × Bool)) (c d : Nat) : Option (Int32 × Nat × Nat × Bool) := tk (tk st (S1 x l b c d) c d true) (S2 x l a c d) c d false
def ST2 (x : St) (l a b : Nat) (vb : Nat → Bool) (st : Option (Int32 × Nat × Nat × Bool)) (c : Nat) : Nat → Option (Int32 × Nat × Nat × Bool)
  | 0 => st
  | d + 1 => if pp vb c d = true then u2 x l a b (ST2 x l a b vb st c d) c d else ST2 x l a b vb st c d
theorem ST2_t {x : St} {l a b : Nat} {vb : Nat → Bool} {st : Option (Int32 × Nat × Nat × Bool)} {c d : Nat} (h : pp vb c d = true) : ST2 x l a b vb st c (d + 1) = u2 x l a b (ST2 x l a b vb st c d) c d := if_pos h
theorem ST2_f {x : St} {l a b : Nat} {vb : Nat → Bool} {st : Option (Int32 × Nat × Nat × Bool)} {c d : Nat} (h : pp vb c d = false) : ST2 x l a b vb st c (d + 1) = ST2 x l a b vb st c d := if_neg (by rw [h]; decide)
def STo (x : St) (l a b : Nat) (va vb : Nat → Bool) (C : Nat) : Nat → Option (Int32 × Nat × Nat × Bool)
  | 0 => none
  | c + 1 => if va c = true then ST2 x l a b vb (STo x l a b va vb C c) c C else STo x l a b va vb C c
theorem STo_t {x : St} {l a b : Nat} {va vb : Nat → Bool} {C c : Nat} (h : va c = true) : STo x l a b va vb C (c + 1) = ST2 x l a b vb (STo x l a b va vb C c) c C := if_pos h
theorem STo_f {x : St} {l a b : Nat} {va vb : Nat → Bool} {C c : Nat} (h : va c = false) : STo x l a b va vb C (c + 1) = STo x l a b va vb C c := if_neg (by rw [h]; decide)
theorem sm150 {f : Nat → Bool} : sm 150 (fun k => bN (f k)) ≤ 150 := sm_1 (fun i _ => by unfold bN; split <;> omega)
theorem S1_n {x : St} {l b c d : Nat} (h : ¬ lk x l b d = -9) : ∃ m, m ≤ 300 ∧ S1 x l b c d = nI m := by
  unfold S1
  rw [(lk_v h).2, nI_add]
  have h1 : BR x l (c / 10) (c % 10) ≤ 150 := sm150
  have h2 : sm 150 (lc x l (d / 10) (d % 10) b) ≤ 150 := sm150
  exact ⟨_, by omega, rfl⟩
theorem S2_n {x : St} {l a c d : Nat} (h : ¬ lk x l a c = -9) : ∃ m, m ≤ 300 ∧ S2 x l a c d = nI m := by
  unfold S2
  rw [(lk_v h).2, nI_add]
  have h1 : BR x l (d / 10) (d % 10) ≤ 150 := sm150
  have h2 : sm 150 (lc x l (c / 10) (c % 10) a) ≤ 150 := sm150
  exact ⟨_, by omega, rfl⟩
/-- what a state of the search may be -/
def okS (va vb : Nat → Bool) (C : Nat) (st : Option (Int32 × Nat × Nat × Bool)) : Prop := ∀ v c d f, st = some (v, c, d, f) → (∃ m, m ≤ 300 ∧ v = nI m) ∧ c < C ∧ d < C ∧ va c = true ∧ vb d = true
theorem okS_tk {va vb : Nat → Bool} {C c d : Nat} {st : Option (Int32 × Nat × Nat × Bool)} {v : Int32} {f : Bool} (h : okS va vb C st) (hv : ∃ m, m ≤ 300 ∧ v = nI m) (hc : c < C) (hd : d < C) (ha : va c = true) (hb : vb d = true) : okS va vb C (tk st v c d f) := by
  intro v' c' d' f' e
  unfold tk at e
  cases st with
  | none =>
    cases e
    exact ⟨hv, hc, hd, ha, hb⟩
  | some q =>
    by_cases g : q.1 ≤ v
    · simp only [if_pos g] at e
      exact h v' c' d' f' e
    · simp only [if_neg g] at e
      cases e
      exact ⟨hv, hc, hd, ha, hb⟩
-- the class's places of both colours
def TW (x z : St) (l a b C : Nat) : Prop := (∀ q, q < 86 ∨ 95 < q → z q = x q) ∧ z 86 4 = nI (cnt (vld x l a) C) ∧ z 91 4 = nI (cnt (vld x l b) C) ∧ (∀ d, d < C → vld x l a d = true → z 87 (cnt (vld x l a) d) = nI (d / 10) ∧ z 88 (cnt (vld x l a) d) = nI (d % 10) ∧ z 89 (cnt (vld x l a) d) = lk x l a d ∧ z 90 (cnt (vld x l a) d) = nI (BR x l (d / 10) (d % 10))) ∧ (∀ d, d < C → vld x l b d = true → z 92 (cnt (vld x l b) d) = nI (d / 10) ∧ z 93 (cnt (vld x l b) d) = nI (d % 10) ∧ z 94 (cnt (vld x l b) d) = lk x l b d ∧ z 95 (cnt (vld x l b) d) = nI (BR x l (d / 10) (d % 10)))
theorem p_twoG {x y : St} {W l a b : Nat} (hB : RB x y) (hE : RE x y) (hD : RD W x y) (hl : l < 4) (ha : a < 4) (hb : b < 4) : ∃ z1 z2, f_X9_gatherPlaces x l (nI a) 0 = some ((), z1) ∧ f_X9_gatherPlaces z1 l (nI b) 1 = some ((), z2) ∧ TW x z2 l a b (10 * W) := by
  obtain ⟨z1, f1, f2⟩ := p_gather (i := 0) hB hE hD hl ha
  have hK := PL_Kx f2
  obtain ⟨z2, g1, g2⟩ := p_gather (i := 1) (u := b) (Kx_B hK hB) (Kx_E hK hE) (Kx_D hK hD) hl hb
  refine ⟨z1, z2, f1, g1, ?_⟩
  have hW := hD.1
  obtain ⟨p1, p2, p3⟩ := f2
  obtain ⟨q1, q2, q3⟩ := g2
  have ev : ∀ d, d < 160 → vld z1 l b d = vld x l b d := fun d hd => (vld_K hK hl hd hb).1
  have ec : ∀ d, d ≤ 160 → cnt (vld z1 l b) d = cnt (vld x l b) d := fun d hd => cnt_congr (fun j hj => ev j (by omega))
  refine ⟨fun q hq => ?_, ?_, ?_, fun d hd hv => ?_, fun d hd hv => ?_⟩
  · rw [q1 q (by omega), p1 q (by omega)]
  · rw [q1 86 (by omega)]; exact p2
  · rw [← ec (10 * W) (by omega)]; exact q2
  · rw [q1 87 (by omega), q1 88 (by omega), q1 89 (by omega), q1 90 (by omega)]; exact p3 d hd hv
  · have := q3 d hd (by rw [ev d (by omega)]; exact hv)
    rw [ec d (by omega), (vld_K hK hl (show d < 160 by omega) hb).2, BR_K hK hl (show d / 10 < 16 by omega)] at this
    exact this
theorem p_tries {x z : St} {l a b C : Nat} (hC : C ≤ 160) (h : TW x z l a b C) : f_X3_tries z 0 1 = some (nI (TT (vld x l a) (vld x l b) C C), z) := by
  obtain ⟨-, h1, h2, h3, h4⟩ := h
  have ha := cnt_le (v := vld x l a) (c := C)
  have hb := cnt_le (v := vld x l b) (c := C)
  unfold f_X3_tries
  refine loop_EJ (fun fuel j (s : Int32) => f_X3_tries_5 fuel z 0 1 s (nI j)) C (vld x l a) (fun c s => s = nI (TT (vld x l a) (vld x l b) C c)) (fun r => r = some (nI (TT (vld x l a) (vld x l b) C C), z)) (by omega) 0 rfl (fun c s _ e hs => by rw [hs, TT_s, if_neg (by rw [e]; decide)]; rfl) (fun fuel s hs => ?_) (fun fuel c s hc e hs => ?_)
  · show f_X3_tries_5 (fuel + 1) _ _ _ _ _ = _
    have e86 : z (86 + 5 * 0) 4 = nI (cnt (vld x l a) C) := h1
    rw [f_X3_tries_5, e86, if_pos (nI_le (Nat.le_refl _) (by omega)), hs]
  · right
    show ∃ s', s' = _ ∧ f_X3_tries_5 (fuel + 1) z 0 1 s (nI (cnt (vld x l a) c)) = f_X3_tries_5 fuel z 0 1 s' (nI (cnt (vld x l a) c + 1))
    have e86 : z (86 + 5 * 0) 4 = nI (cnt (vld x l a) C) := h1
    have hlt := cnt_lt e hc
    have e87 : z (86 + 5 * 0 + 1) (cnt (vld x l a) c) = nI (c / 10) := (h3 c hc e).1
    rw [f_X3_tries_5, e86, if_neg (nI_ge hlt (by omega)), hs, TT_s, if_pos e]
    refine ⟨_, rfl, ?_⟩
    generalize TT (vld x l a) (vld x l b) C c = B
    refine loop_EJ (fun fuel' j (s : Int32) => f_X3_tries_17 (f_X3_tries_5 fuel) fuel' z 0 1 s (nI (cnt (vld x l a) c)) (nI j)) C (vld x l b) (fun d s => s = nI (B + cnt (pp (vld x l b) c) d)) (fun r => r = f_X3_tries_5 fuel z 0 1 (nI (B + cnt (pp (vld x l b) c) C)) (nI (cnt (vld x l a) c + 1))) (by omega) (nI B) rfl (fun d s _ e hs => by rw [hs, cnt_f (v := pp (vld x l b) c) (by unfold pp; rw [e]; rfl)]) (fun fuel' s hs => ?_) (fun fuel' d s hd e' hs => ?_)
    · show f_X3_tries_17 _ (fuel' + 1) _ _ _ _ _ _ = _
      have e91 : z (86 + 5 * 1) 4 = nI (cnt (vld x l b) C) := h2
      rw [f_X3_tries_17, e91, if_pos (nI_le (Nat.le_refl _) (by omega)), ul_eq, nI_1, hs]
    · right
      show ∃ s', s' = _ ∧ f_X3_tries_17 _ (fuel' + 1) z 0 1 s (nI (cnt (vld x l a) c)) (nI (cnt (vld x l b) d)) = f_X3_tries_17 _ fuel' z 0 1 s' (nI (cnt (vld x l a) c)) (nI (cnt (vld x l b) d + 1))
      have e91 : z (86 + 5 * 1) 4 = nI (cnt (vld x l b) C) := h2
      have hlt' := cnt_lt e' hd
      have e92 : z (86 + 5 * 1 + 1) (cnt (vld x l b) d) = nI (d / 10) := (h4 d hd e').1
      rw [f_X3_tries_17, e91, if_neg (nI_ge hlt' (by omega)), ui_n (show cnt (vld x l a) c < 160 by omega) (by decide), ui_n (show cnt (vld x l b) d < 160 by omega) (by decide), nI_clamp (show cnt (vld x l a) c < 2 ^ 31 by omega), nI_clamp (show cnt (vld x l b) d < 2 ^ 31 by omega), e87, e92, hs]
      simp only [ul_eq, nI_1]
      by_cases g : c / 10 = d / 10
      · rw [if_pos (by rw [g]), cnt_f (v := pp (vld x l b) c) (by unfold pp; simp [g])]
        exact ⟨_, rfl, rfl⟩
      · rw [if_neg (nI_nq rfl g (by omega) (by omega)), cnt_t (v := pp (vld x l b) c) (by unfold pp; rw [e']; simp [g])]
        exact ⟨_, rfl, rfl⟩
/-- the numbers of Pair -/
def XS (z σ : St) (va vb : Nat → Bool) (st : Option (Int32 × Nat × Nat × Bool)) : Prop := (∀ q, q ≠ 96 → σ q = z q) ∧ (st = none → σ 96 0 = -9) ∧ ∀ v c d f, st = some (v, c, d, f) → σ 96 0 = v ∧ σ 96 1 = nI (cnt va c) ∧ σ 96 2 = nI (cnt vb d) ∧ σ 96 3 = iB f
theorem XS_tk {z σ : St} {va vb : Nat → Bool} {st : Option (Int32 × Nat × Nat × Bool)} {c d : Nat} {v : Int32} {f : Bool} (h : XS z σ va vb st) (ho : ∀ v c d f, st = some (v, c, d, f) → ∃ m, m ≤ 300 ∧ v = nI m) (hv : ∃ m, m ≤ 300 ∧ v = nI m) : ∃ σ', f_X3_take σ v (nI (cnt va c)) (nI (cnt vb d)) (iB f) = some ((), σ') ∧ XS z σ' va vb (tk st v c d f) := by
  obtain ⟨h1, h2, h3⟩ := h
  obtain ⟨m, hm, hv⟩ := hv
  have hnew : ug (unz (iB f)) (ul (us (us (us (us σ 96 0 v) 96 1 (nI (cnt va c))) 96 2 (nI (cnt vb d))) 96 3 (iB f)) fun σ4 => some ((), σ4)) = some ((), us (us (us (us σ 96 0 v) 96 1 (nI (cnt va c))) 96 2 (nI (cnt vb d))) 96 3 (iB f)) := by
    rw [ug_ok (by cases f <;> decide), ul_eq]
  have hx : XS z (us (us (us (us σ 96 0 v) 96 1 (nI (cnt va c))) 96 2 (nI (cnt vb d))) 96 3 (iB f)) va vb (some (v, c, d, f)) := by
    refine ⟨fun q hq => by rw [us_n hq, us_n hq, us_n hq, us_n hq]; exact h1 q hq, fun e => (by cases e), fun v' c' d' f' e => ?_⟩
    cases e
    exact ⟨rfl, rfl, rfl, rfl⟩
  unfold f_X3_take
  simp only [ul_eq] at hnew ⊢
  cases st with
  | none =>
    rw [h2 rfl, if_pos rfl, hnew]
    exact ⟨_, rfl, hx⟩
  | some q =>
    obtain ⟨v', c', d', f'⟩ := q
    have h4 := h3 v' c' d' f' rfl
    obtain ⟨m', hm', ev'⟩ := ho v' c' d' f' rfl
    rw [h4.1, if_neg (show ¬ v' = -9 by rw [ev']; exact nI_m9 (by omega))]
    unfold tk
    by_cases g : v' ≤ v
    · simp only [if_pos g]
      exact ⟨σ, rfl, h1, h2, h3⟩
    · simp only [if_neg g]
      rw [hnew]
      exact ⟨_, rfl, hx⟩
theorem p_seek {x z : St} {l a b C : Nat} (hC : C ≤ 160) (h : TW x z l a b C) : ∃ σ, f_X3_seek z 0 1 = some (if STo x l a b (vld x l a) (vld x l b) C C = none then 0 else 1, σ) ∧ XS z σ (vld x l a) (vld x l b) (STo x l a b (vld x l a) (vld x l b) C C) ∧ okS (vld x l a) (vld x l b) C (STo x l a b (vld x l a) (vld x l b) C C) := by
  obtain ⟨-, h1, h2, h3, h4⟩ := h
  have ha := cnt_le (v := vld x l a) (c := C)
  have hb := cnt_le (v := vld x l b) (c := C)
  unfold f_X3_seek
  rw [ul_eq]
  refine loop_EJ (fun fuel j (σ : St) => f_X3_seek_8 fuel σ 0 1 (nI j)) C (vld x l a) (fun c σ => XS z σ (vld x l a) (vld x l b) (STo x l a b (vld x l a) (vld x l b) C c) ∧ okS (vld x l a) (vld x l b) C (STo x l a b (vld x l a) (vld x l b) C c)) (fun r => ∃ σ, r = some (if STo x l a b (vld x l a) (vld x l b) C C = none then 0 else 1, σ) ∧ XS z σ (vld x l a) (vld x l b) (STo x l a b (vld x l a) (vld x l b) C C) ∧ okS (vld x l a) (vld x l b) C (STo x l a b (vld x l a) (vld x l b) C C)) (by omega) (us z 96 0 (-9)) ⟨⟨fun q hq => us_n hq, fun _ => us_at, fun v c d f e => (by cases e)⟩, fun v c d f e => (by cases e)⟩ (fun c σ _ e hs => by rw [STo_f e]; exact hs) (fun fuel σ hs => ?_) (fun fuel c σ hc e hs => ?_)
  · show ∃ σ', f_X3_seek_8 (fuel + 1) σ 0 1 (nI (cnt (vld x l a) C)) = _ ∧ _
    obtain ⟨hs1, hs2⟩ := hs
    have e86 : σ (86 + 5 * 0) 4 = nI (cnt (vld x l a) C) := by rw [hs1.1 (86 + 5 * 0) (by omega)]; exact h1
    rw [f_X3_seek_8, e86, if_pos (nI_le (Nat.le_refl _) (by omega))]
    refine ⟨σ, ?_, hs1, hs2⟩
    cases hst : STo x l a b (vld x l a) (vld x l b) C C with
    | none => rw [hs1.2.1 hst, if_pos rfl, if_pos rfl]
    | some q =>
      obtain ⟨v, c, d, f⟩ := q
      obtain ⟨⟨m, hm, hv⟩, -⟩ := hs2 v c d f hst
      rw [(hs1.2.2 v c d f hst).1, hv, if_neg (nI_m9 (by omega)), if_neg (by simp)]
  · right
    show ∃ σ', _ ∧ f_X3_seek_8 (fuel + 1) σ 0 1 (nI (cnt (vld x l a) c)) = f_X3_seek_8 fuel σ' 0 1 (nI (cnt (vld x l a) c + 1))
    obtain ⟨hs1, hs2⟩ := hs
    have hlt := cnt_lt e hc
    have e86 : σ (86 + 5 * 0) 4 = nI (cnt (vld x l a) C) := by rw [hs1.1 (86 + 5 * 0) (by omega)]; exact h1
    rw [f_X3_seek_8, e86, if_neg (nI_ge hlt (by omega)), STo_t e]
    have key := loop_EJ (fun fuel' j (τ : St) => f_X3_seek_19 (f_X3_seek_8 fuel) fuel' τ 0 1 (nI (cnt (vld x l a) c)) (nI j)) C (vld x l b) (fun d τ => XS z τ (vld x l a) (vld x l b) (ST2 x l a b (vld x l b) (STo x l a b (vld x l a) (vld x l b) C c) c d) ∧ okS (vld x l a) (vld x l b) C (ST2 x l a b (vld x l b) (STo x l a b (vld x l a) (vld x l b) C c) c d)) (fun r => ∃ σ', (XS z σ' (vld x l a) (vld x l b) (ST2 x l a b (vld x l b) (STo x l a b (vld x l a) (vld x l b) C c) c C) ∧ okS (vld x l a) (vld x l b) C (ST2 x l a b (vld x l b) (STo x l a b (vld x l a) (vld x l b) C c) c C)) ∧ r = f_X3_seek_8 fuel σ' 0 1 (nI (cnt (vld x l a) c + 1))) (by omega) σ ⟨hs1, hs2⟩ (fun d τ _ e' ht => by rw [ST2_f (by unfold pp; rw [e']; rfl)]; exact ht) (fun fuel' τ ht => ?_) (fun fuel' d τ hd e' ht => ?_)
    · exact key
    · show ∃ σ', _ ∧ f_X3_seek_19 _ (fuel' + 1) τ 0 1 (nI (cnt (vld x l a) c)) (nI (cnt (vld x l b) C)) = _
      have e91 : τ (86 + 5 * 1) 4 = nI (cnt (vld x l b) C) := by rw [ht.1.1 (86 + 5 * 1) (by omega)]; exact h2
      rw [f_X3_seek_19, e91, if_pos (nI_le (Nat.le_refl _) (by omega)), ul_eq, nI_1]
      exact ⟨τ, ht, rfl⟩
    · right
      show ∃ τ', _ ∧ f_X3_seek_19 _ (fuel' + 1) τ 0 1 (nI (cnt (vld x l a) c)) (nI (cnt (vld x l b) d)) = f_X3_seek_19 _ fuel' τ' 0 1 (nI (cnt (vld x l a) c)) (nI (cnt (vld x l b) d + 1))
      obtain ⟨ht1, ht2⟩ := ht
      have e91 : τ (86 + 5 * 1) 4 = nI (cnt (vld x l b) C) := by rw [ht1.1 (86 + 5 * 1) (by omega)]; exact h2
      have hlt' := cnt_lt e' hd
      obtain ⟨a1, a2, a3, a4⟩ := h3 c hc e
      obtain ⟨b1, b2, b3, b4⟩ := h4 d hd e'
      have rows : ∀ τ : St, (∀ q, q ≠ 96 → τ q = z q) → τ (86 + 5 * 0 + 1) (cnt (vld x l a) c) = nI (c / 10) ∧ τ (86 + 5 * 0 + 3) (cnt (vld x l a) c) = lk x l a c ∧ τ (86 + 5 * 0 + 4) (cnt (vld x l a) c) = nI (BR x l (c / 10) (c % 10)) ∧ τ (86 + 5 * 1 + 1) (cnt (vld x l b) d) = nI (d / 10) ∧ τ (86 + 5 * 1 + 3) (cnt (vld x l b) d) = lk x l b d ∧ τ (86 + 5 * 1 + 4) (cnt (vld x l b) d) = nI (BR x l (d / 10) (d % 10)) := fun τ hτ => by
        rw [hτ (86 + 5 * 0 + 1) (by omega), hτ (86 + 5 * 0 + 3) (by omega), hτ (86 + 5 * 0 + 4) (by omega), hτ (86 + 5 * 1 + 1) (by omega), hτ (86 + 5 * 1 + 3) (by omega), hτ (86 + 5 * 1 + 4) (by omega)]
        exact ⟨a1, a3, a4, b1, b3, b4⟩
      obtain ⟨r1, r2, r3, r4, r5, r6⟩ := rows τ ht1.1
      rw [f_X3_seek_19, e91, if_neg (nI_ge hlt' (by omega)), ui_n (show cnt (vld x l a) c < 160 by omega) (by decide), ui_n (show cnt (vld x l b) d < 160 by omega) (by decide), ui_n (show cnt (vld x l a) c < 160 by omega) (by decide), ui_n (show cnt (vld x l b) d < 160 by omega) (by decide), nI_clamp (show cnt (vld x l a) c < 2 ^ 31 by omega), nI_clamp (show cnt (vld x l b) d < 2 ^ 31 by omega), r1, r4, r3, r5]
      by_cases g : c / 10 = d / 10
      · rw [if_pos (by rw [g]), ul_eq, nI_1, ST2_f (by unfold pp; simp [g])]
        exact ⟨τ, ⟨ht1, ht2⟩, rfl⟩
      · have n1 := S1_n (c := c) (vld_n9 e')
        have n2 := S2_n (d := d) (vld_n9 e)
        obtain ⟨τ1, t1, t2⟩ := XS_tk (f := true) (c := c) (d := d) ht1 (fun v c d f e => (ht2 v c d f e).1) n1
        have t1' : f_X3_take τ (nI (BR x l (c / 10) (c % 10)) + lk x l b d) (nI (cnt (vld x l a) c)) (nI (cnt (vld x l b) d)) 1 = some ((), τ1) := t1
        obtain ⟨q1, q2, q3, q4, q5, q6⟩ := rows τ1 t2.1
        obtain ⟨τ2, t3, t4⟩ := XS_tk (f := false) (c := c) (d := d) t2 (fun v1 c1 d1 f1 e1 => (okS_tk ht2 n1 hc hd e e' v1 c1 d1 f1 e1).1) n2
        have t3' : f_X3_take τ1 (lk x l a c + nI (BR x l (d / 10) (d % 10))) (nI (cnt (vld x l a) c)) (nI (cnt (vld x l b) d)) 0 = some ((), τ2) := t3
        rw [if_neg (nI_nq rfl g (by omega) (by omega)), t1', ub_some, ui_n (show cnt (vld x l a) c < 160 by omega) (by decide), ui_n (show cnt (vld x l b) d < 160 by omega) (by decide), q2, q6, t3', ub_some, ul_eq, nI_1, ST2_t (by unfold pp; rw [e']; simp [g])]
        exact ⟨τ2, ⟨t4, okS_tk (okS_tk ht2 n1 hc hd e e') n2 hc hd e e'⟩, rfl⟩
