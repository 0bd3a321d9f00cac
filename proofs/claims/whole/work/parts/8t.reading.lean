/-! ===== reading, rivals ===== -/
theorem p_least {x z : St} {l u i C : Nat} (hC : C ≤ 160) (h : PL x z l u i C) : f_X4_leastLack z i = some (ls (vld x l u) (lk x l u) C, z) := by
  obtain ⟨h1, h2, h3⟩ := h
  have hf : ∀ d, vld x l u d = true → ¬ lk x l u d = -9 := fun d h => vld_n9 h
  have hCl := cnt_le (v := vld x l u) (c := C)
  unfold f_X4_leastLack
  refine loop_EJ (fun fuel j (s : Int32) => f_X4_leastLack_5 fuel z i s (nI j)) C (vld x l u) (fun c s => s = ls (vld x l u) (lk x l u) c) (fun r => r = some (ls (vld x l u) (lk x l u) C, z)) (by omega) (-9) rfl (fun c s _ e hs => by rw [hs, ls_f e]) (fun fuel s hs => ?_) (fun fuel c s hc e hs => ?_)
  · show f_X4_leastLack_5 (fuel + 1) _ _ _ _ = _
    rw [f_X4_leastLack_5, h2, if_pos (nI_le (Nat.le_refl _) (by omega)), hs]
  · right
    show ∃ s', s' = ls (vld x l u) (lk x l u) (c + 1) ∧ f_X4_leastLack_5 (fuel + 1) z i s (nI (cnt (vld x l u) c)) = f_X4_leastLack_5 fuel z i s' (nI (cnt (vld x l u) c + 1))
    have hlt := cnt_lt e hc
    rw [f_X4_leastLack_5, h2, if_neg (nI_ge hlt (by omega)), ui_n (show cnt (vld x l u) c < 160 by omega) (by decide), ui_n (show cnt (vld x l u) c < 160 by omega) (by decide), nI_clamp (show cnt (vld x l u) c < 2 ^ 31 by omega), (h3 c hc e).2.2.1]
    simp only [ul_eq, nI_1]
    rw [ls_s, if_pos e, ← hs]
    by_cases q : cnt (vld x l u) c = 0
    · rw [if_pos (show s = -9 by rw [hs]; exact (ls_none hf).mpr (cnt_0.mp q)), if_pos (show nI (cnt (vld x l u) c) = 0 by rw [q]; rfl)]
      exact ⟨_, rfl, rfl⟩
    · have hm : (if lk x l u c < s then lk x l u c else s) = (if s < lk x l u c then s else lk x l u c) := by
        by_cases a : lk x l u c < s
        · rw [if_pos a, if_neg (by rw [i_lt] at a ⊢; omega)]
        · rw [if_neg a]
          by_cases b : s < lk x l u c
          · rw [if_pos b]
          · rw [if_neg b]
            rw [i_lt] at a b
            apply Int32.toInt_inj.mp
            omega
      rw [if_neg (show ¬ s = -9 by rw [hs]; exact fun g => q (cnt_0.mpr ((ls_none hf).mp g))), if_neg (show ¬ nI (cnt (vld x l u) c) = 0 from nI_ne0 (by omega) (by omega)), hm]
      exact ⟨_, rfl, rfl⟩
theorem p_first {x z : St} {l u i C : Nat} (hC : C ≤ 160) (h : PL x z l u i C) : (∃ d, d < C ∧ rvl (vld x l u) (lk x l u) (ls (vld x l u) (lk x l u) C) d = true ∧ (∀ j, j < d → rvl (vld x l u) (lk x l u) (ls (vld x l u) (lk x l u) C) j = false) ∧ f_X4_firstRival z i = some (nI (cnt (vld x l u) d), z)) ∨ ((∀ d, d < C → vld x l u d = false) ∧ f_X4_firstRival z i = some (-9, z)) := by
  have hf : ∀ d, vld x l u d = true → ¬ lk x l u d = -9 := fun d h => vld_n9 h
  have hCl := cnt_le (v := vld x l u) (c := C)
  have hl := p_least hC h
  obtain ⟨h1, h2, h3⟩ := h
  unfold f_X4_firstRival
  rw [hl, ub_some]
  by_cases g : ls (vld x l u) (lk x l u) C = -9
  · right
    have hn := (ls_none hf).mp g
    refine ⟨hn, ?_⟩
    have ef : fu = 4999 + 1 := rfl
    rw [ef, f_X4_firstRival_7, h2, cnt_0.mpr hn, if_pos (by decide)]
  · left
    obtain ⟨d, q1, q2, q3⟩ := ls_att g
    obtain ⟨d0, ⟨r1, r2⟩, r3⟩ := pk_least (fun d => d < C ∧ rvl (vld x l u) (lk x l u) (ls (vld x l u) (lk x l u) C) d = true) ⟨d, q1, by unfold rvl; rw [q2, q3]; simp⟩
    have r4 : ∀ j, j < d0 → rvl (vld x l u) (lk x l u) (ls (vld x l u) (lk x l u) C) j = false := fun j hj => by
      have := r3 j hj
      cases e : rvl (vld x l u) (lk x l u) (ls (vld x l u) (lk x l u) C) j
      · rfl
      · exact absurd ⟨by omega, e⟩ this
    have r5 : vld x l u d0 = true ∧ lk x l u d0 = ls (vld x l u) (lk x l u) C := by
      unfold rvl at r2
      rw [Bool.and_eq_true] at r2
      exact ⟨r2.1, of_decide_eq_true r2.2⟩
    refine ⟨d0, r1, r2, r4, ?_⟩
    refine loop_EJ (fun fuel j (_ : Unit) => f_X4_firstRival_7 fuel z i (ls (vld x l u) (lk x l u) C) (nI j)) C (vld x l u) (fun c _ => c ≤ d0) (fun r => r = some (nI (cnt (vld x l u) d0), z)) (by omega) () (by omega) (fun c _ _ e hs => ?_) (fun fuel _ hs => by omega) (fun fuel c _ hc e hs => ?_)
    · have : c ≠ d0 := fun q => by rw [q, r5.1] at e; cases e
      omega
    · show f_X4_firstRival_7 (fuel + 1) z i _ (nI (cnt (vld x l u) c)) = _ ∨ ∃ s' : Unit, c + 1 ≤ d0 ∧ f_X4_firstRival_7 (fuel + 1) z i _ (nI (cnt (vld x l u) c)) = f_X4_firstRival_7 fuel z i _ (nI (cnt (vld x l u) c + 1))
      have hlt := cnt_lt e hc
      rw [f_X4_firstRival_7, h2, if_neg (nI_ge hlt (by omega)), ui_n (show cnt (vld x l u) c < 160 by omega) (by decide), nI_clamp (show cnt (vld x l u) c < 2 ^ 31 by omega), (h3 c hc e).2.2.1, ul_eq, nI_1]
      by_cases q : c = d0
      · left
        rw [if_pos (by rw [q]; exact r5.2), q]
      · right
        refine ⟨(), by omega, ?_⟩
        rw [if_neg (fun a => by have := r4 c (by omega); unfold rvl at this; rw [e, a] at this; simp at this)]
theorem p_nRivals {x z : St} {l u i C : Nat} (hC : C ≤ 160) (h : PL x z l u i C) : f_X4_sizeOfRivals z i = some (nI (cnt (rvl (vld x l u) (lk x l u) (ls (vld x l u) (lk x l u) C)) C), z) := by
  have hCl := cnt_le (v := vld x l u) (c := C)
  have hl := p_least hC h
  obtain ⟨h1, h2, h3⟩ := h
  unfold f_X4_sizeOfRivals
  rw [hl, ub_some]
  generalize hL : ls (vld x l u) (lk x l u) C = L
  refine loop_EJ (fun fuel j (s : Int32) => f_X4_sizeOfRivals_9 fuel z i L s (nI j)) C (vld x l u) (fun c s => s = nI (cnt (rvl (vld x l u) (lk x l u) L) c)) (fun r => r = some (nI (cnt (rvl (vld x l u) (lk x l u) L) C), z)) (by omega) 0 rfl (fun c s _ e hs => by rw [hs, cnt_f (show rvl (vld x l u) (lk x l u) L c = false by unfold rvl; rw [e]; rfl)]) (fun fuel s hs => ?_) (fun fuel c s hc e hs => ?_)
  · show f_X4_sizeOfRivals_9 (fuel + 1) _ _ _ _ _ = _
    rw [f_X4_sizeOfRivals_9, h2, if_pos (nI_le (Nat.le_refl _) (by omega)), hs]
  · right
    show ∃ s', s' = nI (cnt (rvl (vld x l u) (lk x l u) L) (c + 1)) ∧ f_X4_sizeOfRivals_9 (fuel + 1) z i L s (nI (cnt (vld x l u) c)) = f_X4_sizeOfRivals_9 fuel z i L s' (nI (cnt (vld x l u) c + 1))
    have hlt := cnt_lt e hc
    rw [f_X4_sizeOfRivals_9, h2, if_neg (nI_ge hlt (by omega)), ui_n (show cnt (vld x l u) c < 160 by omega) (by decide), nI_clamp (show cnt (vld x l u) c < 2 ^ 31 by omega), (h3 c hc e).2.2.1, hs]
    simp only [ul_eq, nI_1]
    by_cases q : lk x l u c = L
    · rw [if_pos q, cnt_t (show rvl (vld x l u) (lk x l u) L c = true by unfold rvl; rw [e]; simp [q])]
      exact ⟨_, rfl, rfl⟩
    · rw [if_neg q, cnt_f (show rvl (vld x l u) (lk x l u) L c = false by unfold rvl; simp [q])]
      exact ⟨_, rfl, rfl⟩
theorem Ky_RV {y z : St} {v : Nat → Bool} {f : Nat → Int32} {C : Nat} (h : RVd y z v f C) : Ky y z := ⟨fun k k2 _ _ k15 _ _ => h.1 k (by omega) k15, h.2.1 7 (by omega), h.2.1 26 (by omega), h.2.1 30 (by omega), h.2.1 31 (by omega), h.2.1 32 (by omega), h.2.1 37 (by omega), h.2.1 40 (by omega)⟩
/-- behind the gathering of the class and of the reference the relation holds -/
theorem Rel_PR {x y x' y' : St} {l u C : Nat} {v : Nat → Bool} {f : Nat → Int32} (h : Rel x y) (hX : PL x x' l u 0 C) (hY : RVd y y' v f C) : Rel x' y' := by
  refine Rel_K (PL_Kx hX) (Ky_RV hY) ?_ h
  obtain ⟨a1, a2, a3⟩ := h.1
  have e0 := hX.1 0 (by omega)
  have e98 := hX.1 98 (by omega)
  have f1 := hY.1 1 (by omega) (by omega)
  unfold RA
  rw [e0, e98, f1, hY.2.1 0 (by omega), hY.2.1 2 (by omega)]
  exact ⟨a1, a2, a3⟩
theorem op_rivals {x y : St} (h : Rel x y) (a1 a2 : Int32) : ∃ (r : Int32) (x' y' : St), f_X9_rivals x a1 a2 = some (r, x') ∧ f_X10_rivals y a1 a2 = some (r, y') ∧ Rel x' y' := by
  obtain ⟨W, hD, -⟩ := h.2.2.2.2.2.2.2
  unfold f_X9_rivals f_X10_rivals
  simp only [p_isLine, p_mLine, p_isColour, p_mColour, ub_some, bI_z, ite_not]
  by_cases h1 : 0 ≤ a1.toInt ∧ a1.toInt ≤ 3
  · rw [if_pos h1, if_pos h1]
    by_cases h2 : 1 ≤ a2.toInt ∧ a2.toInt ≤ 3
    · rw [if_pos h2, if_pos h2]
      obtain ⟨l, hl, rfl⟩ := n_of (N := 4) (v := a1) (by omega) (by decide)
      obtain ⟨u, hu, rfl⟩ := n_of (N := 4) (v := a2) (by omega) (by decide)
      obtain ⟨x', f1, f2⟩ := p_gather (i := 0) h.2.1 h.2.2.2.1 hD hl hu
      obtain ⟨y', g1, g2⟩ := p_setRivals h.2.1 h.2.2.2.1 hD hl hu
      rw [ui_n hl (by decide), nI_clamp (by omega), f1, ub_some, g1, ub_some, p_nRivals (by have := hD.1; omega) f2, ub_some, g2.2.2.1]
      exact ⟨_, _, _, rfl, rfl, Rel_PR h f2 g2⟩
    · rw [if_neg h2, if_neg h2]; exact ⟨_, _, _, rfl, rfl, h⟩
  · rw [if_neg h1, if_neg h1]; exact ⟨_, _, _, rfl, rfl, h⟩
theorem op_reading {x y : St} (h : Rel x y) (a1 a2 : Int32) : ∃ (r : Int32) (x' y' : St), f_X9_reading x a1 a2 = some (r, x') ∧ f_X10_reading y a1 a2 = some (r, y') ∧ Rel x' y' := by
  obtain ⟨W, hD, -⟩ := h.2.2.2.2.2.2.2
  unfold f_X9_reading f_X10_reading
  simp only [p_isLine, p_mLine, p_isColour, p_mColour, ub_some, bI_z, ite_not]
  by_cases h1 : 0 ≤ a1.toInt ∧ a1.toInt ≤ 3
  · rw [if_pos h1, if_pos h1]
    by_cases h2 : 1 ≤ a2.toInt ∧ a2.toInt ≤ 3
    · rw [if_pos h2, if_pos h2]
      obtain ⟨l, hl, rfl⟩ := n_of (N := 4) (v := a1) (by omega) (by decide)
      obtain ⟨u, hu, rfl⟩ := n_of (N := 4) (v := a2) (by omega) (by decide)
      obtain ⟨x', f1, f2⟩ := p_gather (i := 0) h.2.1 h.2.2.2.1 hD hl hu
      obtain ⟨y', g1, g2⟩ := p_setRivals h.2.1 h.2.2.2.1 hD hl hu
      have hC : 10 * W ≤ 160 := by have := hD.1; omega
      have hR := Rel_PR h f2 g2
      rw [ui_n hl (by decide), nI_clamp (by omega), f1, ub_some, g1, ub_some, g2.2.2.1]
      rcases p_first hC f2 with ⟨d, q1, q2, q3, q4⟩ | ⟨q1, q2⟩
      · have hv : vld x l u d = true := by
          unfold rvl at q2
          rw [Bool.and_eq_true] at q2
          exact q2.1
        have c1 := cnt_lt q2 q1
        have c2 := cnt_le (v := rvl (vld x l u) (lk x l u) (ls (vld x l u) (lk x l u) (10 * W))) (c := 10 * W)
        have c3 := cnt_lt hv q1
        have c4 := cnt_le (v := vld x l u) (c := 10 * W)
        have y15 := g2.2.2.2 d q1 q2
        rw [cnt_0.mpr q3] at y15
        obtain ⟨p1, p2, -, -⟩ := f2.2.2 d q1 hv
        have z15 : y' 15 (0 : Int32).toNatClampNeg = nI d := y15
        have e1 : nI d / 10 = nI (d / 10) := by rw [show (10 : Int32) = nI 10 from by decide]; exact pk_div (by omega) (by decide) (by decide)
        have e2 : nI d - nI d / 10 * 10 = nI (d % 10) := by rw [show (10 : Int32) = nI 10 from by decide]; exact pk_rem (by omega) (by decide) (by decide)
        rw [q4, ub_some, if_neg (nI_m9 (by omega)), if_neg (nI_ne0 (by omega) (by omega)), ui_n (show cnt (vld x l u) d < 160 by omega) (by decide), ul_eq, ul_eq, ui_n (show cnt (vld x l u) d < 160 by omega) (by decide), nI_clamp (show cnt (vld x l u) d < 2 ^ 31 by omega), us_d (k := 0) (q := 86 + 5 * 0 + 1) rfl, us_d (k := 0) (q := 15) rfl, p1, p2, z15, e2, e1]
        refine ⟨_, _, _, rfl, rfl, Rel_K (x := x') (y := y') (fun q q1 q2 => us_n (by omega)) ⟨fun q q1 q2 _ _ _ _ => us_n (by omega), rfl, rfl, rfl, rfl, rfl, rfl, rfl⟩ ⟨hR.1.1, ?_, hR.1.2.2⟩ hR⟩
        rw [us_at, us_at]
      · have c0 : cnt (rvl (vld x l u) (lk x l u) (ls (vld x l u) (lk x l u) (10 * W))) (10 * W) = 0 := cnt_0.mpr (fun d hd => by unfold rvl; rw [q1 d hd]; rfl)
        rw [q2, ub_some, if_pos rfl, c0, if_pos nI_0]
        exact ⟨_, _, _, rfl, rfl, hR⟩
    · rw [if_neg h2, if_neg h2]; exact ⟨_, _, _, rfl, rfl, h⟩
  · rw [if_neg h1, if_neg h1]; exact ⟨_, _, _, rfl, rfl, h⟩
