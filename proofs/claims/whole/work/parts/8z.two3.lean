/-! ===== two ===== -/
theorem RF_zero {x y X Y : St} {W l : Nat} (hl : l < 4) (h : RF W x y) (x0 : X (35 + 9 * l) 4 = 0) (xq : ∀ q, q < 35 + 9 * l ∨ (35 + 9 * l + 8 < q ∧ q < 86) → X q = x q) (y0 : Y 16 l = 0) (y16 : ∀ i, i ≠ l → Y 16 i = y 16 i) (y17 : ∀ i, i < 3 * l ∨ 3 * l + 3 ≤ i → Y 17 i = y 17 i ∧ Y 18 i = y 18 i ∧ Y 19 i = y 19 i) : RF W X Y := by
  intro l' hl'
  by_cases e : l' = l
  · subst e
    exact ⟨0, by omega, by rw [x0, nI_0], by rw [y0, nI_0], fun i hi => absurd hi (by omega), fun i j hi => absurd hi (by omega)⟩
  · obtain ⟨n, h3, f1, f2, hr, hq⟩ := h l' hl'
    rw [xq (35 + 9 * l') (by omega), xq (35 + 9 * l' + 6) (by omega), xq (35 + 9 * l' + 7) (by omega), xq (35 + 9 * l' + 8) (by omega), xq 11 (by omega), y16 l' e]
    refine ⟨n, h3, f1, f2, fun i hi => ?_, hq⟩
    obtain ⟨a1, a2, a3⟩ := y17 (3 * l' + i) (by omega)
    rw [a1, a2, a3]
    exact hr i hi
/-- nothing but scratch has changed -/
theorem Rel_RS {x y z σ : St} (h : Rel x y) (hz : ∀ q, q < 86 ∨ 97 < q → z q = x q) (hs : RS y σ) : Rel z σ := by
  refine Rel_F2 h (fun k hk => hz k (by omega)) (fun l u hl hu => hz _ (by omega)) (fun k k0 k5 k15 hk => hs.1 k k0 (by omega) (by omega)) (hs.2 0 (by omega)) (hs.2 2 (by omega)) (hs.2 7 (by omega)) (hs.2 26 (by omega)) (hs.2 30 (by omega)) (hs.2 31 (by omega)) (hs.2 32 (by omega)) (hs.2 37 (by omega)) (hs.2 40 (by omega)) (fun W hD hF => ?_)
  exact RF_of (fun l hl => by rw [hz (35 + 9 * l) (by omega)]) (fun l hl => hz _ (by omega)) (fun l hl => hz _ (by omega)) (fun l hl => hz _ (by omega)) (hz _ (by omega)) (hs.1 _ (by omega) (by omega) (by omega)) (hs.1 _ (by omega) (by omega) (by omega)) (hs.1 _ (by omega) (by omega) (by omega)) (hs.1 _ (by omega) (by omega) (by omega)) hF
theorem p_addPlace {σ : St} {l i n idx : Nat} {w s u : Int32} (h160 : idx < 160) (e : σ (35 + 9 * l) 4 = nI n) (h3 : n < 3) (e1 : σ (86 + 5 * i + 1) idx = w) (e2 : σ (86 + 5 * i + 2) idx = s) : f_X9_addPlace σ l i (nI idx) u = some ((), alX σ l n w s u) := by
  unfold f_X9_addPlace
  rw [ui_n h160 (by decide), ui_n h160 (by decide), nI_clamp (by omega), e1, e2, p_addLayer e h3, ub_some]
theorem op_two {x y : St} (h : Rel x y) (a1 a2 a3 a4 : Int32) : ∃ (r : Int32) (x' y' : St), f_X9_two x a1 a2 a3 a4 = some (r, x') ∧ f_X10_two y a1 a2 a3 a4 = some (r, y') ∧ Rel x' y' := by
  obtain ⟨-, hB, -, hE, -, -, -, W, hD, hF, -⟩ := id h
  have hW := hD.1
  unfold f_X9_two f_X10_two
  simp only [p_isLine, p_mLine, p_isColour, p_mColour, p_in, ub_some, bI_z, ite_not, i_lt]
  rw [show (1 : Int32).toInt = 1 from by decide, show (20000 : Int32).toInt = 20000 from by decide]
  by_cases h1 : 0 ≤ a1.toInt ∧ a1.toInt ≤ 3
  · rw [if_pos h1, if_pos h1]
    by_cases h2 : 1 ≤ a2.toInt ∧ a2.toInt ≤ 3
    · rw [if_pos h2, if_pos h2]
      by_cases h3 : 1 ≤ a3.toInt ∧ a3.toInt ≤ 3
      · rw [if_pos h3, if_pos h3]
        by_cases h23 : a2 = a3
        · rw [if_pos h23, if_pos h23]; exact ⟨_, _, _, rfl, rfl, h⟩
        · rw [if_neg h23, if_neg h23]
          by_cases h4 : 1 ≤ a4.toInt ∧ a4.toInt ≤ 20000
          · have h4' : a4 ≤ 20000 := by rw [i_le]; exact h4.2
            rw [if_neg (show ¬ a4.toInt < 1 by omega), if_pos h4', if_pos h4]
            obtain ⟨l, hl, rfl⟩ := n_of (N := 4) (v := a1) (by omega) (by decide)
            obtain ⟨a, ha4, rfl⟩ := n_of (N := 4) (v := a2) (by omega) (by decide)
            obtain ⟨b, hb4, rfl⟩ := n_of (N := 4) (v := a3) (by omega) (by decide)
            obtain ⟨n, hn, rfl⟩ := n_of (N := 20001) (v := a4) (by omega) (by decide)
            rw [nI_toInt (by omega)] at h2 h3
            have ha : 1 ≤ a ∧ a ≤ 3 := by omega
            have hb : 1 ≤ b ∧ b ≤ 3 := by omega
            have hab : a ≠ b := fun e => h23 (by rw [e])
            obtain ⟨z1, z2, g1, g2, tw⟩ := p_twoG hB hE hD hl ha4 hb4
            have hK : Kx x z2 := fun q q1 q2 => tw.1 q (by omega)
            have hC : 10 * W ≤ 160 := by omega
            obtain ⟨σ1, s1, s2, s3, s4⟩ := p_save (y := y) hl
            have hY0 : YB y (us σ1 0 24 (-9)) l := by
              refine ⟨fun q q0 hq => by rw [us_n q0]; exact s2 q (by omega), fun i hi => ?_, fun i hi => ?_, fun i hi => ?_, s3, s4⟩
              · show upd (σ1 0) 24 (-9) i = _
                unfold upd
                rw [if_neg hi, s2 0 (by omega)]
              · rw [us_n (by omega), s2 16 (by omega)]
              · rw [us_n (by omega), us_n (by omega), us_n (by omega), s2 17 (by omega), s2 18 (by omega), s2 19 (by omega)]
                exact ⟨rfl, rfl, rfl⟩
            have hE0 : YE (us σ1 0 24 (-9)) a b none := ⟨fun _ => us_at, fun v c d f e => (by cases e)⟩
            have e6 : (6 : Int32) - nI a - nI b = nI (6 - a - b) := by rw [show (6 : Int32) = nI 6 from by decide, pk_sub (by omega), pk_sub (by omega)]
            have hTT : TT (vld x l a) (vld x l b) (10 * W) (10 * W) ≤ 10 * W * 160 := sm_le (fun i _ => by
              split
              · have := cnt_le (v := pp (vld x l b) i) (c := 10 * W); omega
              · omega)
            rw [ui_n hl (by decide), nI_clamp (show l < 2 ^ 31 by omega), g1, ub_some, g2, ub_some, p_tries hC tw, ub_some, s1, ub_some, ul_eq, ul_eq, e6]
            have sh := p_shows hE hK hl (show 6 - a - b < 4 by omega)
            rcases p_pairs (t := anyN 150 (sn x l (6 - a - b))) (n := n) hB hE hD hl ha hb hab rfl (by omega) hY0 hE0 with ⟨q1, σ, q2, q3⟩ | ⟨q1, q2, q3⟩
            · rw [if_neg (nI_ge q1 (by omega)), q2]
              exact ⟨_, _, _, rfl, rfl, Rel_RS h (fun q hq => tw.1 q (by omega)) q3⟩
            · rw [if_pos (nI_le q1 (by omega)), sh, ub_some]
              cases hth : anyN 150 (sn x l (6 - a - b))
              · rw [hth] at q2 q3
                simp only [Bool.false_eq_true, if_false] at q2 q3
                rw [if_pos (show iB false = 0 from rfl)]
                obtain ⟨σx, k1, k2, k3⟩ := p_seek hC tw
                have hcase : STo x l a b (vld x l a) (vld x l b) (10 * W) (10 * W) = none ∨ ∃ v c d f, STo x l a b (vld x l a) (vld x l b) (10 * W) (10 * W) = some (v, c, d, f) := by
                  cases STo x l a b (vld x l a) (vld x l b) (10 * W) (10 * W) with
                  | none => exact Or.inl rfl
                  | some s =>
                    obtain ⟨v, c, d, f⟩ := s
                    exact Or.inr ⟨v, c, d, f, rfl⟩
                rcases hcase with hst | ⟨v, c, d, f, hst⟩
                · rw [if_pos hst] at k1
                  rw [k1, ub_some]
                  obtain ⟨σ, r1, r2⟩ := q2 hst
                  rw [if_pos rfl, r1]
                  exact ⟨_, _, _, rfl, rfl, Rel_RS h (fun q hq => by rw [k2.1 q (by omega)]; exact tw.1 q (by omega)) r2⟩
                · rw [if_neg (by rw [hst]; simp)] at k1
                  rw [k1, ub_some]
                  obtain ⟨σ, r1, r2⟩ := q3 v c d f hst
                  obtain ⟨m0, m1, m2, m3⟩ := k2.2.2 v c d f hst
                  obtain ⟨-, o1, o2, o3, o4⟩ := k3 v c d f hst
                  obtain ⟨t1, t2, t3, t4, t5⟩ := tw
                  obtain ⟨A1, A2, -, -⟩ := t4 c o1 o3
                  obtain ⟨B1, B2, -, -⟩ := t5 d o2 o4
                  have ca := cnt_lt o3 o1
                  have cb := cnt_lt o4 o2
                  have ca' := cnt_le (v := vld x l a) (c := 10 * W)
                  have cb' := cnt_le (v := vld x l b) (c := 10 * W)
                  rw [if_neg (show ¬ (1 : Int32) = 0 by decide), ul_eq, r2]
                  generalize hX0 : us σx (35 + 9 * l) 4 0 = X0
                  have x96 : ∀ i, X0 96 i = σx 96 i := fun i => by rw [← hX0, us_n (by omega)]
                  have xz : ∀ q, q ≠ 35 + 9 * l → q ≠ 96 → X0 q = z2 q := fun q u1 u2 => by rw [← hX0, us_n u1]; exact k2.1 q u2
                  have x0 : X0 (35 + 9 * l) 4 = nI 0 := by rw [← hX0, us_at, nI_0]
                  have xx : ∀ q, q < 35 + 9 * l ∨ (35 + 9 * l + 8 < q ∧ q < 86) → X0 q = x q := fun q hq => by rw [xz q (by omega) (by omega)]; exact t1 q (by omega)
                  have RF0 : RF W X0 (us σ 16 l 0) := RF_zero hl hF (by rw [x0, nI_0]) xx us_at (fun i hi => by
                    show upd (σ 16) l 0 i = _
                    unfold upd
                    rw [if_neg hi]; exact r1.2.2.1 i hi) (fun i hi => r1.2.2.2.1 i hi)
                  -- both layers, the class
                  have wA : ∀ τ : St, (∀ q, 86 ≤ q → q < 96 → τ q = z2 q) → τ (86 + 5 * 0 + 1) (cnt (vld x l a) c) = nI (c / 10) ∧ τ (86 + 5 * 0 + 2) (cnt (vld x l a) c) = nI (c % 10) := fun τ hτ => by
                    rw [hτ (86 + 5 * 0 + 1) (by omega) (by omega), hτ (86 + 5 * 0 + 2) (by omega) (by omega)]
                    exact ⟨A1, A2⟩
                  have wB : ∀ τ : St, (∀ q, 86 ≤ q → q < 96 → τ q = z2 q) → τ (86 + 5 * 1 + 1) (cnt (vld x l b) d) = nI (d / 10) ∧ τ (86 + 5 * 1 + 2) (cnt (vld x l b) d) = nI (d % 10) := fun τ hτ => by
                    rw [hτ (86 + 5 * 1 + 1) (by omega) (by omega), hτ (86 + 5 * 1 + 2) (by omega) (by omega)]
                    exact ⟨B1, B2⟩
                  have hx0 : ∀ q, 86 ≤ q → q < 96 → X0 q = z2 q := fun q u1 u2 => xz q (by omega) (by omega)
                  have hal : ∀ (τ : St) (k : Nat) (w s u : Int32) (q : Nat), 71 ≤ q → alX τ l k w s u q = τ q := fun τ k w s u q hq => alX_n (by omega)
                  have body : (if X0 96 3 = 0 then ub (f_X9_addPlace X0 l 1 (X0 96 2) (nI b)) fun _ σ22 => ub (f_X9_addPlace σ22 l 0 (σ22 96 1) (nI a)) fun _ σ24 => some (σ24 96 0, σ24) else ub (f_X9_addPlace X0 l 0 (X0 96 1) (nI a)) fun _ σ26 => ub (f_X9_addPlace σ26 l 1 (σ26 96 2) (nI b)) fun _ σ28 => some (σ28 96 0, σ28)) = some (v, alX (alX X0 l 0 (nI (fP f c d / 10)) (nI (fP f c d % 10)) (nI (fP f a b))) l 1 (nI (fP f d c / 10)) (nI (fP f d c % 10)) (nI (fP f b a))) := by
                    rw [x96, x96, x96, m1, m2, m3]
                    cases f
                    · rw [if_pos (show iB false = 0 from rfl)]
                      obtain ⟨u1, u2⟩ := wB X0 hx0
                      rw [p_addPlace (by omega) x0 (by omega) u1 u2, ub_some]
                      obtain ⟨u3, u4⟩ := wA (alX X0 l 0 (nI (d / 10)) (nI (d % 10)) (nI b)) (fun q q1 q2 => by rw [hal _ _ _ _ _ q (by omega)]; exact hx0 q q1 q2)
                      have e96 : alX X0 l 0 (nI (d / 10)) (nI (d % 10)) (nI b) 96 1 = nI (cnt (vld x l a) c) := by rw [hal _ _ _ _ _ 96 (by omega), x96]; exact m1
                      rw [e96, p_addPlace (n := 1) (by omega) al0 (by omega) u3 u4, ub_some]
                      have e0 : alX (alX X0 l 0 (nI (d / 10)) (nI (d % 10)) (nI b)) l 1 (nI (c / 10)) (nI (c % 10)) (nI a) 96 0 = v := by rw [hal _ _ _ _ _ 96 (by omega), hal _ _ _ _ _ 96 (by omega), x96]; exact m0
                      rw [e0]
                      rfl
                    · rw [if_neg (show ¬ iB true = 0 by decide)]
                      obtain ⟨u1, u2⟩ := wA X0 hx0
                      rw [p_addPlace (by omega) x0 (by omega) u1 u2, ub_some]
                      obtain ⟨u3, u4⟩ := wB (alX X0 l 0 (nI (c / 10)) (nI (c % 10)) (nI a)) (fun q q1 q2 => by rw [hal _ _ _ _ _ q (by omega)]; exact hx0 q q1 q2)
                      have e96 : alX X0 l 0 (nI (c / 10)) (nI (c % 10)) (nI a) 96 2 = nI (cnt (vld x l b) d) := by rw [hal _ _ _ _ _ 96 (by omega), x96]; exact m2
                      rw [e96, p_addPlace (n := 1) (by omega) al0 (by omega) u3 u4, ub_some]
                      have e0 : alX (alX X0 l 0 (nI (c / 10)) (nI (c % 10)) (nI a)) l 1 (nI (d / 10)) (nI (d % 10)) (nI b) 96 0 = v := by rw [hal _ _ _ _ _ 96 (by omega), hal _ _ _ _ _ 96 (by omega), x96]; exact m0
                      rw [e0]
                      rfl
                  rw [body]
                  refine ⟨_, _, _, rfl, rfl, ?_⟩
                  have onl : ∀ (u e : Nat), e < 10 * W → vld x l u e = true → ∃ n9, x 11 (e / 10) = nI n9 ∧ e % 10 + n9 ≤ 10 ∧ e / 10 < W := fun u e he hv => by
                    obtain ⟨⟨n9, -, n8, e1, -⟩, -⟩ := hD.2.2.2.1 (e / 10) (by omega)
                    have hln : ln x (e / 10) = n9 := by unfold ln; rw [e1, nI_clamp (by omega)]
                    unfold vld at hv
                    rw [Bool.and_eq_true, Bool.and_eq_true] at hv
                    have := of_decide_eq_true hv.1.2
                    rw [hln] at this
                    exact ⟨n9, e1, this, by omega⟩
                  have hP : ∃ n9, x 11 (fP f c d / 10) = nI n9 ∧ fP f c d % 10 + n9 ≤ 10 ∧ fP f c d / 10 < W := by
                    cases f
                    · exact onl b d o2 o4
                    · exact onl a c o1 o3
                  have hQ : ∃ n9, x 11 (fP f d c / 10) = nI n9 ∧ fP f d c % 10 + n9 ≤ 10 ∧ fP f d c / 10 < W := by
                    cases f
                    · exact onl a c o1 o3
                    · exact onl b d o2 o4
                  have hu1 : 1 ≤ fP f a b ∧ fP f a b ≤ 3 := by unfold fP; split <;> omega
                  have hu2 : 1 ≤ fP f b a ∧ fP f b a ≤ 3 := by unfold fP; split <;> omega
                  have hu3 : fP f a b ≠ fP f b a := by unfold fP; split <;> omega
                  obtain ⟨p9, p1, p2, p3⟩ := hP
                  obtain ⟨n9, w1, w2, w3⟩ := hQ
                  have e11 : X0 11 = x 11 := xx 11 (by omega)
                  refine Rel_F2 h (fun k hk => ?_) (fun l' u' hl' hu' => ?_) (fun k k0 k5 k15 hk => ?_) ?_ ?_ ?_ ?_ ?_ ?_ ?_ ?_ ?_ (fun W' hD' hF' => ?_)
                  · rw [alX_n (by omega), alX_n (by omega), xz k (by omega) (by omega)]; exact t1 k (by omega)
                  · rw [alX_n (by omega), alX_n (by omega), xz _ (by omega) (by omega)]; exact t1 _ (by omega)
                  · rw [alY_n (by omega), alY_n (by omega), us_n (by omega)]; exact r1.1 k k0 (by omega)
                  · exact r1.2.1 0 (by omega)
                  · exact r1.2.1 2 (by omega)
                  · exact r1.2.1 7 (by omega)
                  · exact r1.2.1 26 (by omega)
                  · exact r1.2.1 30 (by omega)
                  · exact r1.2.1 31 (by omega)
                  · exact r1.2.1 32 (by omega)
                  · exact r1.2.1 37 (by omega)
                  · exact r1.2.1 40 (by omega)
                  · have eW : W' = W := (nI_eq (by have := hD'.1; omega) (by omega)).mp (hD'.2.1.symm.trans hD.2.1)
                    subst eW
                    refine RF_add hl (by omega) (RF_add hl (by omega) RF0 x0 p3 (by rw [e11]; exact p1) p2 hu1 (fun i hi => absurd hi (by omega))) al0 w3 (by rw [alX_n (by omega), e11]; exact w1) w2 hu2 (fun i hi => ?_)
                    have i0 : i = 0 := by omega
                    subst i0
                    rw [al8]
                    unfold upd
                    rw [if_pos rfl]
                    exact nI_nq rfl hu3 (by omega) (by omega)
              · rw [hth] at q2
                obtain ⟨σ, r1, r2⟩ := q2 rfl
                rw [if_neg (show ¬ iB true = 0 by decide), r1]
                exact ⟨_, _, _, rfl, rfl, Rel_RS h (fun q hq => tw.1 q (by omega)) r2⟩
          · rw [if_neg h4]
            by_cases g : a4.toInt < 1
            · rw [if_pos g]; exact ⟨_, _, _, rfl, rfl, h⟩
            · rw [if_neg g, if_neg (show ¬ a4 ≤ 20000 from fun q => by rw [i_le, show (20000 : Int32).toInt = 20000 from by decide] at q; omega)]; exact ⟨_, _, _, rfl, rfl, h⟩
      · rw [if_neg h3, if_neg h3]; exact ⟨_, _, _, rfl, rfl, h⟩
    · rw [if_neg h2, if_neg h2]; exact ⟨_, _, _, rfl, rfl, h⟩
  · rw [if_neg h1, if_neg h1]; exact ⟨_, _, _, rfl, rfl, h⟩
