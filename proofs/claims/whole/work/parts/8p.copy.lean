/-! ===== copy ===== -/
theorem add64 (a b : Int32) : (a.toInt64 + b.toInt64).toInt = a.toInt + b.toInt := by
  rw [Int64.toInt_add, Int32.toInt_toInt64, Int32.toInt_toInt64]
  have h1 := Int32.le_toInt a
  have h2 := Int32.toInt_lt a
  have h3 := Int32.le_toInt b
  have h4 := Int32.toInt_lt b
  apply Int.bmod_eq_of_le
  · omega
  · omega
theorem p_run {x : St} {s n : Nat} (hs : s < 4) (e : x 3 s = nI n) (hn : n ≤ 10) (v w : Int32) (hw : 0 ≤ w.toInt) : f_X5_hasRun x (nI s) v w = some (bI (0 ≤ v.toInt ∧ v.toInt + w.toInt ≤ n), x) := by
  unfold f_X5_hasRun bI
  simp only [ui_n hs (show 4 < 2 ^ 31 by decide), nI_clamp (show s < 2 ^ 31 by omega), e, i_lt]
  rw [show (0 : Int32).toInt = 0 from by decide, nI_toInt (by omega)]
  by_cases c1 : v.toInt < 0
  · rw [if_pos c1, if_neg (by omega)]
  · rw [if_neg c1]
    by_cases c2 : (n : Int) < w.toInt
    · rw [if_pos c2, if_neg (by omega)]
    · obtain ⟨c, hc, rfl⟩ := n_of (N := 11) (v := w) (by omega) (by decide)
      rw [nI_toInt (by omega)] at c2 ⊢
      rw [if_neg c2, pk_sub (by omega), nI_toInt (by omega)]
      by_cases c3 : ((n - c : Nat) : Int) < v.toInt
      · rw [if_pos c3, if_neg (by omega)]
      · rw [if_neg c3, if_pos (by omega)]
def cpM (y : St) (b j : Nat) : St := uf y 5 (fun q => if q < j then y 4 (b + q) else y 5 q)
def cpN (y z : St) (b d j : Nat) : St := uf z 4 (fun q => if d ≤ q ∧ q < d + j then y 4 (b + (q - d)) else y 4 q)
theorem cpM_s {y : St} {b j : Nat} : us (cpM y b j) 5 j (y 4 (b + j)) = cpM y b (j + 1) := by
  funext k q
  unfold us cpM uf upd
  by_cases h : k = 5
  · subst h
    simp only [if_true]
    by_cases e : q = j
    · subst e; rw [if_pos rfl, if_pos (by omega)]
    · rw [if_neg e]
      by_cases g : q < j
      · rw [if_pos g, if_pos (by omega)]
      · rw [if_neg g, if_neg (by omega)]
  · simp [h]
theorem cpN_s {y z : St} {b d j : Nat} : us (cpN y z b d j) 4 (d + j) (y 4 (b + j)) = cpN y z b d (j + 1) := by
  funext k q
  unfold us cpN uf upd
  by_cases h : k = 4
  · subst h
    simp only [if_true]
    by_cases e : q = d + j
    · subst e; rw [if_pos rfl, if_pos (by omega), show d + j - d = j by omega]
    · rw [if_neg e]
      by_cases g : d ≤ q ∧ q < d + j
      · rw [if_pos g, if_pos (by omega)]
      · rw [if_neg g, if_neg (by omega)]
  · simp [h]
theorem p_copy2 {y z : St} {t j c b : Nat} (ht : t < 4) (hj : j + c ≤ 10) (z4 : z 4 = y 4) (z5 : ∀ q, q < c → z 5 q = y 4 (b + q)) : f_X10_copy_141 fu z (nI t) (nI j) (nI c) 0 = some (1, cpN y z b (10 * t + j) c) := by
  have z0 : cpN y z b (10 * t + j) 0 = z := by
    funext k q
    unfold cpN uf
    by_cases h : k = 4
    · subst h; rw [if_pos rfl, if_neg (by omega), z4]
    · rw [if_neg h]
  have := loop_fu (fun fuel k => f_X10_copy_141 fuel (cpN y z b (10 * t + j) k) (nI t) (nI j) (nI c) (nI k)) c (some (1, cpN y z b (10 * t + j) c)) (by omega) (fun fuel => ?_) (fun fuel k hk => ?_)
  · rw [z0, nI_0] at this; exact this
  · show f_X10_copy_141 (fuel + 1) _ _ _ _ _ = _
    rw [f_X10_copy_141, if_pos (nI_le (Nat.le_refl _) (by omega))]
  · right
    show f_X10_copy_141 (fuel + 1) _ _ _ _ _ = f_X10_copy_141 fuel _ _ _ _ _
    have ei : (10 : Int32) * nI t + nI j + nI k = nI (10 * t + j + k) := by rw [e10, nI_add]
    have e5 : cpN y z b (10 * t + j) k 5 k = y 4 (b + k) := by unfold cpN uf; rw [if_neg (by omega)]; exact z5 k hk
    rw [f_X10_copy_141, if_neg (nI_ge hk (by omega)), ui_n (show k < 10 by omega) (by decide), ei, ui_n (show 10 * t + j + k < 40 by omega) (by decide), ul_eq, ul_eq, nI_clamp (show 10 * t + j + k < 2 ^ 31 by omega), nI_clamp (show k < 2 ^ 31 by omega), e5, cpN_s, nI_1]
theorem p_copy1 {y : St} {s i t j c : Nat} (hs : s < 4) (ht : t < 4) (hi : i + c ≤ 10) (hj : j + c ≤ 10) : f_X10_copy_104 fu y (nI s) (nI i) (nI t) (nI j) (nI c) 0 = some (1, cpN y (cpM y (10 * s + i) c) (10 * s + i) (10 * t + j) c) := by
  have z0 : cpM y (10 * s + i) 0 = y := by
    funext k q
    unfold cpM uf
    by_cases h : k = 5
    · subst h; rw [if_pos rfl, if_neg (by omega)]
    · rw [if_neg h]
  have := loop_fu (fun fuel k => f_X10_copy_104 fuel (cpM y (10 * s + i) k) (nI s) (nI i) (nI t) (nI j) (nI c) (nI k)) c (some (1, cpN y (cpM y (10 * s + i) c) (10 * s + i) (10 * t + j) c)) (by omega) (fun fuel => ?_) (fun fuel k hk => ?_)
  · rw [z0, nI_0] at this; exact this
  · show f_X10_copy_104 (fuel + 1) _ _ _ _ _ _ _ = _
    rw [f_X10_copy_104, if_pos (nI_le (Nat.le_refl _) (by omega))]
    exact p_copy2 ht hj rfl (fun q hq => by unfold cpM uf; rw [if_pos rfl, if_pos hq])
  · right
    show f_X10_copy_104 (fuel + 1) _ _ _ _ _ _ _ = f_X10_copy_104 fuel _ _ _ _ _ _ _
    have ei : (10 : Int32) * nI s + nI i + nI k = nI (10 * s + i + k) := by rw [e10, nI_add]
    have e4 : cpM y (10 * s + i) k 4 (10 * s + i + k) = y 4 (10 * s + i + k) := by unfold cpM uf; rw [if_neg (by omega)]
    rw [f_X10_copy_104, if_neg (nI_ge hk (by omega)), ei, ui_n (show 10 * s + i + k < 40 by omega) (by decide), ui_n (show k < 10 by omega) (by decide), ul_eq, ul_eq, nI_clamp (show 10 * s + i + k < 2 ^ 31 by omega), nI_clamp (show k < 2 ^ 31 by omega), e4, cpM_s, nI_1]
theorem p_carry {x : St} {s i t j c : Nat} (hs : s < 4) (ht : t < 4) (hi : i + c ≤ 10) (hj : j + c ≤ 10) (hb : ∀ q, q < 10 → byt (x (4 + s) q)) : f_X5_carry x (nI s) (nI i) (nI t) (nI j) (nI c) = some ((), uf x (4 + t) (va_cpy (x (4 + s)) (x (4 + t)) i j c)) := by
  unfold f_X5_carry
  simp only [ui_n hs (show 4 < 2 ^ 31 by decide), ui_n ht (show 4 < 2 ^ 31 by decide), nI_clamp (show s < 2 ^ 31 by omega), nI_clamp (show t < 2 ^ 31 by omega), nI_clamp (show i < 2 ^ 31 by omega), nI_clamp (show j < 2 ^ 31 by omega), nI_clamp (show c < 2 ^ 31 by omega)]
  have g1 : ucp (x (4 + s)) i c = true := by
    unfold ucp
    rw [List.all_eq_true]
    intro q hq
    have := List.mem_range.mp hq
    have hq' := hb (i + q) (by omega)
    unfold byt at hq'
    rw [← hq']
    exact pk_fb _
  rw [ug_ok (by rw [g1, Bool.and_true]; exact decide_eq_true ⟨nI_pos (by omega), nI_pos (by omega), nI_pos (by omega), hi, hj⟩), ul_eq]
theorem op_copy {x y : St} (h : Rel x y) (a1 a2 a3 a4 a5 : Int32) : ∃ (r : Int32) (x' y' : St), f_X9_copy x a1 a2 a3 a4 a5 = some (r, x') ∧ f_X10_copy y a1 a2 a3 a4 a5 = some (r, y') ∧ Rel x' y' := by
  unfold f_X9_copy f_X10_copy
  simp only [p_sheetNo, p_mSheet, ub_some, bI_z, ite_not]
  by_cases h1 : 0 ≤ a1.toInt ∧ a1.toInt ≤ 3
  · rw [if_pos h1, if_pos h1]
    by_cases h3 : 0 ≤ a3.toInt ∧ a3.toInt ≤ 3
    · rw [if_pos h3, if_pos h3]
      by_cases h5 : 0 ≤ a5
      · rw [if_pos h5, if_pos h5]
        have h5' : 0 ≤ a5.toInt := by rw [i_le] at h5; exact h5
        obtain ⟨s, hs, rfl⟩ := n_of (N := 4) (v := a1) (by omega) (by decide)
        obtain ⟨t, ht, rfl⟩ := n_of (N := 4) (v := a3) (by omega) (by decide)
        have us' : ∀ {α : Type} {k : Option α}, ui (nI s) 4 k = k := ui_n hs (by decide)
        have cs : (nI s).toNatClampNeg = s := nI_clamp (by omega)
        have ut : ∀ {α : Type} {k : Option α}, ui (nI t) 4 k = k := ui_n ht (by decide)
        have ct : (nI t).toNatClampNeg = t := nI_clamp (by omega)
        have hC := h.2.2.1
        rw [p_there hs, ub_some, p_there ht, ub_some]
        simp only [bI_z, Decidable.not_not, us', cs, ut, ct, lg_cmp_gt, lg_cmp_le, p_refuse x (v := 1) (k := 1) (by decide) (by decide), p_refuse x (v := 2) (k := 2) (by decide) (by decide), p_meets y (v := 1) (k := 1) (by decide) (by decide), p_meets y (v := 2) (k := 2) (by decide) (by decide), ub_some]
        rcases (hC s hs).1 with ⟨e1, e2⟩ | ⟨n, hn, e1, e2⟩
        · rw [if_pos e1, e2, if_pos (show (-9 : Int32) < 0 by decide)]
          exact ⟨_, _, _, rfl, rfl, rel_rf (by decide) h⟩
        · rw [if_neg (show ¬ x 3 s = -1 by rw [e1]; exact nI_m1 (by omega)), if_neg (show ¬ y 3 s < 0 by rw [e2]; exact nI_pos (by omega))]
          rcases (hC t ht).1 with ⟨d1, d2⟩ | ⟨m, hm, d1, d2⟩
          · rw [if_pos d1, d2, if_neg (show ¬ (0 : Int32) ≤ -9 by decide)]
            exact ⟨_, _, _, rfl, rfl, rel_rf (by decide) h⟩
          · rw [if_neg (show ¬ x 3 t = -1 by rw [d1]; exact nI_m1 (by omega)), if_pos (show 0 ≤ y 3 t by rw [d2]; exact nI_pos' (by omega)), p_run hs e1 hn _ _ h5', ub_some, p_run ht d1 hm _ _ h5', ub_some]
            simp only [bI_z, ite_not, Int64.lt_iff_toInt_lt, Int64.le_iff_toInt_le, add64, Int32.toInt_toInt64, e2, d2, i_lt]
            rw [nI_toInt (show n < 2 ^ 31 by omega), nI_toInt (show m < 2 ^ 31 by omega), show (0 : Int32).toInt = 0 from by decide]
            by_cases hq : (0 ≤ a2.toInt ∧ a2.toInt + a5.toInt ≤ n) ∧ (0 ≤ a4.toInt ∧ a4.toInt + a5.toInt ≤ m)
            · obtain ⟨i, hi, rfl⟩ := n_of (N := 11) (v := a2) (by omega) (by decide)
              obtain ⟨j, hj, rfl⟩ := n_of (N := 11) (v := a4) (by omega) (by decide)
              obtain ⟨c, hc, rfl⟩ := n_of (N := 11) (v := a5) (by omega) (by decide)
              rw [nI_toInt (show i < 2 ^ 31 by omega), nI_toInt (show j < 2 ^ 31 by omega), nI_toInt (show c < 2 ^ 31 by omega)] at hq ⊢
              rw [if_pos hq.1, if_pos hq.2, if_neg (show ¬ (i : Int) < 0 by omega), if_neg (show ¬ (j : Int) < 0 by omega), if_neg (show ¬ (n : Int) < i + c by omega), if_pos hq.2.2, p_carry hs ht (by omega) (by omega) (fun q hq => ((hC s hs).2 q hq).2), ub_some, p_copy1 hs ht (by omega) (by omega)]
              refine ⟨_, _, _, rfl, rfl, Rel_C h (fun q hq => ?_) (fun q hq => ?_) ?_⟩
              · unfold uf; rw [if_neg (by omega)]
              · unfold cpN cpM uf; rw [if_neg (by omega), if_neg (by omega)]
              · intro s' hs'
                have a3' : uf x (4 + t) (va_cpy (x (4 + s)) (x (4 + t)) i j c) 3 = x 3 := by unfold uf; rw [if_neg (by omega)]
                have b3' : cpN y (cpM y (10 * s + i) c) (10 * s + i) (10 * t + j) c 3 = y 3 := by unfold cpN cpM uf; rw [if_neg (by omega), if_neg (by omega)]
                have b4' : cpN y (cpM y (10 * s + i) c) (10 * s + i) (10 * t + j) c 4 = fun q => if 10 * t + j ≤ q ∧ q < 10 * t + j + c then y 4 (10 * s + i + (q - (10 * t + j))) else y 4 q := by unfold cpN uf; rw [if_pos rfl]
                rw [a3', b3', b4']
                refine ⟨(hC s' hs').1, fun q hq' => ?_⟩
                by_cases e : s' = t
                · subst e
                  have : uf x (4 + s') (va_cpy (x (4 + s)) (x (4 + s')) i j c) (4 + s') = va_cpy (x (4 + s)) (x (4 + s')) i j c := by unfold uf; rw [if_pos rfl]
                  rw [this]
                  show va_cpy (x (4 + s)) (x (4 + s')) i j c q = (if 10 * s' + j ≤ 10 * s' + q ∧ 10 * s' + q < 10 * s' + j + c then _ else _) ∧ _
                  by_cases g : j ≤ q ∧ q < j + c
                  · rw [pk_cpy_in g.1 g.2, if_pos (by omega)]
                    have := (hC s hs).2 (i + (q - j)) (by omega)
                    rw [show 10 * s + i + (10 * s' + q - (10 * s' + j)) = 10 * s + (i + (q - j)) by omega]
                    exact this
                  · rw [pk_cpy_out (by omega), if_neg (by omega)]
                    exact (hC s' hs').2 q hq'
                · have : uf x (4 + t) (va_cpy (x (4 + s)) (x (4 + t)) i j c) (4 + s') = x (4 + s') := by unfold uf; rw [if_neg (by omega)]
                  rw [this]
                  show x (4 + s') q = (if 10 * t + j ≤ 10 * s' + q ∧ 10 * s' + q < 10 * t + j + c then _ else _) ∧ _
                  rw [if_neg (by omega)]
                  exact (hC s' hs').2 q hq'
            · refine ⟨-3, rfX x 2, rfY y 2, ?_, ?_, rel_rf (by decide) h⟩
              · by_cases c1 : 0 ≤ a2.toInt ∧ a2.toInt + a5.toInt ≤ n
                · rw [if_pos c1, if_neg (fun q => hq ⟨c1, q⟩), p_refuse x (k := 2) (by decide) (by decide), ub_some]
                · rw [if_neg c1, p_refuse x (k := 2) (by decide) (by decide), ub_some]
              · by_cases c1 : a2.toInt < 0
                · rw [if_pos c1]
                · rw [if_neg c1]
                  by_cases c2 : a4.toInt < 0
                  · rw [if_pos c2]
                  · rw [if_neg c2]
                    by_cases c3 : (n : Int) < a2.toInt + a5.toInt
                    · rw [if_pos c3]
                    · rw [if_neg c3, if_neg (by omega)]
      · rw [if_neg h5, if_neg h5, p_refuse x (k := 5) (by decide) (by decide), p_meets y (k := 5) (by decide) (by decide), ub_some, ub_some]
        exact ⟨_, _, _, rfl, rfl, rel_rf (by decide) h⟩
    · rw [if_neg h3, if_neg h3]; exact ⟨_, _, _, rfl, rfl, h⟩
  · rw [if_neg h1, if_neg h1]; exact ⟨_, _, _, rfl, rfl, h⟩
