/-! ===== each part of the relation by the cells that it speaks of ===== -/
theorem RA_of {x x' y y' : St} (h0 : x' 0 12 = x 0 12) (h1 : x' 0 13 = x 0 13) (h2 : x' 98 = x 98) (g0 : y' 0 0 = y 0 0) (g1 : y' 0 2 = y 0 2) (g2 : y' 1 = y 1) (h : RA x y) : RA x' y' := by
  unfold RA
  rw [h0, h1, h2, g0, g1, g2]
  exact h
theorem RB_of {x x' y y' : St} (h0 : x' 9 = x 9) (g0 : y' 2 = y 2) (h : RB x y) : RB x' y' := by
  unfold RB
  rw [h0, g0]
  exact h
theorem RC_of {x x' y y' : St} (h0 : x' 3 = x 3) (h1 : ∀ s, s < 4 → x' (4 + s) = x (4 + s)) (g0 : y' 3 = y 3) (g1 : y' 4 = y 4) (h : RC x y) : RC x' y' := by
  intro s hs
  rw [h0, g0, g1, h1 s hs]
  exact h s hs
theorem wordOK_of {x x' y y' : St} {w : Nat} (h1 : x' (18 + w) = x (18 + w)) (h2 : x' 11 = x 11) (h3 : x' 12 = x 12) (h4 : x' 13 = x 13) (h5 : x' 14 = x 14) (h6 : x' 15 = x 15) (h7 : x' 16 = x 16) (g1 : y' 6 = y 6) (g2 : y' 7 = y 7) (g3 : y' 8 = y 8) (g4 : y' 10 = y 10) (g5 : y' 11 = y 11) (g6 : y' 12 = y 12) (g7 : y' 13 = y 13) (h : wordOK x y w) : wordOK x' y' w := by
  unfold wordOK kindOK yrs
  rw [h1, h2, h3, h4, h5, h6, h7, g1, g2, g3, g4, g5, g6, g7]
  exact h
theorem RD_of {W : Nat} {x x' y y' : St} (h0 : x' 8 9 = x 8 9) (h1 : ∀ w, w < 16 → x' (18 + w) = x (18 + w)) (h2 : x' 11 = x 11) (h3 : x' 12 = x 12) (h4 : x' 13 = x 13) (h5 : x' 14 = x 14) (h6 : x' 15 = x 15) (h7 : x' 16 = x 16) (h8 : x' 17 = x 17) (g0 : y' 0 7 = y 0 7) (g1 : y' 6 = y 6) (g2 : y' 7 = y 7) (g3 : y' 8 = y 8) (g4 : y' 10 = y 10) (g5 : y' 11 = y 11) (g6 : y' 12 = y 12) (g7 : y' 13 = y 13) (g8 : y' 9 = y 9) (h : RD W x y) : RD W x' y' := by
  obtain ⟨a1, a2, a3, a4, a5, a6⟩ := h
  refine ⟨a1, by rw [h0]; exact a2, by rw [g0]; exact a3, fun w hw => wordOK_of (h1 w (by omega)) h2 h3 h4 h5 h6 h7 g1 g2 g3 g4 g5 g6 g7 (a4 w hw), ?_, ?_⟩
  · rw [h8, g8]; exact a5
  · rw [h8]; exact a6
theorem RE_of {x x' y y' : St} (h0 : ∀ l u, l < 4 → u < 4 → x' (35 + 9 * l + 2 + u) = x (35 + 9 * l + 2 + u)) (g0 : y' 14 = y 14) (h : RE x y) : RE x' y' := by
  intro l hl s hs
  obtain ⟨a1, a2⟩ := h l hl s hs
  refine ⟨fun u hu => by rw [h0 l u hl hu]; exact a1 u hu, fun c hc => ?_⟩
  obtain ⟨v, b1, b2, b3⟩ := a2 c hc
  exact ⟨v, b1, by rw [g0]; exact b2, fun u hu => by rw [h0 l u hl hu]; exact b3 u hu⟩
theorem RF_of {W : Nat} {x x' y y' : St} (h0 : ∀ l, l < 4 → x' (35 + 9 * l) 4 = x (35 + 9 * l) 4) (h1 : ∀ l, l < 4 → x' (35 + 9 * l + 6) = x (35 + 9 * l + 6)) (h2 : ∀ l, l < 4 → x' (35 + 9 * l + 7) = x (35 + 9 * l + 7)) (h3 : ∀ l, l < 4 → x' (35 + 9 * l + 8) = x (35 + 9 * l + 8)) (h4 : x' 11 = x 11) (g0 : y' 16 = y 16) (g1 : y' 17 = y 17) (g2 : y' 18 = y 18) (g3 : y' 19 = y 19) (h : RF W x y) : RF W x' y' := by
  intro l hl
  rw [h0 l hl, h1 l hl, h2 l hl, h3 l hl, h4, g0, g1, g2, g3]
  exact h l hl
theorem RG_of {x x' y y' : St} (h0 : x' 71 = x 71) (h1 : x' 72 = x 72) (h2 : x' 73 = x 73) (h3 : x' 74 = x 74) (g0 : y' 0 26 = y 0 26) (g1 : y' 0 30 = y 0 30) (g2 : y' 0 31 = y 0 31) (g3 : y' 22 = y 22) (g4 : y' 23 = y 23) (g5 : y' 24 = y 24) (h : RG x y) : RG x' y' := by
  unfold RG
  rw [h0, h1, h2, h3, g0, g1, g2, g3, g4, g5]
  exact h
theorem RH_of {x x' y y' : St} (h0 : x' 75 = x 75) (h1 : x' 76 = x 76) (h2 : x' 77 = x 77) (h3 : x' 78 = x 78) (h4 : x' 79 = x 79) (g0 : y' 0 32 = y 0 32) (g1 : y' 25 = y 25) (g2 : y' 26 = y 26) (g3 : y' 27 = y 27) (g4 : y' 28 = y 28) (h : RH x y) : RH x' y' := by
  unfold RH
  rw [h0, h1, h2, h3, h4, g0, g1, g2, g3, g4]
  exact h
theorem RI_of {W : Nat} {x x' y y' : St} (h0 : x' 80 = x 80) (h1 : x' 81 = x 81) (h2 : x' 82 = x 82) (g0 : y' 0 37 = y 0 37) (g1 : y' 29 = y 29) (g2 : y' 30 = y 30) (h : RI W x y) : RI W x' y' := by
  unfold RI
  rw [h0, h1, h2, g0, g1, g2]
  exact h
theorem RJ_of {x x' y y' : St} (h0 : x' 83 = x 83) (h1 : x' 84 = x 84) (h2 : x' 85 = x 85) (g0 : y' 0 40 = y 0 40) (g1 : y' 31 = y 31) (g2 : y' 32 = y 32) (g3 : y' 33 = y 33) (h : RJ x y) : RJ x' y' := by
  unfold RJ
  rw [h0, h1, h2, g0, g1, g2, g3]
  exact h
/-- nothing of the relation's cells but those of the findings has changed -/
def Kx (x x' : St) : Prop := (∀ k, 1 ≤ k → k < 86 → x' k = x k)
def Ky (y y' : St) : Prop := (∀ k, 2 ≤ k → k < 34 → k ≠ 5 → k ≠ 15 → k ≠ 20 → k ≠ 21 → y' k = y k) ∧ y' 0 7 = y 0 7 ∧ y' 0 26 = y 0 26 ∧ y' 0 30 = y 0 30 ∧ y' 0 31 = y 0 31 ∧ y' 0 32 = y 0 32 ∧ y' 0 37 = y 0 37 ∧ y' 0 40 = y 0 40
theorem Rel_K {x x' y y' : St} (hx : Kx x x') (hy : Ky y y') (ha : RA x' y') (h : Rel x y) : Rel x' y' := by
  obtain ⟨-, hB, hC, hE, hG, hH, hJ, W, hD, hF, hI⟩ := h
  obtain ⟨hy, y7, y26, y30, y31, y32, y37, y40⟩ := hy
  have X : ∀ k, 1 ≤ k → k < 86 → x' k = x k := hx
  have Y : ∀ k, 2 ≤ k → k < 34 → k ≠ 5 → k ≠ 15 → k ≠ 20 → k ≠ 21 → y' k = y k := hy
  refine ⟨ha, RB_of (X _ (by omega) (by omega)) (Y _ (by omega) (by omega) (by omega) (by omega) (by omega) (by omega)) hB, RC_of (X _ (by omega) (by omega)) (fun s hs => X _ (by omega) (by omega)) (Y _ (by omega) (by omega) (by omega) (by omega) (by omega) (by omega)) (Y _ (by omega) (by omega) (by omega) (by omega) (by omega) (by omega)) hC, RE_of (fun l u hl hu => X _ (by omega) (by omega)) (Y _ (by omega) (by omega) (by omega) (by omega) (by omega) (by omega)) hE, ?_, ?_, ?_, W, ?_, ?_, ?_⟩
  · exact RG_of (X _ (by omega) (by omega)) (X _ (by omega) (by omega)) (X _ (by omega) (by omega)) (X _ (by omega) (by omega)) y26 y30 y31 (Y _ (by omega) (by omega) (by omega) (by omega) (by omega) (by omega)) (Y _ (by omega) (by omega) (by omega) (by omega) (by omega) (by omega)) (Y _ (by omega) (by omega) (by omega) (by omega) (by omega) (by omega)) hG
  · exact RH_of (X _ (by omega) (by omega)) (X _ (by omega) (by omega)) (X _ (by omega) (by omega)) (X _ (by omega) (by omega)) (X _ (by omega) (by omega)) y32 (Y _ (by omega) (by omega) (by omega) (by omega) (by omega) (by omega)) (Y _ (by omega) (by omega) (by omega) (by omega) (by omega) (by omega)) (Y _ (by omega) (by omega) (by omega) (by omega) (by omega) (by omega)) (Y _ (by omega) (by omega) (by omega) (by omega) (by omega) (by omega)) hH
  · exact RJ_of (X _ (by omega) (by omega)) (X _ (by omega) (by omega)) (X _ (by omega) (by omega)) y40 (Y _ (by omega) (by omega) (by omega) (by omega) (by omega) (by omega)) (Y _ (by omega) (by omega) (by omega) (by omega) (by omega) (by omega)) (Y _ (by omega) (by omega) (by omega) (by omega) (by omega) (by omega)) hJ
  · exact RD_of (by rw [X 8 (by omega) (by omega)]) (fun w hw => X _ (by omega) (by omega)) (X _ (by omega) (by omega)) (X _ (by omega) (by omega)) (X _ (by omega) (by omega)) (X _ (by omega) (by omega)) (X _ (by omega) (by omega)) (X _ (by omega) (by omega)) (X _ (by omega) (by omega)) y7 (Y _ (by omega) (by omega) (by omega) (by omega) (by omega) (by omega)) (Y _ (by omega) (by omega) (by omega) (by omega) (by omega) (by omega)) (Y _ (by omega) (by omega) (by omega) (by omega) (by omega) (by omega)) (Y _ (by omega) (by omega) (by omega) (by omega) (by omega) (by omega)) (Y _ (by omega) (by omega) (by omega) (by omega) (by omega) (by omega)) (Y _ (by omega) (by omega) (by omega) (by omega) (by omega) (by omega)) (Y _ (by omega) (by omega) (by omega) (by omega) (by omega) (by omega)) (Y _ (by omega) (by omega) (by omega) (by omega) (by omega) (by omega)) hD
  · exact RF_of (fun l hl => by rw [X (35 + 9 * l) (by omega) (by omega)]) (fun l hl => X _ (by omega) (by omega)) (fun l hl => X _ (by omega) (by omega)) (fun l hl => X _ (by omega) (by omega)) (X _ (by omega) (by omega)) (Y _ (by omega) (by omega) (by omega) (by omega) (by omega) (by omega)) (Y _ (by omega) (by omega) (by omega) (by omega) (by omega) (by omega)) (Y _ (by omega) (by omega) (by omega) (by omega) (by omega) (by omega)) (Y _ (by omega) (by omega) (by omega) (by omega) (by omega) (by omega)) hF
  · exact RI_of (X _ (by omega) (by omega)) (X _ (by omega) (by omega)) (X _ (by omega) (by omega)) y37 (Y _ (by omega) (by omega) (by omega) (by omega) (by omega) (by omega)) (Y _ (by omega) (by omega) (by omega) (by omega) (by omega) (by omega)) hI
-- a finding is told
def rfX (x : St) (k : Nat) : St := us (us x 0 12 (nI k)) 98 k (x 98 k + 1)
def rfY (y : St) (k : Nat) : St := us (us y 0 0 (nI k)) 1 k (y 1 k + 1)
theorem p_refuse (x : St) {v : Int32} {k : Nat} (hv : v = nI k) (hk : k < 6) : f_X9_refuse x v = some (-3, rfX x k) := by
  subst hv
  unfold f_X9_refuse
  rw [ul_eq, ui_n hk (by decide), ui_n hk (by decide), ul_eq, nI_clamp (by omega)]
  rfl
theorem p_meets (y : St) {v : Int32} {k : Nat} (hv : v = nI k) (hk : k < 6) : f_X10_meets y v = some (-3, rfY y k) := by
  subst hv
  unfold f_X10_meets
  rw [ul_eq, ui_n hk (by decide), ui_n hk (by decide), ul_eq, nI_clamp (by omega)]
  rfl
theorem rel_rf {x y : St} {k : Nat} (hk : k < 6) (h : Rel x y) : Rel (rfX x k) (rfY y k) := by
  refine Rel_K (x := x) (y := y) (fun q h1 h2 => ?_) ⟨fun q h1 h2 _ _ _ _ => ?_, rfl, rfl, rfl, rfl, rfl, rfl, rfl⟩ ?_ h
  · unfold rfX
    rw [us_n (by omega), us_n (by omega)]
  · unfold rfY
    rw [us_n (by omega), us_n (by omega)]
  · obtain ⟨⟨a1, a2, a3⟩, -⟩ := h
    refine ⟨rfl, a2, fun f hf => ?_⟩
    show upd (x 98) k (x 98 k + 1) f = upd (y 1) k (y 1 k + 1) f
    unfold upd
    by_cases e : f = k
    · rw [if_pos e, if_pos e, a3 k hk]
    · rw [if_neg e, if_neg e, a3 f hf]
