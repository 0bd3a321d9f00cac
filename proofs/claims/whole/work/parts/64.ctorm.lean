/-! the reference's constructor -/
def sM00 : St := us (us (fun _ _ => 0) 0 30 1) 0 31 1900
def szS (σ : St) (j : Nat) : St := uf σ 3 (fun i => if i < j then (-9) else σ 3 i)
def wlS (σ : St) (j : Nat) : St := uf σ 14 (fun i => if i < j then 4 else σ 14 i)
def sM0 : St := wlS (szS sM00 4) 600
theorem szS_0 {σ : St} : szS σ 0 = σ := by
  funext k i
  unfold szS uf
  by_cases h : k = 3
  · subst h; simp
  · simp [h]
theorem wlS_0 {σ : St} : wlS σ 0 = σ := by
  funext k i
  unfold wlS uf
  by_cases h : k = 14
  · subst h; simp
  · simp [h]
theorem szS_s {σ : St} {j : Nat} : us (szS σ j) 3 j (-9) = szS σ (j + 1) := by
  funext k i
  unfold us szS uf upd
  by_cases h : k = 3
  · subst h
    by_cases e : i = j
    · subst e; simp
    · simp only [if_true, if_neg e]
      by_cases g : i < j
      · rw [if_pos g, if_pos (by omega)]
      · rw [if_neg g, if_neg (by omega)]
  · simp [h]
theorem wlS_s {σ : St} {j : Nat} : us (wlS σ j) 14 j 4 = wlS σ (j + 1) := by
  funext k i
  unfold us wlS uf upd
  by_cases h : k = 14
  · subst h
    by_cases e : i = j
    · subst e; simp
    · simp only [if_true, if_neg e]
      by_cases g : i < j
      · rw [if_pos g, if_pos (by omega)]
      · rw [if_neg g, if_neg (by omega)]
  · simp [h]
theorem fi_X10_init_10 : ∀ w ∈ u_ws RX10 TX10 44, w ∈ wsX10_init := by decide +kernel
set_option maxHeartbeats 4000000 in
set_option maxRecDepth 100000 in
theorem w_X10_init_283 {p : Program} {l : Launch} {e : Env} {R : Room} {s : State} {m : MethodId} {args : Array Value} {below : List Frame} {meth : Method} {c : Code} {D : va_G} {ad : Nat → Nat} {cs : Nat → ClassId} {A : Nat → Prop} {cells slots : Nat} {Q : State → Prop} {σ : St} (C : uC p R s m args c cX10_init 2 wsX10_init RX10 D vwCl (tyX cs) 34 ad A cells slots)
    (hex : ∀ (H : Heap) (locs : List Loc) (ls : Array Slot), uG D vwCl 34 ad (enM ad cs) A s (szS σ 4) H locs → lv_has ls 2 [(0, .ref (ad 0))] → W p l e R s m args below meth c H locs cells slots Q (F0 m 302 ls [])) :
    ∀ (n j : Nat), j + n = 4 → ∀ (H : Heap) (locs : List Loc) (ls : Array Slot), uG D vwCl 34 ad (enM ad cs) A s (szS σ j) H locs → lv_has ls 2 [(0, .ref (ad 0)), (1, .int (nI j))] → W p l e R s m args below meth c H locs cells slots Q (F0 m 283 ls []) := by
  have hx := C.1.1
  have hb := C.1.2.1
  have eN : (4 : Int32) = nI 4 := by decide
  intro n
  induction n with
  | zero =>
    intro j hj H locs ls G hl
    have ej : j = 4 := by omega
    subst ej
    refine lv_iload_n hx hb dX10_init_283 rfl (lv_at hl 1 rfl) ?_
    refine lv_iconst (v := 4) hx hb dX10_init_284 (by decide) ?_
    refine lv_icmp_ge (tgt := 302) hx hb dX10_init_285 (by decide) (fun _ => ?_) (fun q => absurd (by rw [eN]; exact nI_le (Nat.le_refl _) (by omega)) q)
    exact hex H locs ls G (lv_sub hl [0] rfl)
  | succ n ih =>
    intro j hj H locs ls G hl
    have hlt : j < 4 := by omega
    refine lv_iload_n hx hb dX10_init_283 rfl (lv_at hl 1 rfl) ?_
    refine lv_iconst (v := 4) hx hb dX10_init_284 (by decide) ?_
    refine lv_icmp_ge (tgt := 302) hx hb dX10_init_285 (by decide) (fun q => absurd q (by rw [eN]; exact nI_ge hlt (by omega))) (fun _ => ?_)
    refine lv_aload_n hx hb dX10_init_288 rfl (lv_at hl 0 rfl) ?_
    refine u_get (v := .ref (ad 3)) C G obM_0 (ci := 10) (N := 44) (Cn := RX10) (T := TX10) rfl fi_X10_init_10 4 (by decide) (by decide +kernel) rfl dX10_init_289 ?_
    refine lv_iload_n hx hb dX10_init_292 rfl (lv_at hl 1 rfl) ?_
    refine lv_bipush (v := (-9)) hx hb dX10_init_293 (by decide) ?_
    refine u_iast C G arM_3 (t0 := 0) rfl (vp_in_nI (Nat.lt_of_lt_of_le hlt (by decide)) (by decide)) dX10_init_295 (fun H locs G => ?_)
    rw [nI_clamp (show j < 2 ^ 31 by omega), szS_s] at G
    refine lv_iinc (v := nI (j + 1)) (lv' := [(1, .int (nI (j + 1))), (0, .ref (ad 0))]) hx hb dX10_init_296 hl (k := 1) rfl (nI_1 j) (by decide) rfl (fun ls hl => ?_)
    refine lv_goto (tgt := 283) hx hb dX10_init_299 (by decide) ?_
    exact ih (j + 1) (by omega) H locs ls G (lv_sub hl [1, 0] rfl)
set_option maxHeartbeats 4000000 in
set_option maxRecDepth 100000 in
theorem w_X10_init_304 {p : Program} {l : Launch} {e : Env} {R : Room} {s : State} {m : MethodId} {args : Array Value} {below : List Frame} {meth : Method} {c : Code} {D : va_G} {ad : Nat → Nat} {cs : Nat → ClassId} {A : Nat → Prop} {cells slots : Nat} {Q : State → Prop} {σ : St} (C : uC p R s m args c cX10_init 2 wsX10_init RX10 D vwCl (tyX cs) 34 ad A cells slots)
    (hex : ∀ (H : Heap) (locs : List Loc) (ls : Array Slot), uG D vwCl 34 ad (enM ad cs) A s (wlS σ 600) H locs → lv_has ls 2 [(0, .ref (ad 0))] → W p l e R s m args below meth c H locs cells slots Q (F0 m 324 ls [])) :
    ∀ (n j : Nat), j + n = 600 → ∀ (H : Heap) (locs : List Loc) (ls : Array Slot), uG D vwCl 34 ad (enM ad cs) A s (wlS σ j) H locs → lv_has ls 2 [(0, .ref (ad 0)), (1, .int (nI j))] → W p l e R s m args below meth c H locs cells slots Q (F0 m 304 ls []) := by
  have hx := C.1.1
  have hb := C.1.2.1
  have eN : (600 : Int32) = nI 600 := by decide
  intro n
  induction n with
  | zero =>
    intro j hj H locs ls G hl
    have ej : j = 600 := by omega
    subst ej
    refine lv_iload_n hx hb dX10_init_304 rfl (lv_at hl 1 rfl) ?_
    refine lv_sipush (v := 600) hx hb dX10_init_305 (by decide) ?_
    refine lv_icmp_ge (tgt := 324) hx hb dX10_init_308 (by decide) (fun _ => ?_) (fun q => absurd (by rw [eN]; exact nI_le (Nat.le_refl _) (by omega)) q)
    exact hex H locs ls G (lv_sub hl [0] rfl)
  | succ n ih =>
    intro j hj H locs ls G hl
    have hlt : j < 600 := by omega
    refine lv_iload_n hx hb dX10_init_304 rfl (lv_at hl 1 rfl) ?_
    refine lv_sipush (v := 600) hx hb dX10_init_305 (by decide) ?_
    refine lv_icmp_ge (tgt := 324) hx hb dX10_init_308 (by decide) (fun q => absurd q (by rw [eN]; exact nI_ge hlt (by omega))) (fun _ => ?_)
    refine lv_aload_n hx hb dX10_init_311 rfl (lv_at hl 0 rfl) ?_
    refine u_get (v := .ref (ad 14)) C G obM_0 (ci := 10) (N := 44) (Cn := RX10) (T := TX10) rfl fi_X10_init_10 16 (by decide) (by decide +kernel) rfl dX10_init_312 ?_
    refine lv_iload_n hx hb dX10_init_315 rfl (lv_at hl 1 rfl) ?_
    refine lv_iconst (v := 4) hx hb dX10_init_316 (by decide) ?_
    refine u_iast C G arM_14 (t0 := 0) rfl (vp_in_nI (Nat.lt_of_lt_of_le hlt (by decide)) (by decide)) dX10_init_317 (fun H locs G => ?_)
    rw [nI_clamp (show j < 2 ^ 31 by omega), wlS_s] at G
    refine lv_iinc (v := nI (j + 1)) (lv' := [(1, .int (nI (j + 1))), (0, .ref (ad 0))]) hx hb dX10_init_318 hl (k := 1) rfl (nI_1 j) (by decide) rfl (fun ls hl => ?_)
    refine lv_goto (tgt := 304) hx hb dX10_init_321 (by decide) ?_
    exact ih (j + 1) (by omega) H locs ls G (lv_sub hl [1, 0] rfl)
def adRM (q1 q2 q3 q4 q5 q6 q7 q8 q9 q10 q11 q12 q13 q14 q15 q16 q17 q18 q19 q20 q21 q22 q23 q24 q25 q26 q27 q28 q29 q30 q31 q32 q33 : Nat) : Nat → Nat := (uap 32 (uap 31 (uap 30 (uap 29 (uap 28 (uap 27 (uap 26 (uap 25 (uap 24 (uap 23 (uap 22 (uap 21 (uap 20 (uap 19 (uap 18 (uap 17 (uap 16 (uap 15 (uap 14 (uap 13 (uap 12 (uap 11 (uap 10 (uap 9 (uap 8 (uap 7 (uap 6 (uap 5 (uap 4 (uap 3 (uap 2 (uap 1 (uap 0 (fun _ => 0) (fun _ => q1)) (fun _ => q2)) (fun _ => q3)) (fun _ => q4)) (fun _ => q5)) (fun _ => q6)) (fun _ => q7)) (fun _ => q8)) (fun _ => q9)) (fun _ => q10)) (fun _ => q11)) (fun _ => q12)) (fun _ => q13)) (fun _ => q14)) (fun _ => q15)) (fun _ => q16)) (fun _ => q17)) (fun _ => q18)) (fun _ => q19)) (fun _ => q20)) (fun _ => q21)) (fun _ => q22)) (fun _ => q23)) (fun _ => q24)) (fun _ => q25)) (fun _ => q26)) (fun _ => q27)) (fun _ => q28)) (fun _ => q29)) (fun _ => q30)) (fun _ => q31)) (fun _ => q32)) (fun _ => q33))
def enRM (cs : Nat → ClassId) : Nat → (Nat → Int32) → va_E := (uap 32 (uap 31 (uap 30 (uap 29 (uap 28 (uap 27 (uap 26 (uap 25 (uap 24 (uap 23 (uap 22 (uap 21 (uap 20 (uap 19 (uap 18 (uap 17 (uap 16 (uap 15 (uap 14 (uap 13 (uap 12 (uap 11 (uap 10 (uap 9 (uap 8 (uap 7 (uap 6 (uap 5 (uap 4 (uap 3 (uap 2 (uap 1 (uap 0 (fun _ _ => .inr (0, [])) (fun _ _ => .inl (cs 0, 6, .inl (fun _ => 0)))) (fun _ _ => .inl (cs 0, 26, .inl (fun _ => 0)))) (fun _ _ => .inl (cs 0, 4, .inl (fun _ => 0)))) (fun _ _ => .inl (cs 0, 40, .inl (fun _ => 0)))) (fun _ _ => .inl (cs 0, 10, .inl (fun _ => 0)))) (fun _ _ => .inl (cs 0, 16, .inl (fun _ => 0)))) (fun _ _ => .inl (cs 0, 16, .inl (fun _ => 0)))) (fun _ _ => .inl (cs 0, 128, .inl (fun _ => 0)))) (fun _ _ => .inl (cs 2, 16, .inl (fun _ => 0)))) (fun _ _ => .inl (cs 0, 16, .inl (fun _ => 0)))) (fun _ _ => .inl (cs 0, 16, .inl (fun _ => 0)))) (fun _ _ => .inl (cs 0, 16, .inl (fun _ => 0)))) (fun _ _ => .inl (cs 0, 16, .inl (fun _ => 0)))) (fun _ _ => .inl (cs 0, 600, .inl (fun _ => 0)))) (fun _ _ => .inl (cs 0, 160, .inl (fun _ => 0)))) (fun _ _ => .inl (cs 0, 4, .inl (fun _ => 0)))) (fun _ _ => .inl (cs 0, 12, .inl (fun _ => 0)))) (fun _ _ => .inl (cs 0, 12, .inl (fun _ => 0)))) (fun _ _ => .inl (cs 0, 12, .inl (fun _ => 0)))) (fun _ _ => .inl (cs 0, 6, .inl (fun _ => 0)))) (fun _ _ => .inl (cs 0, 10, .inl (fun _ => 0)))) (fun _ _ => .inl (cs 0, 8, .inl (fun _ => 0)))) (fun _ _ => .inl (cs 0, 8, .inl (fun _ => 0)))) (fun _ _ => .inl (cs 0, 8, .inl (fun _ => 0)))) (fun _ _ => .inl (cs 0, 30, .inl (fun _ => 0)))) (fun _ _ => .inl (cs 0, 30, .inl (fun _ => 0)))) (fun _ _ => .inl (cs 0, 30, .inl (fun _ => 0)))) (fun _ _ => .inl (cs 0, 30, .inl (fun _ => 0)))) (fun _ _ => .inl (cs 0, 12, .inl (fun _ => 0)))) (fun _ _ => .inl (cs 0, 12, .inl (fun _ => 0)))) (fun _ _ => .inl (cs 0, 12, .inl (fun _ => 0)))) (fun _ _ => .inl (cs 0, 12, .inl (fun _ => 0)))) (fun _ _ => .inl (cs 2, 12, .inl (fun _ => 0))))
def sgRM : St := (uap 32 (uap 31 (uap 30 (uap 29 (uap 28 (uap 27 (uap 26 (uap 25 (uap 24 (uap 23 (uap 22 (uap 21 (uap 20 (uap 19 (uap 18 (uap 17 (uap 16 (uap 15 (uap 14 (uap 13 (uap 12 (uap 11 (uap 10 (uap 9 (uap 8 (uap 7 (uap 6 (uap 5 (uap 4 (uap 3 (uap 2 (uap 1 (uap 0 (fun _ _ => 0) (fun _ _ => 0)) (fun _ _ => 0)) (fun _ _ => 0)) (fun _ _ => 0)) (fun _ _ => 0)) (fun _ _ => 0)) (fun _ _ => 0)) (fun _ _ => 0)) (fun _ _ => 0)) (fun _ _ => 0)) (fun _ _ => 0)) (fun _ _ => 0)) (fun _ _ => 0)) (fun _ _ => 0)) (fun _ _ => 0)) (fun _ _ => 0)) (fun _ _ => 0)) (fun _ _ => 0)) (fun _ _ => 0)) (fun _ _ => 0)) (fun _ _ => 0)) (fun _ _ => 0)) (fun _ _ => 0)) (fun _ _ => 0)) (fun _ _ => 0)) (fun _ _ => 0)) (fun _ _ => 0)) (fun _ _ => 0)) (fun _ _ => 0)) (fun _ _ => 0)) (fun _ _ => 0)) (fun _ _ => 0)) (fun _ _ => 0))
def adM (h0 q1 q2 q3 q4 q5 q6 q7 q8 q9 q10 q11 q12 q13 q14 q15 q16 q17 q18 q19 q20 q21 q22 q23 q24 q25 q26 q27 q28 q29 q30 q31 q32 q33 : Nat) : Nat → Nat := fun k => match k with | 0 => h0 | k + 1 => adRM q1 q2 q3 q4 q5 q6 q7 q8 q9 q10 q11 q12 q13 q14 q15 q16 q17 q18 q19 q20 q21 q22 q23 q24 q25 q26 q27 q28 q29 q30 q31 q32 q33 k
set_option maxHeartbeats 400000 in
set_option maxRecDepth 100000 in
theorem xm_1 (cs : Nat → ClassId) (h0 q1 q2 q3 q4 q5 q6 q7 q8 q9 q10 q11 q12 q13 q14 q15 q16 q17 q18 q19 q20 q21 q22 q23 q24 q25 q26 q27 q28 q29 q30 q31 q32 q33 : Nat) : enRM cs 0 (sgRM 0) = enM (adM h0 q1 q2 q3 q4 q5 q6 q7 q8 q9 q10 q11 q12 q13 q14 q15 q16 q17 q18 q19 q20 q21 q22 q23 q24 q25 q26 q27 q28 q29 q30 q31 q32 q33) cs 1 (sM00 1) := rfl
set_option maxHeartbeats 400000 in
set_option maxRecDepth 100000 in
theorem xm_2 (cs : Nat → ClassId) (h0 q1 q2 q3 q4 q5 q6 q7 q8 q9 q10 q11 q12 q13 q14 q15 q16 q17 q18 q19 q20 q21 q22 q23 q24 q25 q26 q27 q28 q29 q30 q31 q32 q33 : Nat) : enRM cs 1 (sgRM 1) = enM (adM h0 q1 q2 q3 q4 q5 q6 q7 q8 q9 q10 q11 q12 q13 q14 q15 q16 q17 q18 q19 q20 q21 q22 q23 q24 q25 q26 q27 q28 q29 q30 q31 q32 q33) cs 2 (sM00 2) := rfl
set_option maxHeartbeats 400000 in
set_option maxRecDepth 100000 in
theorem xm_3 (cs : Nat → ClassId) (h0 q1 q2 q3 q4 q5 q6 q7 q8 q9 q10 q11 q12 q13 q14 q15 q16 q17 q18 q19 q20 q21 q22 q23 q24 q25 q26 q27 q28 q29 q30 q31 q32 q33 : Nat) : enRM cs 2 (sgRM 2) = enM (adM h0 q1 q2 q3 q4 q5 q6 q7 q8 q9 q10 q11 q12 q13 q14 q15 q16 q17 q18 q19 q20 q21 q22 q23 q24 q25 q26 q27 q28 q29 q30 q31 q32 q33) cs 3 (sM00 3) := rfl
set_option maxHeartbeats 400000 in
set_option maxRecDepth 100000 in
theorem xm_4 (cs : Nat → ClassId) (h0 q1 q2 q3 q4 q5 q6 q7 q8 q9 q10 q11 q12 q13 q14 q15 q16 q17 q18 q19 q20 q21 q22 q23 q24 q25 q26 q27 q28 q29 q30 q31 q32 q33 : Nat) : enRM cs 3 (sgRM 3) = enM (adM h0 q1 q2 q3 q4 q5 q6 q7 q8 q9 q10 q11 q12 q13 q14 q15 q16 q17 q18 q19 q20 q21 q22 q23 q24 q25 q26 q27 q28 q29 q30 q31 q32 q33) cs 4 (sM00 4) := rfl
set_option maxHeartbeats 400000 in
set_option maxRecDepth 100000 in
theorem xm_5 (cs : Nat → ClassId) (h0 q1 q2 q3 q4 q5 q6 q7 q8 q9 q10 q11 q12 q13 q14 q15 q16 q17 q18 q19 q20 q21 q22 q23 q24 q25 q26 q27 q28 q29 q30 q31 q32 q33 : Nat) : enRM cs 4 (sgRM 4) = enM (adM h0 q1 q2 q3 q4 q5 q6 q7 q8 q9 q10 q11 q12 q13 q14 q15 q16 q17 q18 q19 q20 q21 q22 q23 q24 q25 q26 q27 q28 q29 q30 q31 q32 q33) cs 5 (sM00 5) := rfl
set_option maxHeartbeats 400000 in
set_option maxRecDepth 100000 in
theorem xm_6 (cs : Nat → ClassId) (h0 q1 q2 q3 q4 q5 q6 q7 q8 q9 q10 q11 q12 q13 q14 q15 q16 q17 q18 q19 q20 q21 q22 q23 q24 q25 q26 q27 q28 q29 q30 q31 q32 q33 : Nat) : enRM cs 5 (sgRM 5) = enM (adM h0 q1 q2 q3 q4 q5 q6 q7 q8 q9 q10 q11 q12 q13 q14 q15 q16 q17 q18 q19 q20 q21 q22 q23 q24 q25 q26 q27 q28 q29 q30 q31 q32 q33) cs 6 (sM00 6) := rfl
set_option maxHeartbeats 400000 in
set_option maxRecDepth 100000 in
theorem xm_7 (cs : Nat → ClassId) (h0 q1 q2 q3 q4 q5 q6 q7 q8 q9 q10 q11 q12 q13 q14 q15 q16 q17 q18 q19 q20 q21 q22 q23 q24 q25 q26 q27 q28 q29 q30 q31 q32 q33 : Nat) : enRM cs 6 (sgRM 6) = enM (adM h0 q1 q2 q3 q4 q5 q6 q7 q8 q9 q10 q11 q12 q13 q14 q15 q16 q17 q18 q19 q20 q21 q22 q23 q24 q25 q26 q27 q28 q29 q30 q31 q32 q33) cs 7 (sM00 7) := rfl
set_option maxHeartbeats 400000 in
set_option maxRecDepth 100000 in
theorem xm_8 (cs : Nat → ClassId) (h0 q1 q2 q3 q4 q5 q6 q7 q8 q9 q10 q11 q12 q13 q14 q15 q16 q17 q18 q19 q20 q21 q22 q23 q24 q25 q26 q27 q28 q29 q30 q31 q32 q33 : Nat) : enRM cs 7 (sgRM 7) = enM (adM h0 q1 q2 q3 q4 q5 q6 q7 q8 q9 q10 q11 q12 q13 q14 q15 q16 q17 q18 q19 q20 q21 q22 q23 q24 q25 q26 q27 q28 q29 q30 q31 q32 q33) cs 8 (sM00 8) := rfl
set_option maxHeartbeats 400000 in
set_option maxRecDepth 100000 in
theorem xm_9 (cs : Nat → ClassId) (h0 q1 q2 q3 q4 q5 q6 q7 q8 q9 q10 q11 q12 q13 q14 q15 q16 q17 q18 q19 q20 q21 q22 q23 q24 q25 q26 q27 q28 q29 q30 q31 q32 q33 : Nat) : enRM cs 8 (sgRM 8) = enM (adM h0 q1 q2 q3 q4 q5 q6 q7 q8 q9 q10 q11 q12 q13 q14 q15 q16 q17 q18 q19 q20 q21 q22 q23 q24 q25 q26 q27 q28 q29 q30 q31 q32 q33) cs 9 (sM00 9) := rfl
set_option maxHeartbeats 400000 in
set_option maxRecDepth 100000 in
theorem xm_10 (cs : Nat → ClassId) (h0 q1 q2 q3 q4 q5 q6 q7 q8 q9 q10 q11 q12 q13 q14 q15 q16 q17 q18 q19 q20 q21 q22 q23 q24 q25 q26 q27 q28 q29 q30 q31 q32 q33 : Nat) : enRM cs 9 (sgRM 9) = enM (adM h0 q1 q2 q3 q4 q5 q6 q7 q8 q9 q10 q11 q12 q13 q14 q15 q16 q17 q18 q19 q20 q21 q22 q23 q24 q25 q26 q27 q28 q29 q30 q31 q32 q33) cs 10 (sM00 10) := rfl
set_option maxHeartbeats 400000 in
set_option maxRecDepth 100000 in
theorem xm_11 (cs : Nat → ClassId) (h0 q1 q2 q3 q4 q5 q6 q7 q8 q9 q10 q11 q12 q13 q14 q15 q16 q17 q18 q19 q20 q21 q22 q23 q24 q25 q26 q27 q28 q29 q30 q31 q32 q33 : Nat) : enRM cs 10 (sgRM 10) = enM (adM h0 q1 q2 q3 q4 q5 q6 q7 q8 q9 q10 q11 q12 q13 q14 q15 q16 q17 q18 q19 q20 q21 q22 q23 q24 q25 q26 q27 q28 q29 q30 q31 q32 q33) cs 11 (sM00 11) := rfl
set_option maxHeartbeats 400000 in
set_option maxRecDepth 100000 in
theorem xm_12 (cs : Nat → ClassId) (h0 q1 q2 q3 q4 q5 q6 q7 q8 q9 q10 q11 q12 q13 q14 q15 q16 q17 q18 q19 q20 q21 q22 q23 q24 q25 q26 q27 q28 q29 q30 q31 q32 q33 : Nat) : enRM cs 11 (sgRM 11) = enM (adM h0 q1 q2 q3 q4 q5 q6 q7 q8 q9 q10 q11 q12 q13 q14 q15 q16 q17 q18 q19 q20 q21 q22 q23 q24 q25 q26 q27 q28 q29 q30 q31 q32 q33) cs 12 (sM00 12) := rfl
set_option maxHeartbeats 400000 in
set_option maxRecDepth 100000 in
theorem xm_13 (cs : Nat → ClassId) (h0 q1 q2 q3 q4 q5 q6 q7 q8 q9 q10 q11 q12 q13 q14 q15 q16 q17 q18 q19 q20 q21 q22 q23 q24 q25 q26 q27 q28 q29 q30 q31 q32 q33 : Nat) : enRM cs 12 (sgRM 12) = enM (adM h0 q1 q2 q3 q4 q5 q6 q7 q8 q9 q10 q11 q12 q13 q14 q15 q16 q17 q18 q19 q20 q21 q22 q23 q24 q25 q26 q27 q28 q29 q30 q31 q32 q33) cs 13 (sM00 13) := rfl
set_option maxHeartbeats 400000 in
set_option maxRecDepth 100000 in
theorem xm_14 (cs : Nat → ClassId) (h0 q1 q2 q3 q4 q5 q6 q7 q8 q9 q10 q11 q12 q13 q14 q15 q16 q17 q18 q19 q20 q21 q22 q23 q24 q25 q26 q27 q28 q29 q30 q31 q32 q33 : Nat) : enRM cs 13 (sgRM 13) = enM (adM h0 q1 q2 q3 q4 q5 q6 q7 q8 q9 q10 q11 q12 q13 q14 q15 q16 q17 q18 q19 q20 q21 q22 q23 q24 q25 q26 q27 q28 q29 q30 q31 q32 q33) cs 14 (sM00 14) := rfl
set_option maxHeartbeats 400000 in
set_option maxRecDepth 100000 in
theorem xm_15 (cs : Nat → ClassId) (h0 q1 q2 q3 q4 q5 q6 q7 q8 q9 q10 q11 q12 q13 q14 q15 q16 q17 q18 q19 q20 q21 q22 q23 q24 q25 q26 q27 q28 q29 q30 q31 q32 q33 : Nat) : enRM cs 14 (sgRM 14) = enM (adM h0 q1 q2 q3 q4 q5 q6 q7 q8 q9 q10 q11 q12 q13 q14 q15 q16 q17 q18 q19 q20 q21 q22 q23 q24 q25 q26 q27 q28 q29 q30 q31 q32 q33) cs 15 (sM00 15) := rfl
set_option maxHeartbeats 400000 in
set_option maxRecDepth 100000 in
theorem xm_16 (cs : Nat → ClassId) (h0 q1 q2 q3 q4 q5 q6 q7 q8 q9 q10 q11 q12 q13 q14 q15 q16 q17 q18 q19 q20 q21 q22 q23 q24 q25 q26 q27 q28 q29 q30 q31 q32 q33 : Nat) : enRM cs 15 (sgRM 15) = enM (adM h0 q1 q2 q3 q4 q5 q6 q7 q8 q9 q10 q11 q12 q13 q14 q15 q16 q17 q18 q19 q20 q21 q22 q23 q24 q25 q26 q27 q28 q29 q30 q31 q32 q33) cs 16 (sM00 16) := rfl
set_option maxHeartbeats 400000 in
set_option maxRecDepth 100000 in
theorem xm_17 (cs : Nat → ClassId) (h0 q1 q2 q3 q4 q5 q6 q7 q8 q9 q10 q11 q12 q13 q14 q15 q16 q17 q18 q19 q20 q21 q22 q23 q24 q25 q26 q27 q28 q29 q30 q31 q32 q33 : Nat) : enRM cs 16 (sgRM 16) = enM (adM h0 q1 q2 q3 q4 q5 q6 q7 q8 q9 q10 q11 q12 q13 q14 q15 q16 q17 q18 q19 q20 q21 q22 q23 q24 q25 q26 q27 q28 q29 q30 q31 q32 q33) cs 17 (sM00 17) := rfl
set_option maxHeartbeats 400000 in
set_option maxRecDepth 100000 in
theorem xm_18 (cs : Nat → ClassId) (h0 q1 q2 q3 q4 q5 q6 q7 q8 q9 q10 q11 q12 q13 q14 q15 q16 q17 q18 q19 q20 q21 q22 q23 q24 q25 q26 q27 q28 q29 q30 q31 q32 q33 : Nat) : enRM cs 17 (sgRM 17) = enM (adM h0 q1 q2 q3 q4 q5 q6 q7 q8 q9 q10 q11 q12 q13 q14 q15 q16 q17 q18 q19 q20 q21 q22 q23 q24 q25 q26 q27 q28 q29 q30 q31 q32 q33) cs 18 (sM00 18) := rfl
set_option maxHeartbeats 400000 in
set_option maxRecDepth 100000 in
theorem xm_19 (cs : Nat → ClassId) (h0 q1 q2 q3 q4 q5 q6 q7 q8 q9 q10 q11 q12 q13 q14 q15 q16 q17 q18 q19 q20 q21 q22 q23 q24 q25 q26 q27 q28 q29 q30 q31 q32 q33 : Nat) : enRM cs 18 (sgRM 18) = enM (adM h0 q1 q2 q3 q4 q5 q6 q7 q8 q9 q10 q11 q12 q13 q14 q15 q16 q17 q18 q19 q20 q21 q22 q23 q24 q25 q26 q27 q28 q29 q30 q31 q32 q33) cs 19 (sM00 19) := rfl
set_option maxHeartbeats 400000 in
set_option maxRecDepth 100000 in
theorem xm_20 (cs : Nat → ClassId) (h0 q1 q2 q3 q4 q5 q6 q7 q8 q9 q10 q11 q12 q13 q14 q15 q16 q17 q18 q19 q20 q21 q22 q23 q24 q25 q26 q27 q28 q29 q30 q31 q32 q33 : Nat) : enRM cs 19 (sgRM 19) = enM (adM h0 q1 q2 q3 q4 q5 q6 q7 q8 q9 q10 q11 q12 q13 q14 q15 q16 q17 q18 q19 q20 q21 q22 q23 q24 q25 q26 q27 q28 q29 q30 q31 q32 q33) cs 20 (sM00 20) := rfl
set_option maxHeartbeats 400000 in
set_option maxRecDepth 100000 in
theorem xm_21 (cs : Nat → ClassId) (h0 q1 q2 q3 q4 q5 q6 q7 q8 q9 q10 q11 q12 q13 q14 q15 q16 q17 q18 q19 q20 q21 q22 q23 q24 q25 q26 q27 q28 q29 q30 q31 q32 q33 : Nat) : enRM cs 20 (sgRM 20) = enM (adM h0 q1 q2 q3 q4 q5 q6 q7 q8 q9 q10 q11 q12 q13 q14 q15 q16 q17 q18 q19 q20 q21 q22 q23 q24 q25 q26 q27 q28 q29 q30 q31 q32 q33) cs 21 (sM00 21) := rfl
set_option maxHeartbeats 400000 in
set_option maxRecDepth 100000 in
theorem xm_22 (cs : Nat → ClassId) (h0 q1 q2 q3 q4 q5 q6 q7 q8 q9 q10 q11 q12 q13 q14 q15 q16 q17 q18 q19 q20 q21 q22 q23 q24 q25 q26 q27 q28 q29 q30 q31 q32 q33 : Nat) : enRM cs 21 (sgRM 21) = enM (adM h0 q1 q2 q3 q4 q5 q6 q7 q8 q9 q10 q11 q12 q13 q14 q15 q16 q17 q18 q19 q20 q21 q22 q23 q24 q25 q26 q27 q28 q29 q30 q31 q32 q33) cs 22 (sM00 22) := rfl
set_option maxHeartbeats 400000 in
set_option maxRecDepth 100000 in
theorem xm_23 (cs : Nat → ClassId) (h0 q1 q2 q3 q4 q5 q6 q7 q8 q9 q10 q11 q12 q13 q14 q15 q16 q17 q18 q19 q20 q21 q22 q23 q24 q25 q26 q27 q28 q29 q30 q31 q32 q33 : Nat) : enRM cs 22 (sgRM 22) = enM (adM h0 q1 q2 q3 q4 q5 q6 q7 q8 q9 q10 q11 q12 q13 q14 q15 q16 q17 q18 q19 q20 q21 q22 q23 q24 q25 q26 q27 q28 q29 q30 q31 q32 q33) cs 23 (sM00 23) := rfl
set_option maxHeartbeats 400000 in
set_option maxRecDepth 100000 in
theorem xm_24 (cs : Nat → ClassId) (h0 q1 q2 q3 q4 q5 q6 q7 q8 q9 q10 q11 q12 q13 q14 q15 q16 q17 q18 q19 q20 q21 q22 q23 q24 q25 q26 q27 q28 q29 q30 q31 q32 q33 : Nat) : enRM cs 23 (sgRM 23) = enM (adM h0 q1 q2 q3 q4 q5 q6 q7 q8 q9 q10 q11 q12 q13 q14 q15 q16 q17 q18 q19 q20 q21 q22 q23 q24 q25 q26 q27 q28 q29 q30 q31 q32 q33) cs 24 (sM00 24) := rfl
set_option maxHeartbeats 400000 in
set_option maxRecDepth 100000 in
theorem xm_25 (cs : Nat → ClassId) (h0 q1 q2 q3 q4 q5 q6 q7 q8 q9 q10 q11 q12 q13 q14 q15 q16 q17 q18 q19 q20 q21 q22 q23 q24 q25 q26 q27 q28 q29 q30 q31 q32 q33 : Nat) : enRM cs 24 (sgRM 24) = enM (adM h0 q1 q2 q3 q4 q5 q6 q7 q8 q9 q10 q11 q12 q13 q14 q15 q16 q17 q18 q19 q20 q21 q22 q23 q24 q25 q26 q27 q28 q29 q30 q31 q32 q33) cs 25 (sM00 25) := rfl
set_option maxHeartbeats 400000 in
set_option maxRecDepth 100000 in
theorem xm_26 (cs : Nat → ClassId) (h0 q1 q2 q3 q4 q5 q6 q7 q8 q9 q10 q11 q12 q13 q14 q15 q16 q17 q18 q19 q20 q21 q22 q23 q24 q25 q26 q27 q28 q29 q30 q31 q32 q33 : Nat) : enRM cs 25 (sgRM 25) = enM (adM h0 q1 q2 q3 q4 q5 q6 q7 q8 q9 q10 q11 q12 q13 q14 q15 q16 q17 q18 q19 q20 q21 q22 q23 q24 q25 q26 q27 q28 q29 q30 q31 q32 q33) cs 26 (sM00 26) := rfl
set_option maxHeartbeats 400000 in
set_option maxRecDepth 100000 in
theorem xm_27 (cs : Nat → ClassId) (h0 q1 q2 q3 q4 q5 q6 q7 q8 q9 q10 q11 q12 q13 q14 q15 q16 q17 q18 q19 q20 q21 q22 q23 q24 q25 q26 q27 q28 q29 q30 q31 q32 q33 : Nat) : enRM cs 26 (sgRM 26) = enM (adM h0 q1 q2 q3 q4 q5 q6 q7 q8 q9 q10 q11 q12 q13 q14 q15 q16 q17 q18 q19 q20 q21 q22 q23 q24 q25 q26 q27 q28 q29 q30 q31 q32 q33) cs 27 (sM00 27) := rfl
set_option maxHeartbeats 400000 in
set_option maxRecDepth 100000 in
theorem xm_28 (cs : Nat → ClassId) (h0 q1 q2 q3 q4 q5 q6 q7 q8 q9 q10 q11 q12 q13 q14 q15 q16 q17 q18 q19 q20 q21 q22 q23 q24 q25 q26 q27 q28 q29 q30 q31 q32 q33 : Nat) : enRM cs 27 (sgRM 27) = enM (adM h0 q1 q2 q3 q4 q5 q6 q7 q8 q9 q10 q11 q12 q13 q14 q15 q16 q17 q18 q19 q20 q21 q22 q23 q24 q25 q26 q27 q28 q29 q30 q31 q32 q33) cs 28 (sM00 28) := rfl
set_option maxHeartbeats 400000 in
set_option maxRecDepth 100000 in
theorem xm_29 (cs : Nat → ClassId) (h0 q1 q2 q3 q4 q5 q6 q7 q8 q9 q10 q11 q12 q13 q14 q15 q16 q17 q18 q19 q20 q21 q22 q23 q24 q25 q26 q27 q28 q29 q30 q31 q32 q33 : Nat) : enRM cs 28 (sgRM 28) = enM (adM h0 q1 q2 q3 q4 q5 q6 q7 q8 q9 q10 q11 q12 q13 q14 q15 q16 q17 q18 q19 q20 q21 q22 q23 q24 q25 q26 q27 q28 q29 q30 q31 q32 q33) cs 29 (sM00 29) := rfl
set_option maxHeartbeats 400000 in
set_option maxRecDepth 100000 in
theorem xm_30 (cs : Nat → ClassId) (h0 q1 q2 q3 q4 q5 q6 q7 q8 q9 q10 q11 q12 q13 q14 q15 q16 q17 q18 q19 q20 q21 q22 q23 q24 q25 q26 q27 q28 q29 q30 q31 q32 q33 : Nat) : enRM cs 29 (sgRM 29) = enM (adM h0 q1 q2 q3 q4 q5 q6 q7 q8 q9 q10 q11 q12 q13 q14 q15 q16 q17 q18 q19 q20 q21 q22 q23 q24 q25 q26 q27 q28 q29 q30 q31 q32 q33) cs 30 (sM00 30) := rfl
set_option maxHeartbeats 400000 in
set_option maxRecDepth 100000 in
theorem xm_31 (cs : Nat → ClassId) (h0 q1 q2 q3 q4 q5 q6 q7 q8 q9 q10 q11 q12 q13 q14 q15 q16 q17 q18 q19 q20 q21 q22 q23 q24 q25 q26 q27 q28 q29 q30 q31 q32 q33 : Nat) : enRM cs 30 (sgRM 30) = enM (adM h0 q1 q2 q3 q4 q5 q6 q7 q8 q9 q10 q11 q12 q13 q14 q15 q16 q17 q18 q19 q20 q21 q22 q23 q24 q25 q26 q27 q28 q29 q30 q31 q32 q33) cs 31 (sM00 31) := rfl
set_option maxHeartbeats 400000 in
set_option maxRecDepth 100000 in
theorem xm_32 (cs : Nat → ClassId) (h0 q1 q2 q3 q4 q5 q6 q7 q8 q9 q10 q11 q12 q13 q14 q15 q16 q17 q18 q19 q20 q21 q22 q23 q24 q25 q26 q27 q28 q29 q30 q31 q32 q33 : Nat) : enRM cs 31 (sgRM 31) = enM (adM h0 q1 q2 q3 q4 q5 q6 q7 q8 q9 q10 q11 q12 q13 q14 q15 q16 q17 q18 q19 q20 q21 q22 q23 q24 q25 q26 q27 q28 q29 q30 q31 q32 q33) cs 32 (sM00 32) := rfl
set_option maxHeartbeats 400000 in
set_option maxRecDepth 100000 in
theorem xm_33 (cs : Nat → ClassId) (h0 q1 q2 q3 q4 q5 q6 q7 q8 q9 q10 q11 q12 q13 q14 q15 q16 q17 q18 q19 q20 q21 q22 q23 q24 q25 q26 q27 q28 q29 q30 q31 q32 q33 : Nat) : enRM cs 32 (sgRM 32) = enM (adM h0 q1 q2 q3 q4 q5 q6 q7 q8 q9 q10 q11 q12 q13 q14 q15 q16 q17 q18 q19 q20 q21 q22 q23 q24 q25 q26 q27 q28 q29 q30 q31 q32 q33) cs 33 (sM00 33) := rfl
set_option maxHeartbeats 4000000 in
set_option maxRecDepth 100000 in
theorem xm_all (cs : Nat → ClassId) (h0 q1 q2 q3 q4 q5 q6 q7 q8 q9 q10 q11 q12 q13 q14 q15 q16 q17 q18 q19 q20 q21 q22 q23 q24 q25 q26 q27 q28 q29 q30 q31 q32 q33 : Nat) : ∀ k, k < 33 → enRM cs k (sgRM k) = enM (adM h0 q1 q2 q3 q4 q5 q6 q7 q8 q9 q10 q11 q12 q13 q14 q15 q16 q17 q18 q19 q20 q21 q22 q23 q24 q25 q26 q27 q28 q29 q30 q31 q32 q33) cs (k + 1) (sM00 (k + 1)) := by
  intro k hk
  match k, hk with
  | 0, _ => exact xm_1 cs h0 q1 q2 q3 q4 q5 q6 q7 q8 q9 q10 q11 q12 q13 q14 q15 q16 q17 q18 q19 q20 q21 q22 q23 q24 q25 q26 q27 q28 q29 q30 q31 q32 q33
  | 1, _ => exact xm_2 cs h0 q1 q2 q3 q4 q5 q6 q7 q8 q9 q10 q11 q12 q13 q14 q15 q16 q17 q18 q19 q20 q21 q22 q23 q24 q25 q26 q27 q28 q29 q30 q31 q32 q33
  | 2, _ => exact xm_3 cs h0 q1 q2 q3 q4 q5 q6 q7 q8 q9 q10 q11 q12 q13 q14 q15 q16 q17 q18 q19 q20 q21 q22 q23 q24 q25 q26 q27 q28 q29 q30 q31 q32 q33
  | 3, _ => exact xm_4 cs h0 q1 q2 q3 q4 q5 q6 q7 q8 q9 q10 q11 q12 q13 q14 q15 q16 q17 q18 q19 q20 q21 q22 q23 q24 q25 q26 q27 q28 q29 q30 q31 q32 q33
  | 4, _ => exact xm_5 cs h0 q1 q2 q3 q4 q5 q6 q7 q8 q9 q10 q11 q12 q13 q14 q15 q16 q17 q18 q19 q20 q21 q22 q23 q24 q25 q26 q27 q28 q29 q30 q31 q32 q33
  | 5, _ => exact xm_6 cs h0 q1 q2 q3 q4 q5 q6 q7 q8 q9 q10 q11 q12 q13 q14 q15 q16 q17 q18 q19 q20 q21 q22 q23 q24 q25 q26 q27 q28 q29 q30 q31 q32 q33
  | 6, _ => exact xm_7 cs h0 q1 q2 q3 q4 q5 q6 q7 q8 q9 q10 q11 q12 q13 q14 q15 q16 q17 q18 q19 q20 q21 q22 q23 q24 q25 q26 q27 q28 q29 q30 q31 q32 q33
  | 7, _ => exact xm_8 cs h0 q1 q2 q3 q4 q5 q6 q7 q8 q9 q10 q11 q12 q13 q14 q15 q16 q17 q18 q19 q20 q21 q22 q23 q24 q25 q26 q27 q28 q29 q30 q31 q32 q33
  | 8, _ => exact xm_9 cs h0 q1 q2 q3 q4 q5 q6 q7 q8 q9 q10 q11 q12 q13 q14 q15 q16 q17 q18 q19 q20 q21 q22 q23 q24 q25 q26 q27 q28 q29 q30 q31 q32 q33
  | 9, _ => exact xm_10 cs h0 q1 q2 q3 q4 q5 q6 q7 q8 q9 q10 q11 q12 q13 q14 q15 q16 q17 q18 q19 q20 q21 q22 q23 q24 q25 q26 q27 q28 q29 q30 q31 q32 q33
  | 10, _ => exact xm_11 cs h0 q1 q2 q3 q4 q5 q6 q7 q8 q9 q10 q11 q12 q13 q14 q15 q16 q17 q18 q19 q20 q21 q22 q23 q24 q25 q26 q27 q28 q29 q30 q31 q32 q33
  | 11, _ => exact xm_12 cs h0 q1 q2 q3 q4 q5 q6 q7 q8 q9 q10 q11 q12 q13 q14 q15 q16 q17 q18 q19 q20 q21 q22 q23 q24 q25 q26 q27 q28 q29 q30 q31 q32 q33
  | 12, _ => exact xm_13 cs h0 q1 q2 q3 q4 q5 q6 q7 q8 q9 q10 q11 q12 q13 q14 q15 q16 q17 q18 q19 q20 q21 q22 q23 q24 q25 q26 q27 q28 q29 q30 q31 q32 q33
  | 13, _ => exact xm_14 cs h0 q1 q2 q3 q4 q5 q6 q7 q8 q9 q10 q11 q12 q13 q14 q15 q16 q17 q18 q19 q20 q21 q22 q23 q24 q25 q26 q27 q28 q29 q30 q31 q32 q33
  | 14, _ => exact xm_15 cs h0 q1 q2 q3 q4 q5 q6 q7 q8 q9 q10 q11 q12 q13 q14 q15 q16 q17 q18 q19 q20 q21 q22 q23 q24 q25 q26 q27 q28 q29 q30 q31 q32 q33
  | 15, _ => exact xm_16 cs h0 q1 q2 q3 q4 q5 q6 q7 q8 q9 q10 q11 q12 q13 q14 q15 q16 q17 q18 q19 q20 q21 q22 q23 q24 q25 q26 q27 q28 q29 q30 q31 q32 q33
  | 16, _ => exact xm_17 cs h0 q1 q2 q3 q4 q5 q6 q7 q8 q9 q10 q11 q12 q13 q14 q15 q16 q17 q18 q19 q20 q21 q22 q23 q24 q25 q26 q27 q28 q29 q30 q31 q32 q33
  | 17, _ => exact xm_18 cs h0 q1 q2 q3 q4 q5 q6 q7 q8 q9 q10 q11 q12 q13 q14 q15 q16 q17 q18 q19 q20 q21 q22 q23 q24 q25 q26 q27 q28 q29 q30 q31 q32 q33
  | 18, _ => exact xm_19 cs h0 q1 q2 q3 q4 q5 q6 q7 q8 q9 q10 q11 q12 q13 q14 q15 q16 q17 q18 q19 q20 q21 q22 q23 q24 q25 q26 q27 q28 q29 q30 q31 q32 q33
  | 19, _ => exact xm_20 cs h0 q1 q2 q3 q4 q5 q6 q7 q8 q9 q10 q11 q12 q13 q14 q15 q16 q17 q18 q19 q20 q21 q22 q23 q24 q25 q26 q27 q28 q29 q30 q31 q32 q33
  | 20, _ => exact xm_21 cs h0 q1 q2 q3 q4 q5 q6 q7 q8 q9 q10 q11 q12 q13 q14 q15 q16 q17 q18 q19 q20 q21 q22 q23 q24 q25 q26 q27 q28 q29 q30 q31 q32 q33
  | 21, _ => exact xm_22 cs h0 q1 q2 q3 q4 q5 q6 q7 q8 q9 q10 q11 q12 q13 q14 q15 q16 q17 q18 q19 q20 q21 q22 q23 q24 q25 q26 q27 q28 q29 q30 q31 q32 q33
  | 22, _ => exact xm_23 cs h0 q1 q2 q3 q4 q5 q6 q7 q8 q9 q10 q11 q12 q13 q14 q15 q16 q17 q18 q19 q20 q21 q22 q23 q24 q25 q26 q27 q28 q29 q30 q31 q32 q33
  | 23, _ => exact xm_24 cs h0 q1 q2 q3 q4 q5 q6 q7 q8 q9 q10 q11 q12 q13 q14 q15 q16 q17 q18 q19 q20 q21 q22 q23 q24 q25 q26 q27 q28 q29 q30 q31 q32 q33
  | 24, _ => exact xm_25 cs h0 q1 q2 q3 q4 q5 q6 q7 q8 q9 q10 q11 q12 q13 q14 q15 q16 q17 q18 q19 q20 q21 q22 q23 q24 q25 q26 q27 q28 q29 q30 q31 q32 q33
  | 25, _ => exact xm_26 cs h0 q1 q2 q3 q4 q5 q6 q7 q8 q9 q10 q11 q12 q13 q14 q15 q16 q17 q18 q19 q20 q21 q22 q23 q24 q25 q26 q27 q28 q29 q30 q31 q32 q33
  | 26, _ => exact xm_27 cs h0 q1 q2 q3 q4 q5 q6 q7 q8 q9 q10 q11 q12 q13 q14 q15 q16 q17 q18 q19 q20 q21 q22 q23 q24 q25 q26 q27 q28 q29 q30 q31 q32 q33
  | 27, _ => exact xm_28 cs h0 q1 q2 q3 q4 q5 q6 q7 q8 q9 q10 q11 q12 q13 q14 q15 q16 q17 q18 q19 q20 q21 q22 q23 q24 q25 q26 q27 q28 q29 q30 q31 q32 q33
  | 28, _ => exact xm_29 cs h0 q1 q2 q3 q4 q5 q6 q7 q8 q9 q10 q11 q12 q13 q14 q15 q16 q17 q18 q19 q20 q21 q22 q23 q24 q25 q26 q27 q28 q29 q30 q31 q32 q33
  | 29, _ => exact xm_30 cs h0 q1 q2 q3 q4 q5 q6 q7 q8 q9 q10 q11 q12 q13 q14 q15 q16 q17 q18 q19 q20 q21 q22 q23 q24 q25 q26 q27 q28 q29 q30 q31 q32 q33
  | 30, _ => exact xm_31 cs h0 q1 q2 q3 q4 q5 q6 q7 q8 q9 q10 q11 q12 q13 q14 q15 q16 q17 q18 q19 q20 q21 q22 q23 q24 q25 q26 q27 q28 q29 q30 q31 q32 q33
  | 31, _ => exact xm_32 cs h0 q1 q2 q3 q4 q5 q6 q7 q8 q9 q10 q11 q12 q13 q14 q15 q16 q17 q18 q19 q20 q21 q22 q23 q24 q25 q26 q27 q28 q29 q30 q31 q32 q33
  | 32, _ => exact xm_33 cs h0 q1 q2 q3 q4 q5 q6 q7 q8 q9 q10 q11 q12 q13 q14 q15 q16 q17 q18 q19 q20 q21 q22 q23 q24 q25 q26 q27 q28 q29 q30 q31 q32 q33
  | n + 33, h => exact absurd h (by omega)
set_option maxHeartbeats 4000000 in
set_option maxRecDepth 100000 in
theorem xm_list {D : va_G} {H : Heap} {A : Nat → Prop} (cs : Nat → ClassId) (h0 q1 q2 q3 q4 q5 q6 q7 q8 q9 q10 q11 q12 q13 q14 q15 q16 q17 q18 q19 q20 q21 q22 q23 q24 q25 q26 q27 q28 q29 q30 q31 q32 q33 : Nat) (hP : va_P D vwCl ((h0, .inr (10, [.int 0, .ref q1, .int 0, .ref q2, .ref q3, .ref q4, .ref q5, .int 0, .ref q6, .ref q7, .ref q8, .ref q9, .ref q10, .ref q11, .ref q12, .ref q13, .ref q14, .int 0, .ref q15, .ref q16, .ref q17, .ref q18, .ref q19, .ref q20, .int 0, .ref q21, .int 0, .ref q22, .ref q23, .ref q24, .int 1, .int 1900, .int 0, .ref q25, .ref q26, .ref q27, .ref q28, .int 0, .ref q29, .ref q30, .int 0, .ref q31, .ref q32, .ref q33])) :: uw 33 (adRM q1 q2 q3 q4 q5 q6 q7 q8 q9 q10 q11 q12 q13 q14 q15 q16 q17 q18 q19 q20 q21 q22 q23 q24 q25 q26 q27 q28 q29 q30 q31 q32 q33) (enRM cs) sgRM) H) (hD : va_D A ((h0, .inr (10, [.int 0, .ref q1, .int 0, .ref q2, .ref q3, .ref q4, .ref q5, .int 0, .ref q6, .ref q7, .ref q8, .ref q9, .ref q10, .ref q11, .ref q12, .ref q13, .ref q14, .int 0, .ref q15, .ref q16, .ref q17, .ref q18, .ref q19, .ref q20, .int 0, .ref q21, .int 0, .ref q22, .ref q23, .ref q24, .int 1, .int 1900, .int 0, .ref q25, .ref q26, .ref q27, .ref q28, .int 0, .ref q29, .ref q30, .int 0, .ref q31, .ref q32, .ref q33])) :: uw 33 (adRM q1 q2 q3 q4 q5 q6 q7 q8 q9 q10 q11 q12 q13 q14 q15 q16 q17 q18 q19 q20 q21 q22 q23 q24 q25 q26 q27 q28 q29 q30 q31 q32 q33) (enRM cs) sgRM)) : va_P D vwCl (uw 34 (adM h0 q1 q2 q3 q4 q5 q6 q7 q8 q9 q10 q11 q12 q13 q14 q15 q16 q17 q18 q19 q20 q21 q22 q23 q24 q25 q26 q27 q28 q29 q30 q31 q32 q33) (enM (adM h0 q1 q2 q3 q4 q5 q6 q7 q8 q9 q10 q11 q12 q13 q14 q15 q16 q17 q18 q19 q20 q21 q22 q23 q24 q25 q26 q27 q28 q29 q30 q31 q32 q33) cs) sM00) H ∧ va_D A (uw 34 (adM h0 q1 q2 q3 q4 q5 q6 q7 q8 q9 q10 q11 q12 q13 q14 q15 q16 q17 q18 q19 q20 q21 q22 q23 q24 q25 q26 q27 q28 q29 q30 q31 q32 q33) (enM (adM h0 q1 q2 q3 q4 q5 q6 q7 q8 q9 q10 q11 q12 q13 q14 q15 q16 q17 q18 q19 q20 q21 q22 q23 q24 q25 q26 q27 q28 q29 q30 q31 q32 q33) cs) sM00) := by
  have e : (h0, .inr (10, [.int 0, .ref q1, .int 0, .ref q2, .ref q3, .ref q4, .ref q5, .int 0, .ref q6, .ref q7, .ref q8, .ref q9, .ref q10, .ref q11, .ref q12, .ref q13, .ref q14, .int 0, .ref q15, .ref q16, .ref q17, .ref q18, .ref q19, .ref q20, .int 0, .ref q21, .int 0, .ref q22, .ref q23, .ref q24, .int 1, .int 1900, .int 0, .ref q25, .ref q26, .ref q27, .ref q28, .int 0, .ref q29, .ref q30, .int 0, .ref q31, .ref q32, .ref q33])) :: uw 33 (adRM q1 q2 q3 q4 q5 q6 q7 q8 q9 q10 q11 q12 q13 q14 q15 q16 q17 q18 q19 q20 q21 q22 q23 q24 q25 q26 q27 q28 q29 q30 q31 q32 q33) (enRM cs) sgRM = uw 34 (adM h0 q1 q2 q3 q4 q5 q6 q7 q8 q9 q10 q11 q12 q13 q14 q15 q16 q17 q18 q19 q20 q21 q22 q23 q24 q25 q26 q27 q28 q29 q30 q31 q32 q33) (enM (adM h0 q1 q2 q3 q4 q5 q6 q7 q8 q9 q10 q11 q12 q13 q14 q15 q16 q17 q18 q19 q20 q21 q22 q23 q24 q25 q26 q27 q28 q29 q30 q31 q32 q33) cs) sM00 := by
    apply List.ext_getElem?
    intro i
    cases i with
    | zero => rw [uw_get (by decide)]; rfl
    | succ k =>
      rw [List.getElem?_cons_succ]
      by_cases hk : k < 33
      · rw [uw_get hk, uw_get (by omega), xm_all cs h0 q1 q2 q3 q4 q5 q6 q7 q8 q9 q10 q11 q12 q13 q14 q15 q16 q17 q18 q19 q20 q21 q22 q23 q24 q25 q26 q27 q28 q29 q30 q31 q32 q33 k hk]; rfl
      · have a1 : (uw 33 (adRM q1 q2 q3 q4 q5 q6 q7 q8 q9 q10 q11 q12 q13 q14 q15 q16 q17 q18 q19 q20 q21 q22 q23 q24 q25 q26 q27 q28 q29 q30 q31 q32 q33) (enRM cs) sgRM)[k]? = none := by simp [uw]; omega
        have a2 : (uw 34 (adM h0 q1 q2 q3 q4 q5 q6 q7 q8 q9 q10 q11 q12 q13 q14 q15 q16 q17 q18 q19 q20 q21 q22 q23 q24 q25 q26 q27 q28 q29 q30 q31 q32 q33) (enM (adM h0 q1 q2 q3 q4 q5 q6 q7 q8 q9 q10 q11 q12 q13 q14 q15 q16 q17 q18 q19 q20 q21 q22 q23 q24 q25 q26 q27 q28 q29 q30 q31 q32 q33) cs) sM00)[k + 1]? = none := by simp [uw]; omega
        rw [a1, a2]
  rw [← e]
  exact ⟨hP, hD⟩
set_option maxHeartbeats 4000000 in
set_option maxRecDepth 100000 in
theorem x10_tail {p : Program} {l : Launch} {e : Env} {s : State} {m : MethodId} {below : List Frame} {meth : Method} {c : Code} {D : va_G} {cs : Nat → ClassId} {H : Heap} {locs : List Loc} {ls : Array Slot} {h0 : Nat} {ad : Nat → Nat} (hx : p.tables.exec = Jvm.exec) (hb : c.code = cX10_init) (hml : c.maxLocals = 2) (hown : s.vm.findClass RX10 = some m.cls) (hts : ∀ w ∈ wsX10_init, w.before #[.ref h0] s = true) (hK : va_K D vwCl (tyX cs) s) (hr : meth.sig.returnType = none) (hlocks : meth.locks = false) (hP9 : va_P D vwCl (uw 34 ad (enM ad cs) sM00) H) (hD9 : va_D (uN h0 s.heap.size) (uw 34 ad (enM ad cs) sM00)) (h0e : ad 0 = h0) (hS : va_S (uN h0 s.heap.size) s.heap H locs) (hl : lv_has ls 2 [(0, .ref h0)]) : W p l e { frames := 1, cells := 33, slots := 1346, locals := 12 } s m #[.ref h0] below meth c H locs 33 1346 (MQ below (uQc D vwCl 34 (fun qs => enM qs cs) sM0 h0 s.heap.size) #[.ref h0] s 33 1346 (uN h0 s.heap.size)) (F0 m 281 ls []) := by
  have hJ9 := uw_J hD9
  have hn9 : ∀ k, 1 ≤ k → k < 34 → s.heap.size ≤ ad k := fun k h1 h2 => (hJ9.2 k h2).resolve_left (fun h => by have := hJ9.1 k 0 h2 (by omega) (h.trans h0e.symm); omega)
  subst h0e
  have C : uC p { frames := 1, cells := 33, slots := 1346, locals := 12 } s m #[.ref (ad 0)] c cX10_init 2 wsX10_init RX10 D vwCl (tyX cs) 34 ad (uN (ad 0) s.heap.size) 33 1346 := ⟨⟨hx, hb, hml, hown, hts⟩, hK, hJ9.1, hJ9.2, fun q h => Or.inr h, Nat.le_of_ble_eq_true rfl, Nat.le_of_ble_eq_true rfl⟩
  refine lv_iconst (v := 0) hx hb dX10_init_281 (by decide) ?_
  refine lv_istore_n (lv' := [(1, .int 0), (0, .ref (ad 0))]) hx hb dX10_init_282 rfl hl (by decide) rfl (fun ls hl => ?_)
  rw [← nI_0] at hl
  refine w_X10_init_283 (σ := sM00) C (fun H locs ls G hl => ?_) 4 0 rfl H locs ls ⟨by rw [szS_0]; exact hP9, hS⟩ (lv_sub hl [1, 0] rfl)
  refine lv_iconst (v := 0) hx hb dX10_init_302 (by decide) ?_
  refine lv_istore_n (lv' := [(1, .int 0), (0, .ref (ad 0))]) hx hb dX10_init_303 rfl hl (by decide) rfl (fun ls hl => ?_)
  rw [← nI_0] at hl
  refine w_X10_init_304 (σ := szS sM00 4) C (fun H locs ls G hl => ?_) 600 0 (by omega) H locs ls (by rw [wlS_0]; exact G) (lv_sub hl [1, 0] rfl)
  exact W.vret hx hb hr (fun t ht hW => ⟨⟨ad, rfl, ⟨rfl, hJ9.1, hn9⟩, by show va_P D vwCl (uw 34 ad (enM ad cs) sM0) t.heap; rw [ht]; exact G.1⟩, G.2.F ht⟩) G.2.2.2 dX10_init_324
