/-! the reference's constructor -/
def sM00 : St := us (us (fun _ _ => 0) 0 30 1) 0 31 1900
def szS (σ : St) (j : Nat) : St := uf σ 3 (fun i => if i < j then (-9) else σ 3 i)
def wlS (σ : St) (j : Nat) : St := uf σ 14 (fun i => if i < j then 4 else σ 14 i)
def sM0 : St := wlS (szS sM00 4) 600
theorem szS_0 {σ : St} : szS σ 0 = σ := by
  funext k i
  unfold szS uf
  by_cases h : k = 3
  · subst h; simp
  · simp [h]
theorem wlS_0 {σ : St} : wlS σ 0 = σ := by
  funext k i
  unfold wlS uf
  by_cases h : k = 14
  · subst h; simp
  · simp [h]
theorem szS_s {σ : St} {j : Nat} : us (szS σ j) 3 j (-9) = szS σ (j + 1) := by
  funext k i
  unfold us szS uf upd
  by_cases h : k = 3
  · subst h
    by_cases e : i = j
    · subst e; simp
    · simp only [if_true, if_neg e]
      by_cases g : i < j
      · rw [if_pos g, if_pos (by omega)]
      · rw [if_neg g, if_neg (by omega)]
  · simp [h]
theorem wlS_s {σ : St} {j : Nat} : us (wlS σ j) 14 j 4 = wlS σ (j + 1) := by
  funext k i
  unfold us wlS uf upd
  by_cases h : k = 14
  · subst h
    by_cases e : i = j
    · subst e; simp
    · simp only [if_true, if_neg e]
      by_cases g : i < j
      · rw [if_pos g, if_pos (by omega)]
      · rw [if_neg g, if_neg (by omega)]
  · simp [h]
theorem fi_X10_init_10 : ∀ w ∈ u_ws RX10 TX10 44, w ∈ wsX10_init := by decide +kernel
set_option maxHeartbeats 4000000 in
set_option maxRecDepth 100000 in
theorem w_X10_init_283 {p : Program} {l : Launch} {e : Env} {R : Room} {s : State} {m : MethodId} {args : Array Value} {below : List Frame} {meth : Method} {c : Code} {D : va_G} {ad : Nat → Nat} {cs : Nat → ClassId} {A : Nat → Prop} {cells slots : Nat} {Q : State → Prop} {σ : St} (C : uC p R s m args c cX10_init 2 wsX10_init RX10 D vwCl (tyX cs) 34 ad A cells slots)
    (hex : ∀ (H : Heap) (locs : List Loc) (ls : Array Slot), uG D vwCl 34 ad (enM ad cs) A s (szS σ 4) H locs → lv_has ls 2 [(0, .ref (ad 0))] → W p l e R s m args below meth c H locs cells slots Q (F0 m 302 ls [])) :
    ∀ (n j : Nat), j + n = 4 → ∀ (H : Heap) (locs : List Loc) (ls : Array Slot), uG D vwCl 34 ad (enM ad cs) A s (szS σ j) H locs → lv_has ls 2 [(0, .ref (ad 0)), (1, .int (nI j))] → W p l e R s m args below meth c H locs cells slots Q (F0 m 283 ls []) := by
  have hx := C.1.1
  have hb := C.1.2.1
  have eN : (4 : Int32) = nI 4 := by decide
  intro n
  induction n with
  | zero =>
    intro j hj H locs ls G hl
    have ej : j = 4 := by omega
    subst ej
    refine lv_iload_n hx hb dX10_init_283 rfl (lv_at hl 1 rfl) ?_
    refine lv_iconst (v := 4) hx hb dX10_init_284 (by decide) ?_
    refine lv_icmp_ge (tgt := 302) hx hb dX10_init_285 (by decide) (fun _ => ?_) (fun q => absurd (by rw [eN]; exact nI_le (Nat.le_refl _) (by omega)) q)
    exact hex H locs ls G (lv_sub hl [0] rfl)
  | succ n ih =>
    intro j hj H locs ls G hl
    have hlt : j < 4 := by omega
    refine lv_iload_n hx hb dX10_init_283 rfl (lv_at hl 1 rfl) ?_
    refine lv_iconst (v := 4) hx hb dX10_init_284 (by decide) ?_
    refine lv_icmp_ge (tgt := 302) hx hb dX10_init_285 (by decide) (fun q => absurd q (by rw [eN]; exact nI_ge hlt (by omega))) (fun _ => ?_)
    refine lv_aload_n hx hb dX10_init_288 rfl (lv_at hl 0 rfl) ?_
    refine u_get (v := .ref (ad 3)) C G obM_0 (ci := 10) (N := 44) (Cn := RX10) (T := TX10) rfl fi_X10_init_10 4 (by decide) (by decide +kernel) rfl dX10_init_289 ?_
    refine lv_iload_n hx hb dX10_init_292 rfl (lv_at hl 1 rfl) ?_
    refine lv_bipush (v := (-9)) hx hb dX10_init_293 (by decide) ?_
    refine u_iast C G arM_3 (t0 := 0) rfl (vp_in_nI (Nat.lt_of_lt_of_le hlt (by decide)) (by decide)) dX10_init_295 (fun H locs G => ?_)
    rw [nI_clamp (show j < 2 ^ 31 by omega), szS_s] at G
    refine lv_iinc (v := nI (j + 1)) (lv' := [(1, .int (nI (j + 1))), (0, .ref (ad 0))]) hx hb dX10_init_296 hl (k := 1) rfl (nI_1 j) (by decide) rfl (fun ls hl => ?_)
    refine lv_goto (tgt := 283) hx hb dX10_init_299 (by decide) ?_
    exact ih (j + 1) (by omega) H locs ls G (lv_sub hl [1, 0] rfl)
set_option maxHeartbeats 4000000 in
set_option maxRecDepth 100000 in
theorem w_X10_init_304 {p : Program} {l : Launch} {e : Env} {R : Room} {s : State} {m : MethodId} {args : Array Value} {below : List Frame} {meth : Method} {c : Code} {D : va_G} {ad : Nat → Nat} {cs : Nat → ClassId} {A : Nat → Prop} {cells slots : Nat} {Q : State → Prop} {σ : St} (C : uC p R s m args c cX10_init 2 wsX10_init RX10 D vwCl (tyX cs) 34 ad A cells slots)
    (hex : ∀ (H : Heap) (locs : List Loc) (ls : Array Slot), uG D vwCl 34 ad (enM ad cs) A s (wlS σ 600) H locs → lv_has ls 2 [(0, .ref (ad 0))] → W p l e R s m args below meth c H locs cells slots Q (F0 m 324 ls [])) :
    ∀ (n j : Nat), j + n = 600 → ∀ (H : Heap) (locs : List Loc) (ls : Array Slot), uG D vwCl 34 ad (enM ad cs) A s (wlS σ j) H locs → lv_has ls 2 [(0, .ref (ad 0)), (1, .int (nI j))] → W p l e R s m args below meth c H locs cells slots Q (F0 m 304 ls []) := by
  have hx := C.1.1
  have hb := C.1.2.1
  have eN : (600 : Int32) = nI 600 := by decide
  intro n
  induction n with
  | zero =>
    intro j hj H locs ls G hl
    have ej : j = 600 := by omega
    subst ej
    refine lv_iload_n hx hb dX10_init_304 rfl (lv_at hl 1 rfl) ?_
    refine lv_sipush (v := 600) hx hb dX10_init_305 (by decide) ?_
    refine lv_icmp_ge (tgt := 324) hx hb dX10_init_308 (by decide) (fun _ => ?_) (fun q => absurd (by rw [eN]; exact nI_le (Nat.le_refl _) (by omega)) q)
    exact hex H locs ls G (lv_sub hl [0] rfl)
  | succ n ih =>
    intro j hj H locs ls G hl
    have hlt : j < 600 := by omega
    refine lv_iload_n hx hb dX10_init_304 rfl (lv_at hl 1 rfl) ?_
    refine lv_sipush (v := 600) hx hb dX10_init_305 (by decide) ?_
    refine lv_icmp_ge (tgt := 324) hx hb dX10_init_308 (by decide) (fun q => absurd q (by rw [eN]; exact nI_ge hlt (by omega))) (fun _ => ?_)
    refine lv_aload_n hx hb dX10_init_311 rfl (lv_at hl 0 rfl) ?_
    refine u_get (v := .ref (ad 14)) C G obM_0 (ci := 10) (N := 44) (Cn := RX10) (T := TX10) rfl fi_X10_init_10 16 (by decide) (by decide +kernel) rfl dX10_init_312 ?_
    refine lv_iload_n hx hb dX10_init_315 rfl (lv_at hl 1 rfl) ?_
    refine lv_iconst (v := 4) hx hb dX10_init_316 (by decide) ?_
    refine u_iast C G arM_14 (t0 := 0) rfl (vp_in_nI (Nat.lt_of_lt_of_le hlt (by decide)) (by decide)) dX10_init_317 (fun H locs G => ?_)
    rw [nI_clamp (show j < 2 ^ 31 by omega), wlS_s] at G
    refine lv_iinc (v := nI (j + 1)) (lv' := [(1, .int (nI (j + 1))), (0, .ref (ad 0))]) hx hb dX10_init_318 hl (k := 1) rfl (nI_1 j) (by decide) rfl (fun ls hl => ?_)
    refine lv_goto (tgt := 304) hx hb dX10_init_321 (by decide) ?_
    exact ih (j + 1) (by omega) H locs ls G (lv_sub hl [1, 0] rfl)
def adRM (q1 q2 q3 q4 q5 q6 q7 q8 q9 q10 q11 q12 q13 q14 q15 q16 q17 q18 q19 q20 q21 q22 q23 q24 q25 q26 q27 q28 q29 q30 q31 q32 q33 : Nat) : Nat → Nat := (uap 32 (uap 31 (uap 30 (uap 29 (uap 28 (uap 27 (uap 26 (uap 25 (uap 24 (uap 23 (uap 22 (uap 21 (uap 20 (uap 19 (uap 18 (uap 17 (uap 16 (uap 15 (uap 14 (uap 13 (uap 12 (uap 11 (uap 10 (uap 9 (uap 8 (uap 7 (uap 6 (uap 5 (uap 4 (uap 3 (uap 2 (uap 1 (uap 0 (fun _ => 0) (fun _ => q1)) (fun _ => q2)) (fun _ => q3)) (fun _ => q4)) (fun _ => q5)) (fun _ => q6)) (fun _ => q7)) (fun _ => q8)) (fun _ => q9)) (fun _ => q10)) (fun _ => q11)) (fun _ => q12)) (fun _ => q13)) (fun _ => q14)) (fun _ => q15)) (fun _ => q16)) (fun _ => q17)) (fun _ => q18)) (fun _ => q19)) (fun _ => q20)) (fun _ => q21)) (fun _ => q22)) (fun _ => q23)) (fun _ => q24)) (fun _ => q25)) (fun _ => q26)) (fun _ => q27)) (fun _ => q28)) (fun _ => q29)) (fun _ => q30)) (fun _ => q31)) (fun _ => q32)) (fun _ => q33))
def enRM (cs : Nat → ClassId) : Nat → (Nat → Int32) → va_E := (uap 32 (uap 31 (uap 30 (uap 29 (uap 28 (uap 27 (uap 26 (uap 25 (uap 24 (uap 23 (uap 22 (uap 21 (uap 20 (uap 19 (uap 18 (uap 17 (uap 16 (uap 15 (uap 14 (uap 13 (uap 12 (uap 11 (uap 10 (uap 9 (uap 8 (uap 7 (uap 6 (uap 5 (uap 4 (uap 3 (uap 2 (uap 1 (uap 0 (fun _ _ => .inr (0, [])) (fun _ _ => .inl (cs 0, 6, .inl (fun _ => 0)))) (fun _ _ => .inl (cs 0, 26, .inl (fun _ => 0)))) (fun _ _ => .inl (cs 0, 4, .inl (fun _ => 0)))) (fun _ _ => .inl (cs 0, 40, .inl (fun _ => 0)))) (fun _ _ => .inl (cs 0, 10, .inl (fun _ => 0)))) (fun _ _ => .inl (cs 0, 16, .inl (fun _ => 0)))) (fun _ _ => .inl (cs 0, 16, .inl (fun _ => 0)))) (fun _ _ => .inl (cs 0, 128, .inl (fun _ => 0)))) (fun _ _ => .inl (cs 2, 16, .inl (fun _ => 0)))) (fun _ _ => .inl (cs 0, 16, .inl (fun _ => 0)))) (fun _ _ => .inl (cs 0, 16, .inl (fun _ => 0)))) (fun _ _ => .inl (cs 0, 16, .inl (fun _ => 0)))) (fun _ _ => .inl (cs 0, 16, .inl (fun _ => 0)))) (fun _ _ => .inl (cs 0, 600, .inl (fun _ => 0)))) (fun _ _ => .inl (cs 0, 160, .inl (fun _ => 0)))) (fun _ _ => .inl (cs 0, 4, .inl (fun _ => 0)))) (fun _ _ => .inl (cs 0, 12, .inl (fun _ => 0)))) (fun _ _ => .inl (cs 0, 12, .inl (fun _ => 0)))) (fun _ _ => .inl (cs 0, 12, .inl (fun _ => 0)))) (fun _ _ => .inl (cs 0, 6, .inl (fun _ => 0)))) (fun _ _ => .inl (cs 0, 10, .inl (fun _ => 0)))) (fun _ _ => .inl (cs 0, 8, .inl (fun _ => 0)))) (fun _ _ => .inl (cs 0, 8, .inl (fun _ => 0)))) (fun _ _ => .inl (cs 0, 8, .inl (fun _ => 0)))) (fun _ _ => .inl (cs 0, 30, .inl (fun _ => 0)))) (fun _ _ => .inl (cs 0, 30, .inl (fun _ => 0)))) (fun _ _ => .inl (cs 0, 30, .inl (fun _ => 0)))) (fun _ _ => .inl (cs 0, 30, .inl (fun _ => 0)))) (fun _ _ => .inl (cs 0, 12, .inl (fun _ => 0)))) (fun _ _ => .inl (cs 0, 12, .inl (fun _ => 0)))) (fun _ _ => .inl (cs 0, 12, .inl (fun _ => 0)))) (fun _ _ => .inl (cs 0, 12, .inl (fun _ => 0)))) (fun _ _ => .inl (cs 2, 12, .inl (fun _ => 0))))
def sgRM : St := (uap 32 (uap 31 (uap 30 (uap 29 (uap 28 (uap 27 (uap 26 (uap 25 (uap 24 (uap 23 (uap 22 (uap 21 (uap 20 (uap 19 (uap 18 (uap 17 (uap 16 (uap 15 (uap 14 (uap 13 (uap 12 (uap 11 (uap 10 (uap 9 (uap 8 (uap 7 (uap 6 (uap 5 (uap 4 (uap 3 (uap 2 (uap 1 (uap 0 (fun _ _ => 0) (fun _ _ => 0)) (fun _ _ => 0)) (fun _ _ => 0)) (fun _ _ => 0)) (fun _ _ => 0)) (fun _ _ => 0)) (fun _ _ => 0)) (fun _ _ => 0)) (fun _ _ => 0)) (fun _ _ => 0)) (fun _ _ => 0)) (fun _ _ => 0)) (fun _ _ => 0)) (fun _ _ => 0)) (fun _ _ => 0)) (fun _ _ => 0)) (fun _ _ => 0)) (fun _ _ => 0)) (fun _ _ => 0)) (fun _ _ => 0)) (fun _ _ => 0)) (fun _ _ => 0)) (fun _ _ => 0)) (fun _ _ => 0)) (fun _ _ => 0)) (fun _ _ => 0)) (fun _ _ => 0)) (fun _ _ => 0)) (fun _ _ => 0)) (fun _ _ => 0)) (fun _ _ => 0)) (fun _ _ => 0)) (fun _ _ => 0))
def adM (h0 q1 q2 q3 q4 q5 q6 q7 q8 q9 q10 q11 q12 q13 q14 q15 q16 q17 q18 q19 q20 q21 q22 q23 q24 q25 q26 q27 q28 q29 q30 q31 q32 q33 : Nat) : Nat → Nat := fun k => match k with | 0 => h0 | k + 1 => adRM q1 q2 q3 q4 q5 q6 q7 q8 q9 q10 q11 q12 q13 q14 q15 q16 q17 q18 q19 q20 q21 q22 q23 q24 q25 q26 q27 q28 q29 q30 q31 q32 q33 k
set_option maxHeartbeats 400000 in
set_option maxRecDepth 100000 in
theorem xm_1 (cs : Nat → ClassId) (h0 q1 q2 q3 q4 q5 q6 q7 q8 q9 q10 q11 q12 q13 q14 q15 q16 q17 q18 q19 q20 q21 q22 q23 q24 q25 q26 q27 q28 q29 q30 q31 q32 q33 : Nat) : enRM cs 0 (sgRM 0) = enM (adM h0 q1 q2 q3 q4 q5 q6 q7 q8 q9 q10 q11 q12 q13 q14 q15 q16 q17 q18 q19 q20 q21 q22 q23 q24 q25 q26 q27 q28 q29 q30 q31 q32 q33) cs 1 (sM00 1) := rfl
set_option maxHeartbeats 400000 in
set_option maxRecDepth 100000 in
theorem xm_2 (cs : Nat → ClassId) (h0 q1 q2 q3 q4 q5 q6 q7 q8 q9 q10 q11 q12 q13 q14 q15 q16 q17 q18 q19 q20 q21 q22 q23 q24 q25 q26 q27 q28 q29 q30 q31 q32 q33 : Nat) : enRM cs 1 (sgRM 1) = enM (adM h0 q1 q2 q3 q4 q5 q6 q7 q8 q9 q10 q11 q12 q13 q14 q15 q16 q17 q18 q19 q20 q21 q22 q23 q24 q25 q26 q27 q28 q29 q30 q31 q32 q33) cs 2 (sM00 2) := rfl
set_option maxHeartbeats 400000 in
set_option maxRecDepth 100000 in
theorem xm_3 (cs : Nat → ClassId) (h0 q1 q2 q3 q4 q5 q6 q7 q8 q9 q10 q11 q12 q13 q14 q15 q16 q17 q18 q19 q20 q21 q22 q23 q24 q25 q26 q27 q28 q29 q30 q31 q32 q33 : Nat) : enRM cs 2 (sgRM 2) = enM (adM h0 q1 q2 q3 q4 q5 q6 q7 q8 q9 q10 q11 q12 q13 q14 q15 q16 q17 q18 q19 q20 q21 q22 q23 q24 q25 q26 q27 q28 q29 q30 q31 q32 q33) cs 3 (sM00 3) := rfl
set_option maxHeartbeats 400000 in
set_option maxRecDepth 100000 in
theorem xm_4 (cs : Nat → ClassId) (h0 q1 q2 q3 q4 q5 q6 q7 q8 q9 q10 q11 q12 q13 q14 q15 q16 q17 q18 q19 q20 q21 q22 q23 q24 q25 q26 q27 q28 q29 q30 q31 q32 q33 : Nat) : enRM cs 3 (sgRM 3) = enM (adM h0 q1 q2 q3 q4 q5 q6 q7 q8 q9 q10 q11 q12 q13 q14 q15 q16 q17 q18 q19 q20 q21 q22 q23 q24 q25 q26 q27 q28 q29 q30 q31 q32 q33) cs 4 (sM00 4) := rfl
set_option maxHeartbeats 400000 in
set_option maxRecDepth 100000 in
theorem xm_5 (cs : Nat → ClassId) (h0 q1 q2 q3 q4 q5 q6 q7 q8 q9 q10 q11 q12 q13 q14 q15 q16 q17 q18 q19 q20 q21 q22 q23 q24 q25 q26 q27 q28 q29 q30 q31 q32 q33 : Nat) : enRM cs 4 (sgRM 4) = enM (adM h0 q1 q2 q3 q4 q5 q6 q7 q8 q9 q10 q11 q12 q13 q14 q15 q16 q17 q18 q19 q20 q21 q22 q23 q24 q25 q26 q27 q28 q29 q30 q31 q32 q33) cs 5 (sM00 5) := rfl
set_option maxHeartbeats 400000 in
set_option maxRecDepth 100000 in
theorem xm_6 (cs : Nat → ClassId) (h0 q1 q2 q3 q4 q5 q6 q7 q8 q9 q10 q11 q12 q13 q14 q15 q16 q17 q18 q19 q20 q21 q22 q23 q24 q25 q26 q27 q28 q29 q30 q31 q32 q33 : Nat) : enRM cs 5 (sgRM 5) = enM (adM h0 q1 q2 q3 q4 q5 q6 q7 q8 q9 q10 q11 q12 q13 q14 q15 q16 q17 q18 q19 q20 q21 q22 q23 q24 q25 q26 q27 q28 q29 q30 q31 q32 q33) cs 6 (sM00 6) := rfl
set_option maxHeartbeats 400000 in
set_option maxRecDepth 100000 in
theorem xm_7 (cs : Nat → ClassId) (h0 q1 q2 q3 q4 q5 q6 q7 q8 q9 q10 q11 q12 q13 q14 q15 q16 q17 q18 q19 q20 q21 q22 q23 q24 q25 q26 q27 q28 q29 q30 q31 q32 q33 : Nat) : enRM cs 6 (sgRM 6) = enM (adM h0 q1 q2 q3 q4 q5 q6 q7 q8 q9 q10 q11 q12 q13 q14 q15 q16 q17 q18 q19 q20 q21 q22 q23 q24 q25 q26 q27 q28 q29 q30 q31 q32 q33) cs 7 (sM00 7) := rfl
set_option maxHeartbeats 400000 in
set_option maxRecDepth 100000 in
theorem xm_8 (cs : Nat → ClassId) (h0 q1 q2 q3 q4 q5 q6 q7 q8 q9 q10 q11 q12 q13 q14 q15 q16 q17 q18 q19 q20 q21 q22 q23 q24 q25 q26 q27 q28 q29 q30 q31 q32 q33 : Nat) : enRM cs 7 (sgRM 7) = enM (adM h0 q1 q2 q3 q4 q5 q6 q7 q8 q9 q10 q11 q12 q13 q14 q15 q16 q17 q18 q19 q20 q21 q22 q23 q24 q25 q26 q27 q28 q29 q30 q31 q32 q33) cs 8 (sM00 8) := rfl
set_option maxHeartbeats 400000 in
set_option maxRecDepth 100000 in
theorem xm_9 (cs : Nat → ClassId) (h0 q1 q2 q3 q4 q5 q6 q7 q8 q9 q10 q11 q12 q13 q14 q15 q16 q17 q18 q19 q20 q21 q22 q23 q24 q25 q26 q27 q28 q29 q30 q31 q32 q33 : Nat) : enRM cs 8 (sgRM 8) = enM (adM h0 q1 q2 q3 q4 q5 q6 q7 q8 q9 q10 q11 q12 q13 q14 q15 q16 q17 q18 q19 q20 q21 q22 q23 q24 q25 q26 q27 q28 q29 q30 q31 q32 q33) cs 9 (sM00 9) := rfl
set_option maxHeartbeats 400000 in
set_option maxRecDepth 100000 in
theorem xm_10 (cs : Nat → ClassId) (h0 q1 q2 q3 q4 q5 q6 q7 q8 q9 q10 q11 q12 q13 q14 q15 q16 q17 q18 q19 q20 q21 q22 q23 q24 q25 q26 q27 q28 q29 q30 q31 q32 q33 : Nat) : enRM cs 9 (sgRM 9) = enM (adM h0 q1 q2 q3 q4 q5 q6 q7 q8 q9 q10 q11 q12 q13 q14 q15 q16 q17 q18 q19 q20 q21 q22 q23 q24 q25 q26 q27 q28 q29 q30 q31 q32 q33) cs 10 (sM00 10) := rfl
set_option maxHeartbeats 400000 in
set_option maxRecDepth 100000 in
theorem xm_11 (cs : Nat → ClassId) (h0 q1 q2 q3 q4 q5 q6 q7 q8 q9 q10 q11 q12 q13 q14 q15 q16 q17 q18 q19 q20 q21 q22 q23 q24 q25 q26 q27 q28 q29 q30 q31 q32 q33 : Nat) : enRM cs 10 (sgRM 10) = enM (adM h0 q1 q2 q3 q4 q5 q6 q7 q8 q9 q10 q11 q12 q13 q14 q15 q16 q17 q18 q19 q20 q21 q22 q23 q24 q25 q26 q27 q28 q29 q30 q31 q32 q33) cs 11 (sM00 11) := rfl
set_option maxHeartbeats 400000 in
set_option maxRecDepth 100000 in
theorem xm_12 (cs : Nat → ClassId) (h0 q1 q2 q3 q4 q5 q6 q7 q8 q9 q10 q11 q12 q13 q14 q15 q16 q17 q18 q19 q20 q21 q22 q23 q24 q25 q26 q27 q28 q29 q30 q31 q32 q33 : Nat) : enRM cs 11 (sgRM 11) = enM (adM h0 q1 q2 q3 q4 q5 q6 q7 q8 q9 q10 q11 q12 q13 q14 q15 q16 q17 q18 q19 q20 q21 q22 q23 q24 q25 q26 q27 q28 q29 q30 q31 q32 q33) cs 12 (sM00 12) := rfl
set_option maxHeartbeats 400000 in
set_option maxRecDepth 100000 in
theorem xm_13 (cs : Nat → ClassId) (h0 q1 q2 q3 q4 q5 q6 q7 q8 q9 q10 q11 q12 q13 q14 q15 q16 q17 q18 q19 q20 q21 q22 q23 q24 q25 q26 q27 q28 q29 q30 q31 q32 q33 : Nat) : enRM cs 12 (sgRM 12) = enM (adM h0 q1 q2 q3 q4 q5 q6 q7 q8 q9 q10 q11 q12 q13 q14 q15 q16 q17 q18 q19 q20 q21 q22 q23 q24 q25 q26 q27 q28 q29 q30 q31 q32 q33) cs 13 (sM00 13) := rfl
set_option maxHeartbeats 400000 in
set_option maxRecDepth 100000 in
theorem xm_14 (cs : Nat → ClassId) (h0 q1 q2 q3 q4 q5 q6 q7 q8 q9 q10 q11 q12 q13 q14 q15 q16 q17 q18 q19 q20 q21 q22 q23 q24 q25 q26 q27 q28 q29 q30 q31 q32 q33 : Nat) : enRM cs 13 (sgRM 13) = enM (adM h0 q1 q2 q3 q4 q5 q6 q7 q8 q9 q10 q11 q12 q13 q14 q15 q16 q17 q18 q19 q20 q21 q22 q23 q24 q25 q26 q27 q28 q29 q30 q31 q32 q33) cs 14 (sM00 14) := rfl
set_option maxHeartbeats 400000 in
set_option maxRecDepth 100000 in
theorem xm_15 (cs : Nat → ClassId) (h0 q1 q2 q3 q4 q5 q6 q7 q8 q9 q10 q11 q12 q13 q14 q15 q16 q17 q18 q19 q20 q21 q22 q23 q24 q25 q26 q27 q28 q29 q30 q31 q32 q33 : Nat) : enRM cs 14 (sgRM 14) = enM (adM h0 q1 q2 q3 q4 q5 q6 q7 q8 q9 q10 q11 q12 q13 q14 q15 q16 q17 q18 q19 q20 q21 q22 q23 q24 q25 q26 q27 q28 q29 q30 q31 q32 q33) cs 15 (sM00 15) := rfl
set_option maxHeartbeats 400000 in
set_option maxRecDepth 100000 in
theorem xm_16 (cs : Nat → ClassId) (h0 q1 q2 q3 q4 q5 q6 q7 q8 q9 q10 q11 q12 q13 q14 q15 q16 q17 q18 q19 q20 q21 q22 q23 q24 q25 q26 q27 q28 q29 q30 q31 q32 q33 : Nat) : enRM cs 15 (sgRM 15) = enM (adM h0 q1 q2 q3 q4 q5 q6 q7 q8 q9 q10 q11 q12 q13 q14 q15 q16 q17 q18 q19 q20 q21 q22 q23 q24 q25 q26 q27 q28 q29 q30 q31 q32 q33) cs 16 (sM00 16) := rfl
set_option maxHeartbeats 400000 in
set_option maxRecDepth 100000 in
theorem xm_17 (cs : Nat → ClassId) (h0 q1 q2 q3 q4 q5 q6 q7 q8 q9 q10 q11 q12 q13 q14 q15 q16 q17 q18 q19 q20 q21 q22 q23 q24 q25 q26 q27 q28 q29 q30 q31 q32 q33 : Nat) : enRM cs 16 (sgRM 16) = enM (adM h0 q1 q2 q3 q4 q5 q6 q7 q8 q9 q10 q11 q12 q13 q14 q15 q16 q17 q18 q19 q20 q21 q22 q23 q24 q25 q26 q27 q28 q29 q30 q31 q32 q33) cs 17 (sM00 17) := rfl
set_option maxHeartbeats 400000 in
set_option maxRecDepth 100000 in
theorem xm_18 (cs : Nat → ClassId) (h0 q1 q2 q3 q4 q5 q6 q7 q8 q9 q10 q11 q12 q13 q14 q15 q16 q17 q18 q19 q20 q21 q22 q23 q24 q25 q26 q27 q28 q29 q30 q31 q32 q33 : Nat) : enRM cs 17 (sgRM 17) = enM (adM h0 q1 q2 q3 q4 q5 q6 q7 q8 q9 q10 q11 q12 q13 q14 q15 q16 q17 q18 q19 q20 q21 q22 q23 q24 q25 q26 q27 q28 q29 q30 q31 q32 q33) cs 18 (sM00 18) := rfl
set_option maxHeartbeats 400000 in
set_option maxRecDepth 100000 in
theorem xm_19 (cs : Nat → ClassId) (h0 q1 q2 q3 q4 q5 q6 q7 q8 q9 q10 q11 q12 q13 q14 q15 q16 q17 q18 q19 q20 q21 q22 q23 q24 q25 q26 q27 q28 q29 q30 q31 q32 q33 : Nat) : enRM cs 18 (sgRM 18) = enM (adM h0 q1 q2 q3 q4 q5 q6 q7 q8 q9 q10 q11 q12 q13 q14 q15 q16 q17 q18 q19 q20 q21 q22 q23 q24 q25 q26 q27 q28 q29 q30 q31 q32 q33) cs 19 (sM00 19) := rfl
set_option maxHeartbeats 400000 in
set_option maxRecDepth 100000 in
theorem xm_20 (cs : Nat → ClassId) (h0 q1 q2 q3 q4 q5 q6 q7 q8 q9 q10 q11 q12 q13 q14 q15 q16 q17 q18 q19 q20 q21 q22 q23 q24 q25 q26 q27 q28 q29 q30 q31 q32 q33 : Nat) : enRM cs 19 (sgRM 19) = enM (adM h0 q1 q2 q3 q4 q5 q6 q7 q8 q9 q10 q11 q12 q13 q14 q15 q16 q17 q18 q19 q20 q21 q22 q23 q24 q25 q26 q27 q28 q29 q30 q31 q32 q33) cs 20 (sM00 20) := rfl
set_option maxHeartbeats 400000 in
set_option maxRecDepth 100000 in
theorem xm_21 (cs : Nat → ClassId) (h0 q1 q2 q3 q4 q5 q6 q7 q8 q9 q10 q11 q12 q13 q14 q15 q16 q17 q18 q19 q20 q21 q22 q23 q24 q25 q26 q27 q28 q29 q30 q31 q32 q33 : Nat) : enRM cs 20 (sgRM 20) = enM (adM h0 q1 q2 q3 q4 q5 q6 q7 q8 q9 q10 q11 q12 q13 q14 q15 q16 q17 q18 q19 q20 q21 q22 q23 q24 q25 q26 q27 q28 q29 q30 q31 q32 q33) cs 21 (sM00 21) := rfl
set_option maxHeartbeats 400000 in
set_option maxRecDepth 100000 in
theorem xm_22 (cs : Nat → ClassId) (h0 q1 q2 q3 q4 q5 q6 q7 q8 q9 q10 q11 q12 q13 q14 q15 q16 q17 q18 q19 q20 q21 q22 q23 q24 q25 q26 q27 q28 q29 q30 q31 q32 q33 : Nat) : enRM cs 21 (sgRM 21) = enM (adM h0 q1 q2 q3 q4 q5 q6 q7 q8 q9 q10 q11 q12 q13 q14 q15 q16 q17 q18 q19 q20 q21 q22 q23 q24 q25 q26 q27 q28 q29 q30 q31 q32 q33) cs 22 (sM00 22) := rfl
set_option maxHeartbeats 400000 in
set_option maxRecDepth 100000 in
theorem xm_23 (cs : Nat → ClassId) (h0 q1 q2 q3 q4 q5 q6 q7 q8 q9 q10 q11 q12 q13 q14 q15 q16 q17 q18 q19 q20 q21 q22 q23 q24 q25 q26 q27 q28 q29 q30 q31 q32 q33 : Nat) : enRM cs 22 (sgRM 22) = enM (adM h0 q1 q2 q3 q4 q5 q6 q7 q8 q9 q10 q11 q12 q13 q14 q15 q16 q17 q18 q19 q20 q21 q22 q23 q24 q25 q26 q27 q28 q29 q30 q31 q32 q33) cs 23 (sM00 23) := rfl
set_option maxHeartbeats 400000 in
set_option maxRecDepth 100000 in
theorem xm_24 (cs : Nat → ClassId) (h0 q1 q2 q3 q4 q5 q6 q7 q8 q9 q10 q11 q12 q13 q14 q15 q16 q17 q18 q19 q20 q21 q22 q23 q24 q25 q26 q27 q28 q29 q30 q31 q32 q33 : Nat) : enRM cs 23 (sgRM 23) = enM (adM h0 q1 q2 q3 q4 q5 q6 q7 q8 q9 q10 q11 q12 q13 q14 q15 q16 q17 q18 q19 q20 q21 q22 q23 q24 q25 q26 q27 q28 q29 q30 q31 q32 q33) cs 24 (sM00 24) := rfl
set_option maxHeartbeats 400000 in
set_option maxRecDepth 100000 in
theorem xm_25 (cs : Nat → ClassId) (h0 q1 q2 q3 q4 q5 q6 q7 q8 q9 q10 q11 q12 q13 q14 q15 q16 q17 q18 q19 q20 q21 q22 q23 q24 q25 q26 q27 q28 q29 q30 q31 q32 q33 : Nat) : enRM cs 24 (sgRM 24) = enM (adM h0 q1 q2 q3 q4 q5 q6 q7 q8 q9 q10 q11 q12 q13 q14 q15 q16 q17 q18 q19 q20 q21 q22 q23 q24 q25 q26 q27 q28 q29 q30 q31 q32 q33) cs 25 (sM00 25) := rfl
set_option maxHeartbeats 400000 in
set_option maxRecDepth 100000 in
theorem xm_26 (cs : Nat → ClassId) (h0 q1 q2 q3 q4 q5 q6 q7 q8 q9 q10 q11 q12 q13 q14 q15 q16 q17 q18 q19 q20 q21 q22 q23 q24 q25 q26 q27 q28 q29 q30 q31 q32 q33 : Nat) : enRM cs 25 (sgRM 25) = enM (adM h0 q1 q2 q3 q4 q5 q6 q7 q8 q9 q10 q11 q12 q13 q14 q15 q16 q17 q18 q19 q20 q21 q22 q23 q24 q25 q26 q27 q28 q29 q30 q31 q32 q33) cs 26 (sM00 26) := rfl
set_option maxHeartbeats 400000 in
set_option maxRecDepth 100000 in
theorem xm_27 (cs : Nat → ClassId) (h0 q1 q2 q3 q4 q5 q6 q7 q8 q9 q10 q11 q12 q13 q14 q15 q16 q17 q18 q19 q20 q21 q22 q23 q24 q25 q26 q27 q28 q29 q30 q31 q32 q33 : Nat) : enRM cs 26 (sgRM 26) = enM (adM h0 q1 q2 q3 q4 q5 q6 q7 q8 q9 q10 q11 q12 q13 q14 q15 q16 q17 q18 q19 q20 q21 q22 q23 q24 q25 q26 q27 q28 q29 q30 q31 q32 q33) cs 27 (sM00 27) := rfl
set_option maxHeartbeats 400000 in
set_option maxRecDepth 100000 in
theorem xm_28 (cs : Nat → ClassId) (h0 q1 q2 q3 q4 q5 q6 q7 q8 q9 q10 q11 q12 q13 q14 q15 q16 q17 q18 q19 q20 q21 q22 q23 q24 q25 q26 q27 q28 q29 q30 q31 q32 q33 : Nat) : enRM cs 27 (sgRM 27) = enM (adM h0 q1 q2 q3 q4 q5 q6 q7 q8 q9 q10 q11 q12 q13 q14 q15 q16 q17 q18 q19 q20 q21 q22 q23 q24 q25 q26 q27 q28 q29 q30 q31 q32 q33) cs 28 (sM00 28) := rfl
set_option maxHeartbeats 400000 in
set_option maxRecDepth 100000 in
theorem xm_29 (cs : Nat → ClassId) (h0 q1 q2 q3 q4 q5 q6 q7 q8 q9 q10 q11 q12 q13 q14 q15 q16 q17 q18 q19 q20 q21 q22 q23 q24 q25 q26 q27 q28 q29 q30 q31 q32 q33 : Nat) : enRM cs 28 (sgRM 28) = enM (adM h0 q1 q2 q3 q4 q5 q6 q7 q8 q9 q10 q11 q12 q13 q14 q15 q16 q17 q18 q19 q20 q21 q22 q23 q24 q25 q26 q27 q28 q29 q30 q31 q32 q33) cs 29 (sM00 29) := rfl
set_option maxHeartbeats 400000 in
set_option maxRecDepth 100000 in
theorem xm_30 (cs : Nat → ClassId) (h0 q1 q2 q3 q4 q5 q6 q7 q8 q9 q10 q11 q12 q13 q14 q15 q16 q17 q18 q19 q20 q21 q22 q23 q24 q25 q26 q27 q28 q29 q30 q31 q32 q33 : Nat) : enRM cs 29 (sgRM 29) = enM (adM h0 q1 q2 q3 q4 q5 q6 q7 q8 q9 q10 q11 q12 q13 q14 q15 q16 q17 q18 q19 q20 q21 q22 q23 q24 q25 q26 q27 q28 q29 q30 q31 q32 q33) cs 30 (sM00 30) := rfl
set_option maxHeartbeats 400000 in
set_option maxRecDepth 100000 in
theorem xm_31 (cs : Nat → ClassId) (h0 q1 q2 q3 q4 q5 q6 q7 q8 q9 q10 q11 q12 q13 q14 q15 q16 q17 q18 q19 q20 q21 q22 q23 q24 q25 q26 q27 q28 q29 q30 q31 q32 q33 : Nat) : enRM cs 30 (sgRM 30) = enM (adM h0 q1 q2 q3 q4 q5 q6 q7 q8 q9 q10 q11 q12 q13 q14 q15 q16 q17 q18 q19 q20 q21 q22 q23 q24 q25 q26 q27 q28 q29 q30 q31 q32 q33) cs 31 (sM00 31) := rfl
set_option maxHeartbeats 400000 in
set_option maxRecDepth 100000 in
theorem xm_32 (cs : Nat → ClassId) (h0 q1 q2 q3 q4 q5 q6 q7 q8 q9 q10 q11 q12 q13 q14 q15 q16 q17 q18 q19 q20 q21 q22 q23 q24 q25 q26 q27 q28 q29 q30 q31 q32 q33 : Nat) : enRM cs 31 (sgRM 31) = enM (adM h0 q1 q2 q3 q4 q5 q6 q7 q8 q9 q10 q11 q12 q13 q14 q15 q16 q17 q18 q19 q20 q21 q22 q23 q24 q25 q26 q27 q28 q29 q30 q31 q32 q33) cs 32 (sM00 32) := rfl
set_option maxHeartbeats 400000 in
set_option maxRecDepth 100000 in
theorem xm_33 (cs : Nat → ClassId) (h0 q1 q2 q3 q4 q5 q6 q7 q8 q9 q10 q11 q12 q13 q14 q15 q16 q17 q18 q19 q20 q21 q22 q23 q24 q25 q26 q27 q28 q29 q30 q31 q32 q33 : Nat) : enRM cs 32 (sgRM 32) = enM (adM h0 q1 q2 q3 q4 q5 q6 q7 q8 q9 q10 q11 q12 q13 q14 q15 q16 q17 q18 q19 q20 q21 q22 q23 q24 q25 q26 q27 q28 q29 q30 q31 q32 q33) cs 33 (sM00 33) := rfl
set_option maxHeartbeats 4000000 in
set_option maxRecDepth 100000 in
theorem xm_all (cs : Nat → ClassId) (h0 q1 q2 q3 q4 q5 q6 q7 q8 q9 q10 q11 q12 q13 q14 q15 q16 q17 q18 q19 q20 q21 q22 q23 q24 q25 q26 q27 q28 q29 q30 q31 q32 q33 : Nat) : ∀ k, k < 33 → enRM cs k (sgRM k) = enM (adM h0 q1 q2 q3 q4 q5 q6 q7 q8 q9 q10 q11 q12 q13 q14 q15 q16 q17 q18 q19 q20 q21 q22 q23 q24 q25 q26 q27 q28 q29 q30 q31 q32 q33) cs (k + 1) (sM00 (k + 1)) := by
  intro k hk
  match k, hk with
  | 0, _ => exact xm_1 cs h0 q1 q2 q3 q4 q5 q6 q7 q8 q9 q10 q11 q12 q13 q14 q15 q16 q17 q18 q19 q20 q21 q22 q23 q24 q25 q26 q27 q28 q29 q30 q31 q32 q33
  | 1, _ => exact xm_2 cs h0 q1 q2 q3 q4 q5 q6 q7 q8 q9 q10 q11 q12 q13 q14 q15 q16 q17 q18 q19 q20 q21 q22 q23 q24 q25 q26 q27 q28 q29 q30 q31 q32 q33
  | 2, _ => exact xm_3 cs h0 q1 q2 q3 q4 q5 q6 q7 q8 q9 q10 q11 q12 q13 q14 q15 q16 q17 q18 q19 q20 q21 q22 q23 q24 q25 q26 q27 q28 q29 q30 q31 q32 q33
  | 3, _ => exact xm_4 cs h0 q1 q2 q3 q4 q5 q6 q7 q8 q9 q10 q11 q12 q13 q14 q15 q16 q17 q18 q19 q20 q21 q22 q23 q24 q25 q26 q27 q28 q29 q30 q31 q32 q33
  | 4, _ => exact xm_5 cs h0 q1 q2 q3 q4 q5 q6 q7 q8 q9 q10 q11 q12 q13 q14 q15 q16 q17 q18 q19 q20 q21 q22 q23 q24 q25 q26 q27 q28 q29 q30 q31 q32 q33
  | 5, _ => exact xm_6 cs h0 q1 q2 q3 q4 q5 q6 q7 q8 q9 q10 q11 q12 q13 q14 q15 q16 q17 q18 q19 q20 q21 q22 q23 q24 q25 q26 q27 q28 q29 q30 q31 q32 q33
  | 6, _ => exact xm_7 cs h0 q1 q2 q3 q4 q5 q6 q7 q8 q9 q10 q11 q12 q13 q14 q15 q16 q17 q18 q19 q20 q21 q22 q23 q24 q25 q26 q27 q28 q29 q30 q31 q32 q33
  | 7, _ => exact xm_8 cs h0 q1 q2 q3 q4 q5 q6 q7 q8 q9 q10 q11 q12 q13 q14 q15 q16 q17 q18 q19 q20 q21 q22 q23 q24 q25 q26 q27 q28 q29 q30 q31 q32 q33
  | 8, _ => exact xm_9 cs h0 q1 q2 q3 q4 q5 q6 q7 q8 q9 q10 q11 q12 q13 q14 q15 q16 q17 q18 q19 q20 q21 q22 q23 q24 q25 q26 q27 q28 q29 q30 q31 q32 q33
  | 9, _ => exact xm_10 cs h0 q1 q2 q3 q4 q5 q6 q7 q8 q9 q10 q11 q12 q13 q14 q15 q16 q17 q18 q19 q20 q21 q22 q23 q24 q25 q26 q27 q28 q29 q30 q31 q32 q33
  | 10, _ => exact xm_11 cs h0 q1 q2 q3 q4 q5 q6 q7 q8 q9 q10 q11 q12 q13 q14 q15 q16 q17 q18 q19 q20 q21 q22 q23 q24 q25 q26 q27 q28 q29 q30 q31 q32 q33
  | 11, _ => exact xm_12 cs h0 q1 q2 q3 q4 q5 q6 q7 q8 q9 q10 q11 q12 q13 q14 q15 q16 q17 q18 q19 q20 q21 q22 q23 q24 q25 q26 q27 q28 q29 q30 q31 q32 q33
  | 12, _ => exact xm_13 cs h0 q1 q2 q3 q4 q5 q6 q7 q8 q9 q10 q11 q12 q13 q14 q15 q16 q17 q18 q19 q20 q21 q22 q23 q24 q25 q26 q27 q28 q29 q30 q31 q32 q33
  | 13, _ => exact xm_14 cs h0 q1 q2 q3 q4 q5 q6 q7 q8 q9 q10 q11 q12 q13 q14 q15 q16 q17 q18 q19 q20 q21 q22 q23 q24 q25 q26 q27 q28 q29 q30 q31 q32 q33
  | 14, _ => exact xm_15 cs h0 q1 q2 q3 q4 q5 q6 q7 q8 q9 q10 q11 q12 q13 q14 q15 q16 q17 q18 q19 q20 q21 q22 q23 q24 q25 q26 q27 q28 q29 q30 q31 q32 q33
  | 15, _ => exact xm_16 cs h0 q1 q2 q3 q4 q5 q6 q7 q8 q9 q10 q11 q12 q13 q14 q15 q16 q17 q18 q19 q20 q21 q22 q23 q24 q25 q26 q27 q28 q29 q30 q31 q32 q33
  | 16, _ => exact xm_17 cs h0 q1 q2 q3 q4 q5 q6 q7 q8 q9 q10 q11 q12 q13 q14 q15 q16 q17 q18 q19 q20 q21 q22 q23 q24 q25 q26 q27 q28 q29 q30 q31 q32 q33
  | 17, _ => exact xm_18 cs h0 q1 q2 q3 q4 q5 q6 q7 q8 q9 q10 q11 q12 q13 q14 q15 q16 q17 q18 q19 q20 q21 q22 q23 q24 q25 q26 q27 q28 q29 q30 q31 q32 q33
  | 18, _ => exact xm_19 cs h0 q1 q2 q3 q4 q5 q6 q7 q8 q9 q10 q11 q12 q13 q14 q15 q16 q17 q18 q19 q20 q21 q22 q23 q24 q25 q26 q27 q28 q29 q30 q31 q32 q33
  | 19, _ => exact xm_20 cs h0 q1 q2 q3 q4 q5 q6 q7 q8 q9 q10 q11 q12 q13 q14 q15 q16 q17 q18 q19 q20 q21 q22 q23 q24 q25 q26 q27 q28 q29 q30 q31 q32 q33
  | 20, _ => exact xm_21 cs h0 q1 q2 q3 q4 q5 q6 q7 q8 q9 q10 q11 q12 q13 q14 q15 q16 q17 q18 q19 q20 q21 q22 q23 q24 q25 q26 q27 q28 q29 q30 q31 q32 q33
  | 21, _ => exact xm_22 cs h0 q1 q2 q3 q4 q5 q6 q7 q8 q9 q10 q11 q12 q13 q14 q15 q16 q17 q18 q19 q20 q21 q22 q23 q24 q25 q26 q27 q28 q29 q30 q31 q32 q33
  | 22, _ => exact xm_23 cs h0 q1 q2 q3 q4 q5 q6 q7 q8 q9 q10 q11 q12 q13 q14 q15 q16 q17 q18 q19 q20 q21 q22 q23 q24 q25 q26 q27 q28 q29 q30 q31 q32 q33
  | 23, _ => exact xm_24 cs h0 q1 q2 q3 q4 q5 q6 q7 q8 q9 q10 q11 q12 q13 q14 q15 q16 q17 q18 q19 q20 q21 q22 q23 q24 q25 q26 q27 q28 q29 q30 q31 q32 q33
  | 24, _ => exact xm_25 cs h0 q1 q2 q3 q4 q5 q6 q7 q8 q9 q10 q11 q12 q13 q14 q15 q16 q17 q18 q19 q20 q21 q22 q23 q24 q25 q26 q27 q28 q29 q30 q31 q32 q33
  | 25, _ => exact xm_26 cs h0 q1 q2 q3 q4 q5 q6 q7 q8 q9 q10 q11 q12 q13 q14 q15 q16 q17 q18 q19 q20 q21 q22 q23 q24 q25 q26 q27 q28 q29 q30 q31 q32 q33
  | 26, _ => exact xm_27 cs h0 q1 q2 q3 q4 q5 q6 q7 q8 q9 q10 q11 q12 q13 q14 q15 q16 q17 q18 q19 q20 q21 q22 q23 q24 q25 q26 q27 q28 q29 q30 q31 q32 q33
  | 27, _ => exact xm_28 cs h0 q1 q2 q3 q4 q5 q6 q7 q8 q9 q10 q11 q12 q13 q14 q15 q16 q17 q18 q19 q20 q21 q22 q23 q24 q25 q26 q27 q28 q29 q30 q31 q32 q33
  | 28, _ => exact xm_29 cs h0 q1 q2 q3 q4 q5 q6 q7 q8 q9 q10 q11 q12 q13 q14 q15 q16 q17 q18 q19 q20 q21 q22 q23 q24 q25 q26 q27 q28 q29 q30 q31 q32 q33
  | 29, _ => exact xm_30 cs h0 q1 q2 q3 q4 q5 q6 q7 q8 q9 q10 q11 q12 q13 q14 q15 q16 q17 q18 q19 q20 q21 q22 q23 q24 q25 q26 q27 q28 q29 q30 q31 q32 q33
  | 30, _ => exact xm_31 cs h0 q1 q2 q3 q4 q5 q6 q7 q8 q9 q10 q11 q12 q13 q14 q15 q16 q17 q18 q19 q20 q21 q22 q23 q24 q25 q26 q27 q28 q29 q30 q31 q32 q33
  | 31, _ => exact xm_32 cs h0 q1 q2 q3 q4 q5 q6 q7 q8 q9 q10 q11 q12 q13 q14 q15 q16 q17 q18 q19 q20 q21 q22 q23 q24 q25 q26 q27 q28 q29 q30 q31 q32 q33
  | 32, _ => exact xm_33 cs h0 q1 q2 q3 q4 q5 q6 q7 q8 q9 q10 q11 q12 q13 q14 q15 q16 q17 q18 q19 q20 q21 q22 q23 q24 q25 q26 q27 q28 q29 q30 q31 q32 q33
  | n + 33, h => exact absurd h (by omega)
set_option maxHeartbeats 4000000 in
set_option maxRecDepth 100000 in
theorem xm_list {D : va_G} {H : Heap} {A : Nat → Prop} (cs : Nat → ClassId) (h0 q1 q2 q3 q4 q5 q6 q7 q8 q9 q10 q11 q12 q13 q14 q15 q16 q17 q18 q19 q20 q21 q22 q23 q24 q25 q26 q27 q28 q29 q30 q31 q32 q33 : Nat) (hP : va_P D vwCl ((h0, .inr (10, [.int 0, .ref q1, .int 0, .ref q2, .ref q3, .ref q4, .ref q5, .int 0, .ref q6, .ref q7, .ref q8, .ref q9, .ref q10, .ref q11, .ref q12, .ref q13, .ref q14, .int 0, .ref q15, .ref q16, .ref q17, .ref q18, .ref q19, .ref q20, .int 0, .ref q21, .int 0, .ref q22, .ref q23, .ref q24, .int 1, .int 1900, .int 0, .ref q25, .ref q26, .ref q27, .ref q28, .int 0, .ref q29, .ref q30, .int 0, .ref q31, .ref q32, .ref q33])) :: uw 33 (adRM q1 q2 q3 q4 q5 q6 q7 q8 q9 q10 q11 q12 q13 q14 q15 q16 q17 q18 q19 q20 q21 q22 q23 q24 q25 q26 q27 q28 q29 q30 q31 q32 q33) (enRM cs) sgRM) H) (hD : va_D A ((h0, .inr (10, [.int 0, .ref q1, .int 0, .ref q2, .ref q3, .ref q4, .ref q5, .int 0, .ref q6, .ref q7, .ref q8, .ref q9, .ref q10, .ref q11, .ref q12, .ref q13, .ref q14, .int 0, .ref q15, .ref q16, .ref q17, .ref q18, .ref q19, .ref q20, .int 0, .ref q21, .int 0, .ref q22, .ref q23, .ref q24, .int 1, .int 1900, .int 0, .ref q25, .ref q26, .ref q27, .ref q28, .int 0, .ref q29, .ref q30, .int 0, .ref q31, .ref q32, .ref q33])) :: uw 33 (adRM q1 q2 q3 q4 q5 q6 q7 q8 q9 q10 q11 q12 q13 q14 q15 q16 q17 q18 q19 q20 q21 q22 q23 q24 q25 q26 q27 q28 q29 q30 q31 q32 q33) (enRM cs) sgRM)) : va_P D vwCl (uw 34 (adM h0 q1 q2 q3 q4 q5 q6 q7 q8 q9 q10 q11 q12 q13 q14 q15 q16 q17 q18 q19 q20 q21 q22 q23 q24 q25 q26 q27 q28 q29 q30 q31 q32 q33) (enM (adM h0 q1 q2 q3 q4 q5 q6 q7 q8 q9 q10 q11 q12 q13 q14 q15 q16 q17 q18 q19 q20 q21 q22 q23 q24 q25 q26 q27 q28 q29 q30 q31 q32 q33) cs) sM00) H ∧ va_D A (uw 34 (adM h0 q1 q2 q3 q4 q5 q6 q7 q8 q9 q10 q11 q12 q13 q14 q15 q16 q17 q18 q19 q20 q21 q22 q23 q24 q25 q26 q27 q28 q29 q30 q31 q32 q33) (enM (adM h0 q1 q2 q3 q4 q5 q6 q7 q8 q9 q10 q11 q12 q13 q14 q15 q16 q17 q18 q19 q20 q21 q22 q23 q24 q25 q26 q27 q28 q29 q30 q31 q32 q33) cs) sM00) := by
  have e : (h0, .inr (10, [.int 0, .ref q1, .int 0, .ref q2, .ref q3, .ref q4, .ref q5, .int 0, .ref q6, .ref q7, .ref q8, .ref q9, .ref q10, .ref q11, .ref q12, .ref q13, .ref q14, .int 0, .ref q15, .ref q16, .ref q17, .ref q18, .ref q19, .ref q20, .int 0, .ref q21, .int 0, .ref q22, .ref q23, .ref q24, .int 1, .int 1900, .int 0, .ref q25, .ref q26, .ref q27, .ref q28, .int 0, .ref q29, .ref q30, .int 0, .ref q31, .ref q32, .ref q33])) :: uw 33 (adRM q1 q2 q3 q4 q5 q6 q7 q8 q9 q10 q11 q12 q13 q14 q15 q16 q17 q18 q19 q20 q21 q22 q23 q24 q25 q26 q27 q28 q29 q30 q31 q32 q33) (enRM cs) sgRM = uw 34 (adM h0 q1 q2 q3 q4 q5 q6 q7 q8 q9 q10 q11 q12 q13 q14 q15 q16 q17 q18 q19 q20 q21 q22 q23 q24 q25 q26 q27 q28 q29 q30 q31 q32 q33) (enM (adM h0 q1 q2 q3 q4 q5 q6 q7 q8 q9 q10 q11 q12 q13 q14 q15 q16 q17 q18 q19 q20 q21 q22 q23 q24 q25 q26 q27 q28 q29 q30 q31 q32 q33) cs) sM00 := by
    apply List.ext_getElem?
    intro i
    cases i with
    | zero => rw [uw_get (by decide)]; rfl
    | succ k =>
      rw [List.getElem?_cons_succ]
      by_cases hk : k < 33
      · rw [uw_get hk, uw_get (by omega), xm_all cs h0 q1 q2 q3 q4 q5 q6 q7 q8 q9 q10 q11 q12 q13 q14 q15 q16 q17 q18 q19 q20 q21 q22 q23 q24 q25 q26 q27 q28 q29 q30 q31 q32 q33 k hk]; rfl
      · have a1 : (uw 33 (adRM q1 q2 q3 q4 q5 q6 q7 q8 q9 q10 q11 q12 q13 q14 q15 q16 q17 q18 q19 q20 q21 q22 q23 q24 q25 q26 q27 q28 q29 q30 q31 q32 q33) (enRM cs) sgRM)[k]? = none := by simp [uw]; omega
        have a2 : (uw 34 (adM h0 q1 q2 q3 q4 q5 q6 q7 q8 q9 q10 q11 q12 q13 q14 q15 q16 q17 q18 q19 q20 q21 q22 q23 q24 q25 q26 q27 q28 q29 q30 q31 q32 q33) (enM (adM h0 q1 q2 q3 q4 q5 q6 q7 q8 q9 q10 q11 q12 q13 q14 q15 q16 q17 q18 q19 q20 q21 q22 q23 q24 q25 q26 q27 q28 q29 q30 q31 q32 q33) cs) sM00)[k + 1]? = none := by simp [uw]; omega
        rw [a1, a2]
  rw [← e]
  exact ⟨hP, hD⟩
set_option maxHeartbeats 4000000 in
set_option maxRecDepth 100000 in
theorem x10_tail {p : Program} {l : Launch} {e : Env} {s : State} {m : MethodId} {below : List Frame} {meth : Method} {c : Code} {D : va_G} {cs : Nat → ClassId} {H : Heap} {locs : List Loc} {ls : Array Slot} {h0 : Nat} {ad : Nat → Nat} (hx : p.tables.exec = Jvm.exec) (hb : c.code = cX10_init) (hml : c.maxLocals = 2) (hown : s.vm.findClass RX10 = some m.cls) (hts : ∀ w ∈ wsX10_init, w.before #[.ref h0] s = true) (hK : va_K D vwCl (tyX cs) s) (hr : meth.sig.returnType = none) (hlocks : meth.locks = false) (hP9 : va_P D vwCl (uw 34 ad (enM ad cs) sM00) H) (hD9 : va_D (uN h0 s.heap.size) (uw 34 ad (enM ad cs) sM00)) (h0e : ad 0 = h0) (hS : va_S (uN h0 s.heap.size) s.heap H locs) (hl : lv_has ls 2 [(0, .ref h0)]) : W p l e { frames := 1, cells := 33, slots := 1346, locals := 12 } s m #[.ref h0] below meth c H locs 33 1346 (MQ below (uQc D vwCl 34 (fun qs => enM qs cs) sM0 h0 s.heap.size) #[.ref h0] s 33 1346 (uN h0 s.heap.size)) (F0 m 281 ls []) := by
  have hJ9 := uw_J hD9
  have hn9 : ∀ k, 1 ≤ k → k < 34 → s.heap.size ≤ ad k := fun k h1 h2 => (hJ9.2 k h2).resolve_left (fun h => by have := hJ9.1 k 0 h2 (by omega) (h.trans h0e.symm); omega)
  subst h0e
  have C : uC p { frames := 1, cells := 33, slots := 1346, locals := 12 } s m #[.ref (ad 0)] c cX10_init 2 wsX10_init RX10 D vwCl (tyX cs) 34 ad (uN (ad 0) s.heap.size) 33 1346 := ⟨⟨hx, hb, hml, hown, hts⟩, hK, hJ9.1, hJ9.2, fun q h => Or.inr h, Nat.le_of_ble_eq_true rfl, Nat.le_of_ble_eq_true rfl⟩
  refine lv_iconst (v := 0) hx hb dX10_init_281 (by decide) ?_
  refine lv_istore_n (lv' := [(1, .int 0), (0, .ref (ad 0))]) hx hb dX10_init_282 rfl hl (by decide) rfl (fun ls hl => ?_)
  rw [← nI_0] at hl
  refine w_X10_init_283 (σ := sM00) C (fun H locs ls G hl => ?_) 4 0 rfl H locs ls ⟨by rw [szS_0]; exact hP9, hS⟩ (lv_sub hl [1, 0] rfl)
  refine lv_iconst (v := 0) hx hb dX10_init_302 (by decide) ?_
  refine lv_istore_n (lv' := [(1, .int 0), (0, .ref (ad 0))]) hx hb dX10_init_303 rfl hl (by decide) rfl (fun ls hl => ?_)
  rw [← nI_0] at hl
  refine w_X10_init_304 (σ := szS sM00 4) C (fun H locs ls G hl => ?_) 600 0 (by omega) H locs ls (by rw [wlS_0]; exact G) (lv_sub hl [1, 0] rfl)
  exact W.vret hx hb hr (fun t ht hW => ⟨⟨ad, rfl, ⟨rfl, hJ9.1, hn9⟩, by show va_P D vwCl (uw 34 ad (enM ad cs) sM0) t.heap; rw [ht]; exact G.1⟩, G.2.F ht⟩) G.2.2.2 dX10_init_324
set_option maxHeartbeats 16000000 in
set_option maxRecDepth 100000 in
theorem c_X10_init (l : Launch) (D : va_G) (cs : Nat → ClassId) : uMc l yX10_init wsX10_init { frames := 1, cells := 33, slots := 1346, locals := 12 } D vwCl cs 10 [.int 0, .null, .int 0, .null, .null, .null, .null, .int 0, .null, .null, .null, .null, .null, .null, .null, .null, .null, .int 0, .null, .null, .null, .null, .null, .null, .int 0, .null, .int 0, .null, .null, .null, .int 0, .int 0, .int 0, .null, .null, .null, .null, .int 0, .null, .null, .int 0, .null, .null, .null] 34 (fun qs => enM qs cs) sM0 33 1346 := by
  intro h0 sz
  refine Met.ofW (cc := cX10_init) (maxL := 2) (ret := none) (by decide) rfl ?_
  intro p e s m args below meth c s₁ B hml hv
  obtain ⟨rfl, hsz, hP, hK, hAO⟩ := hv
  have hx := B.exec
  have hb := B.bytes
  have hr := B.returns
  have hts := atoms_spec (ws := wsX10_init) B.pre
  have hown : s.vm.findClass RX10 = some m.cls := findClass_of_methodNamed B.named
  have hlocks := B.notSynchronized
  have hin : meth.name = "<init>" := (name_of_methodNamed B.named B.method).1
  subst hsz
  generalize hAe : uN h0 s.heap.size = A
  have hA : ∀ q : Nat, s.heap.size ≤ q → A q := fun q h => by rw [← hAe]; exact Or.inr h
  have hAn : ∀ q : Nat, A q → q ≠ h0 → s.heap.size ≤ q := fun q h g => by rw [← hAe] at h; exact h.resolve_left g
  have hD : va_D A [(h0, .inr (10, [.int 0, .null, .int 0, .null, .null, .null, .null, .int 0, .null, .null, .null, .null, .null, .null, .null, .null, .null, .int 0, .null, .null, .null, .null, .null, .null, .int 0, .null, .int 0, .null, .null, .null, .int 0, .int 0, .int 0, .null, .null, .null, .null, .int 0, .null, .null, .int 0, .null, .null, .null]))] := ⟨fun i j x y h1 h2 _ => by have a1 := (List.getElem?_eq_some_iff.mp h1).1; have a2 := (List.getElem?_eq_some_iff.mp h2).1; simp at a1 a2; omega, fun k q h => by have a1 := (List.getElem?_eq_some_iff.mp h).1; simp at a1; subst a1; cases h; rw [← hAe]; exact Or.inl rfl⟩
  have hS : va_S A s.heap s.heap [] := va_S.rf
  have hl := lv_entry ([.ref h0]) (n := 2) (Nat.le_of_ble_eq_true rfl)
  rw [lg_entry_eq]
  generalize (lg_sl ([.ref h0]) ++ List.replicate (2 - (lg_sl ([.ref h0])).length) Slot.unset).toArray = ls at hl ⊢
  have hl : lv_has ls 2 [(0, .ref h0)] := hl
  obtain ⟨H, eH⟩ : ∃ H, H = s.heap := ⟨_, rfl⟩
  obtain ⟨locs, eL⟩ : ∃ locs : List Loc, locs = [] := ⟨_, rfl⟩
  refine u_start2 eH eL hP hS ?_
  clear hP hS eH eL
  intro hP hS
  have hP : va_P D vwCl ((h0, .inr (10, [.int 0, .null, .int 0, .null, .null, .null, .null, .int 0, .null, .null, .null, .null, .null, .null, .null, .null, .null, .int 0, .null, .null, .null, .null, .null, .null, .int 0, .null, .int 0, .null, .null, .null, .int 0, .int 0, .int 0, .null, .null, .null, .null, .int 0, .null, .null, .int 0, .null, .null, .null])) :: uw 0 (fun _ => 0) (fun _ _ => .inr (0, [])) (fun _ _ => 0)) H := hP
  have hD : va_D A ((h0, .inr (10, [.int 0, .null, .int 0, .null, .null, .null, .null, .int 0, .null, .null, .null, .null, .null, .null, .null, .null, .null, .int 0, .null, .null, .null, .null, .null, .null, .int 0, .null, .int 0, .null, .null, .null, .int 0, .int 0, .int 0, .null, .null, .null, .null, .int 0, .null, .null, .int 0, .null, .null, .null])) :: uw 0 (fun _ => 0) (fun _ _ => .inr (0, [])) (fun _ _ => 0)) := hD
  refine lv_aload_n hx hb dX10_init_0 rfl (lv_at hl 0 rfl) ?_
  refine W.objInit hx hb hown (hts (.methodLink RX10 1 objectInit) (by decide +kernel)) (hts (.instanceMethod objectInit) (by decide +kernel)) (hts (.code objectInit ⟨#[0xb1]⟩ 1 none) (by decide +kernel)) rfl (by rw [hml]; exact hl.1) rfl dX10_init_1 (Nat.le_of_ble_eq_true rfl) (Nat.le_of_ble_eq_true rfl) ?_
  refine W.eq (g2 := F0 m 4 ls []) rfl ?_
  refine lv_aload_n hx hb dX10_init_4 rfl (lv_at hl 0 rfl) ?_
  refine lv_bipush (v := 6) hx hb dX10_init_5 (by decide) ?_
  refine u_newa2 0 (atype := .int) (k := 6) (N' := 6) (n2 := 1) (c2 := 1) (s2 := 6) hx hb (hts (.arrayClass .int) (by decide +kernel)) (ty := .int) rfl hK hP hD hS hA rfl rfl (fun C h => by cases h) (by decide) (by decide) (by show 6 * 4 ≤ 536870912; omega) rfl rfl rfl (Nat.le_of_ble_eq_true rfl) (Nat.le_of_ble_eq_true rfl) dX10_init_7 (fun q1 H hP hD hS => ?_)
  obtain ⟨ad1, ea1⟩ : ∃ z : Nat → Nat, z = uap 0 (fun _ => 0) (fun _ => q1) := ⟨_, rfl⟩
  obtain ⟨en1, ee1⟩ : ∃ z : Nat → (Nat → Int32) → va_E, z = uap 0 (fun _ _ => .inr (0, [])) (fun _ _ => .inl (cs 0, 6, .inl (fun _ => 0))) := ⟨_, rfl⟩
  obtain ⟨sg1, es1⟩ : ∃ z : St, z = uap 0 (fun _ _ => 0) (fun _ _ => 0) := ⟨_, rfl⟩
  rw [← ea1, ← ee1, ← es1] at hP hD
  refine va_putF (D := D) (ci := 10) (v := .ref q1) (ty := (tyX10 1)) (C := RX10) (T := TX10) (N := 44) hx hb hts fi_X10_init_10 tyX10 tyX10_ok nmX10 hown hK hP hD hS 0 rfl rfl 1 (by decide) (hts (.fieldLink RX10 7 "GhostSignsModel" "findings" "[I") (by decide +kernel)) (fun _ h9 => h9) rfl hin rfl (by decide +kernel) rfl rfl (Nat.le_of_ble_eq_true rfl) dX10_init_9 (fun H locs hP hD hS => ?_)
  rw [List.set_cons_zero] at hP hD
  replace hP := pcons (e := .inr (10, [.int 0, .ref q1, .int 0, .null, .null, .null, .null, .int 0, .null, .null, .null, .null, .null, .null, .null, .null, .null, .int 0, .null, .null, .null, .null, .null, .null, .int 0, .null, .int 0, .null, .null, .null, .int 0, .int 0, .int 0, .null, .null, .null, .null, .int 0, .null, .null, .int 0, .null, .null, .null])) rfl hP
  replace hD := dcons (e := .inr (10, [.int 0, .ref q1, .int 0, .null, .null, .null, .null, .int 0, .null, .null, .null, .null, .null, .null, .null, .null, .null, .int 0, .null, .null, .null, .null, .null, .null, .int 0, .null, .int 0, .null, .null, .null, .int 0, .int 0, .int 0, .null, .null, .null, .null, .int 0, .null, .null, .int 0, .null, .null, .null])) rfl hD
  refine lv_aload_n hx hb dX10_init_12 rfl (lv_at hl 0 rfl) ?_
  refine lv_bipush (v := 26) hx hb dX10_init_13 (by decide) ?_
  refine u_newa2 0 (atype := .int) (k := 26) (N' := 26) (n2 := 2) (c2 := 2) (s2 := 32) hx hb (hts (.arrayClass .int) (by decide +kernel)) (ty := .int) rfl hK hP hD hS hA rfl rfl (fun C h => by cases h) (by decide) (by decide) (by show 26 * 4 ≤ 536870912; omega) rfl rfl rfl (Nat.le_of_ble_eq_true rfl) (Nat.le_of_ble_eq_true rfl) dX10_init_15 (fun q2 H hP hD hS => ?_)
  obtain ⟨ad2, ea2⟩ : ∃ z : Nat → Nat, z = uap 1 ad1 (fun _ => q2) := ⟨_, rfl⟩
  obtain ⟨en2, ee2⟩ : ∃ z : Nat → (Nat → Int32) → va_E, z = uap 1 en1 (fun _ _ => .inl (cs 0, 26, .inl (fun _ => 0))) := ⟨_, rfl⟩
  obtain ⟨sg2, es2⟩ : ∃ z : St, z = uap 1 sg1 (fun _ _ => 0) := ⟨_, rfl⟩
  rw [← ea2, ← ee2, ← es2] at hP hD
  refine va_putF (D := D) (ci := 10) (v := .ref q2) (ty := (tyX10 3)) (C := RX10) (T := TX10) (N := 44) hx hb hts fi_X10_init_10 tyX10 tyX10_ok nmX10 hown hK hP hD hS 0 rfl rfl 3 (by decide) (hts (.fieldLink RX10 13 "GhostSignsModel" "strokes" "[I") (by decide +kernel)) (fun _ h9 => h9) rfl hin rfl (by decide +kernel) rfl rfl (Nat.le_of_ble_eq_true rfl) dX10_init_17 (fun H locs hP hD hS => ?_)
  rw [List.set_cons_zero] at hP hD
  replace hP := pcons (e := .inr (10, [.int 0, .ref q1, .int 0, .ref q2, .null, .null, .null, .int 0, .null, .null, .null, .null, .null, .null, .null, .null, .null, .int 0, .null, .null, .null, .null, .null, .null, .int 0, .null, .int 0, .null, .null, .null, .int 0, .int 0, .int 0, .null, .null, .null, .null, .int 0, .null, .null, .int 0, .null, .null, .null])) rfl hP
  replace hD := dcons (e := .inr (10, [.int 0, .ref q1, .int 0, .ref q2, .null, .null, .null, .int 0, .null, .null, .null, .null, .null, .null, .null, .null, .null, .int 0, .null, .null, .null, .null, .null, .null, .int 0, .null, .int 0, .null, .null, .null, .int 0, .int 0, .int 0, .null, .null, .null, .null, .int 0, .null, .null, .int 0, .null, .null, .null])) rfl hD
  refine lv_aload_n hx hb dX10_init_20 rfl (lv_at hl 0 rfl) ?_
  refine lv_iconst (v := 4) hx hb dX10_init_21 (by decide) ?_
  refine u_newa2 0 (atype := .int) (k := 4) (N' := 4) (n2 := 3) (c2 := 3) (s2 := 36) hx hb (hts (.arrayClass .int) (by decide +kernel)) (ty := .int) rfl hK hP hD hS hA rfl rfl (fun C h => by cases h) (by decide) (by decide) (by show 4 * 4 ≤ 536870912; omega) rfl rfl rfl (Nat.le_of_ble_eq_true rfl) (Nat.le_of_ble_eq_true rfl) dX10_init_22 (fun q3 H hP hD hS => ?_)
  obtain ⟨ad3, ea3⟩ : ∃ z : Nat → Nat, z = uap 2 ad2 (fun _ => q3) := ⟨_, rfl⟩
  obtain ⟨en3, ee3⟩ : ∃ z : Nat → (Nat → Int32) → va_E, z = uap 2 en2 (fun _ _ => .inl (cs 0, 4, .inl (fun _ => 0))) := ⟨_, rfl⟩
  obtain ⟨sg3, es3⟩ : ∃ z : St, z = uap 2 sg2 (fun _ _ => 0) := ⟨_, rfl⟩
  rw [← ea3, ← ee3, ← es3] at hP hD
  refine va_putF (D := D) (ci := 10) (v := .ref q3) (ty := (tyX10 4)) (C := RX10) (T := TX10) (N := 44) hx hb hts fi_X10_init_10 tyX10 tyX10_ok nmX10 hown hK hP hD hS 0 rfl rfl 4 (by decide) (hts (.fieldLink RX10 16 "GhostSignsModel" "sizes" "[I") (by decide +kernel)) (fun _ h9 => h9) rfl hin rfl (by decide +kernel) rfl rfl (Nat.le_of_ble_eq_true rfl) dX10_init_24 (fun H locs hP hD hS => ?_)
  rw [List.set_cons_zero] at hP hD
  replace hP := pcons (e := .inr (10, [.int 0, .ref q1, .int 0, .ref q2, .ref q3, .null, .null, .int 0, .null, .null, .null, .null, .null, .null, .null, .null, .null, .int 0, .null, .null, .null, .null, .null, .null, .int 0, .null, .int 0, .null, .null, .null, .int 0, .int 0, .int 0, .null, .null, .null, .null, .int 0, .null, .null, .int 0, .null, .null, .null])) rfl hP
  replace hD := dcons (e := .inr (10, [.int 0, .ref q1, .int 0, .ref q2, .ref q3, .null, .null, .int 0, .null, .null, .null, .null, .null, .null, .null, .null, .null, .int 0, .null, .null, .null, .null, .null, .null, .int 0, .null, .int 0, .null, .null, .null, .int 0, .int 0, .int 0, .null, .null, .null, .null, .int 0, .null, .null, .int 0, .null, .null, .null])) rfl hD
  refine lv_aload_n hx hb dX10_init_27 rfl (lv_at hl 0 rfl) ?_
  refine lv_bipush (v := 40) hx hb dX10_init_28 (by decide) ?_
  refine u_newa2 0 (atype := .int) (k := 40) (N' := 40) (n2 := 4) (c2 := 4) (s2 := 76) hx hb (hts (.arrayClass .int) (by decide +kernel)) (ty := .int) rfl hK hP hD hS hA rfl rfl (fun C h => by cases h) (by decide) (by decide) (by show 40 * 4 ≤ 536870912; omega) rfl rfl rfl (Nat.le_of_ble_eq_true rfl) (Nat.le_of_ble_eq_true rfl) dX10_init_30 (fun q4 H hP hD hS => ?_)
  obtain ⟨ad4, ea4⟩ : ∃ z : Nat → Nat, z = uap 3 ad3 (fun _ => q4) := ⟨_, rfl⟩
  obtain ⟨en4, ee4⟩ : ∃ z : Nat → (Nat → Int32) → va_E, z = uap 3 en3 (fun _ _ => .inl (cs 0, 40, .inl (fun _ => 0))) := ⟨_, rfl⟩
  obtain ⟨sg4, es4⟩ : ∃ z : St, z = uap 3 sg3 (fun _ _ => 0) := ⟨_, rfl⟩
  rw [← ea4, ← ee4, ← es4] at hP hD
  refine va_putF (D := D) (ci := 10) (v := .ref q4) (ty := (tyX10 5)) (C := RX10) (T := TX10) (N := 44) hx hb hts fi_X10_init_10 tyX10 tyX10_ok nmX10 hown hK hP hD hS 0 rfl rfl 5 (by decide) (hts (.fieldLink RX10 19 "GhostSignsModel" "sheets" "[I") (by decide +kernel)) (fun _ h9 => h9) rfl hin rfl (by decide +kernel) rfl rfl (Nat.le_of_ble_eq_true rfl) dX10_init_32 (fun H locs hP hD hS => ?_)
  rw [List.set_cons_zero] at hP hD
  replace hP := pcons (e := .inr (10, [.int 0, .ref q1, .int 0, .ref q2, .ref q3, .ref q4, .null, .int 0, .null, .null, .null, .null, .null, .null, .null, .null, .null, .int 0, .null, .null, .null, .null, .null, .null, .int 0, .null, .int 0, .null, .null, .null, .int 0, .int 0, .int 0, .null, .null, .null, .null, .int 0, .null, .null, .int 0, .null, .null, .null])) rfl hP
  replace hD := dcons (e := .inr (10, [.int 0, .ref q1, .int 0, .ref q2, .ref q3, .ref q4, .null, .int 0, .null, .null, .null, .null, .null, .null, .null, .null, .null, .int 0, .null, .null, .null, .null, .null, .null, .int 0, .null, .int 0, .null, .null, .null, .int 0, .int 0, .int 0, .null, .null, .null, .null, .int 0, .null, .null, .int 0, .null, .null, .null])) rfl hD
  refine lv_aload_n hx hb dX10_init_35 rfl (lv_at hl 0 rfl) ?_
  refine lv_bipush (v := 10) hx hb dX10_init_36 (by decide) ?_
  refine u_newa2 0 (atype := .int) (k := 10) (N' := 10) (n2 := 5) (c2 := 5) (s2 := 86) hx hb (hts (.arrayClass .int) (by decide +kernel)) (ty := .int) rfl hK hP hD hS hA rfl rfl (fun C h => by cases h) (by decide) (by decide) (by show 10 * 4 ≤ 536870912; omega) rfl rfl rfl (Nat.le_of_ble_eq_true rfl) (Nat.le_of_ble_eq_true rfl) dX10_init_38 (fun q5 H hP hD hS => ?_)
  obtain ⟨ad5, ea5⟩ : ∃ z : Nat → Nat, z = uap 4 ad4 (fun _ => q5) := ⟨_, rfl⟩
  obtain ⟨en5, ee5⟩ : ∃ z : Nat → (Nat → Int32) → va_E, z = uap 4 en4 (fun _ _ => .inl (cs 0, 10, .inl (fun _ => 0))) := ⟨_, rfl⟩
  obtain ⟨sg5, es5⟩ : ∃ z : St, z = uap 4 sg4 (fun _ _ => 0) := ⟨_, rfl⟩
  rw [← ea5, ← ee5, ← es5] at hP hD
  refine va_putF (D := D) (ci := 10) (v := .ref q5) (ty := (tyX10 6)) (C := RX10) (T := TX10) (N := 44) hx hb hts fi_X10_init_10 tyX10 tyX10_ok nmX10 hown hK hP hD hS 0 rfl rfl 6 (by decide) (hts (.fieldLink RX10 22 "GhostSignsModel" "moving" "[I") (by decide +kernel)) (fun _ h9 => h9) rfl hin rfl (by decide +kernel) rfl rfl (Nat.le_of_ble_eq_true rfl) dX10_init_40 (fun H locs hP hD hS => ?_)
  rw [List.set_cons_zero] at hP hD
  replace hP := pcons (e := .inr (10, [.int 0, .ref q1, .int 0, .ref q2, .ref q3, .ref q4, .ref q5, .int 0, .null, .null, .null, .null, .null, .null, .null, .null, .null, .int 0, .null, .null, .null, .null, .null, .null, .int 0, .null, .int 0, .null, .null, .null, .int 0, .int 0, .int 0, .null, .null, .null, .null, .int 0, .null, .null, .int 0, .null, .null, .null])) rfl hP
  replace hD := dcons (e := .inr (10, [.int 0, .ref q1, .int 0, .ref q2, .ref q3, .ref q4, .ref q5, .int 0, .null, .null, .null, .null, .null, .null, .null, .null, .null, .int 0, .null, .null, .null, .null, .null, .null, .int 0, .null, .int 0, .null, .null, .null, .int 0, .int 0, .int 0, .null, .null, .null, .null, .int 0, .null, .null, .int 0, .null, .null, .null])) rfl hD
  refine lv_aload_n hx hb dX10_init_43 rfl (lv_at hl 0 rfl) ?_
  refine lv_bipush (v := 16) hx hb dX10_init_44 (by decide) ?_
  refine u_newa2 0 (atype := .int) (k := 16) (N' := 16) (n2 := 6) (c2 := 6) (s2 := 102) hx hb (hts (.arrayClass .int) (by decide +kernel)) (ty := .int) rfl hK hP hD hS hA rfl rfl (fun C h => by cases h) (by decide) (by decide) (by show 16 * 4 ≤ 536870912; omega) rfl rfl rfl (Nat.le_of_ble_eq_true rfl) (Nat.le_of_ble_eq_true rfl) dX10_init_46 (fun q6 H hP hD hS => ?_)
  obtain ⟨ad6, ea6⟩ : ∃ z : Nat → Nat, z = uap 5 ad5 (fun _ => q6) := ⟨_, rfl⟩
  obtain ⟨en6, ee6⟩ : ∃ z : Nat → (Nat → Int32) → va_E, z = uap 5 en5 (fun _ _ => .inl (cs 0, 16, .inl (fun _ => 0))) := ⟨_, rfl⟩
  obtain ⟨sg6, es6⟩ : ∃ z : St, z = uap 5 sg5 (fun _ _ => 0) := ⟨_, rfl⟩
  rw [← ea6, ← ee6, ← es6] at hP hD
  refine va_putF (D := D) (ci := 10) (v := .ref q6) (ty := (tyX10 8)) (C := RX10) (T := TX10) (N := 44) hx hb hts fi_X10_init_10 tyX10 tyX10_ok nmX10 hown hK hP hD hS 0 rfl rfl 8 (by decide) (hts (.fieldLink RX10 25 "GhostSignsModel" "kinds" "[I") (by decide +kernel)) (fun _ h9 => h9) rfl hin rfl (by decide +kernel) rfl rfl (Nat.le_of_ble_eq_true rfl) dX10_init_48 (fun H locs hP hD hS => ?_)
  rw [List.set_cons_zero] at hP hD
  replace hP := pcons (e := .inr (10, [.int 0, .ref q1, .int 0, .ref q2, .ref q3, .ref q4, .ref q5, .int 0, .ref q6, .null, .null, .null, .null, .null, .null, .null, .null, .int 0, .null, .null, .null, .null, .null, .null, .int 0, .null, .int 0, .null, .null, .null, .int 0, .int 0, .int 0, .null, .null, .null, .null, .int 0, .null, .null, .int 0, .null, .null, .null])) rfl hP
  replace hD := dcons (e := .inr (10, [.int 0, .ref q1, .int 0, .ref q2, .ref q3, .ref q4, .ref q5, .int 0, .ref q6, .null, .null, .null, .null, .null, .null, .null, .null, .int 0, .null, .null, .null, .null, .null, .null, .int 0, .null, .int 0, .null, .null, .null, .int 0, .int 0, .int 0, .null, .null, .null, .null, .int 0, .null, .null, .int 0, .null, .null, .null])) rfl hD
  refine lv_aload_n hx hb dX10_init_51 rfl (lv_at hl 0 rfl) ?_
  refine lv_bipush (v := 16) hx hb dX10_init_52 (by decide) ?_
  refine u_newa2 0 (atype := .int) (k := 16) (N' := 16) (n2 := 7) (c2 := 7) (s2 := 118) hx hb (hts (.arrayClass .int) (by decide +kernel)) (ty := .int) rfl hK hP hD hS hA rfl rfl (fun C h => by cases h) (by decide) (by decide) (by show 16 * 4 ≤ 536870912; omega) rfl rfl rfl (Nat.le_of_ble_eq_true rfl) (Nat.le_of_ble_eq_true rfl) dX10_init_54 (fun q7 H hP hD hS => ?_)
  obtain ⟨ad7, ea7⟩ : ∃ z : Nat → Nat, z = uap 6 ad6 (fun _ => q7) := ⟨_, rfl⟩
  obtain ⟨en7, ee7⟩ : ∃ z : Nat → (Nat → Int32) → va_E, z = uap 6 en6 (fun _ _ => .inl (cs 0, 16, .inl (fun _ => 0))) := ⟨_, rfl⟩
  obtain ⟨sg7, es7⟩ : ∃ z : St, z = uap 6 sg6 (fun _ _ => 0) := ⟨_, rfl⟩
  rw [← ea7, ← ee7, ← es7] at hP hD
  refine va_putF (D := D) (ci := 10) (v := .ref q7) (ty := (tyX10 9)) (C := RX10) (T := TX10) (N := 44) hx hb hts fi_X10_init_10 tyX10 tyX10_ok nmX10 hown hK hP hD hS 0 rfl rfl 9 (by decide) (hts (.fieldLink RX10 28 "GhostSignsModel" "lengths" "[I") (by decide +kernel)) (fun _ h9 => h9) rfl hin rfl (by decide +kernel) rfl rfl (Nat.le_of_ble_eq_true rfl) dX10_init_56 (fun H locs hP hD hS => ?_)
  rw [List.set_cons_zero] at hP hD
  replace hP := pcons (e := .inr (10, [.int 0, .ref q1, .int 0, .ref q2, .ref q3, .ref q4, .ref q5, .int 0, .ref q6, .ref q7, .null, .null, .null, .null, .null, .null, .null, .int 0, .null, .null, .null, .null, .null, .null, .int 0, .null, .int 0, .null, .null, .null, .int 0, .int 0, .int 0, .null, .null, .null, .null, .int 0, .null, .null, .int 0, .null, .null, .null])) rfl hP
  replace hD := dcons (e := .inr (10, [.int 0, .ref q1, .int 0, .ref q2, .ref q3, .ref q4, .ref q5, .int 0, .ref q6, .ref q7, .null, .null, .null, .null, .null, .null, .null, .int 0, .null, .null, .null, .null, .null, .null, .int 0, .null, .int 0, .null, .null, .null, .int 0, .int 0, .int 0, .null, .null, .null, .null, .int 0, .null, .null, .int 0, .null, .null, .null])) rfl hD
  refine lv_aload_n hx hb dX10_init_59 rfl (lv_at hl 0 rfl) ?_
  refine lv_sipush (v := 128) hx hb dX10_init_60 (by decide) ?_
  refine u_newa2 0 (atype := .int) (k := 128) (N' := 128) (n2 := 8) (c2 := 8) (s2 := 246) hx hb (hts (.arrayClass .int) (by decide +kernel)) (ty := .int) rfl hK hP hD hS hA rfl rfl (fun C h => by cases h) (by decide) (by decide) (by show 128 * 4 ≤ 536870912; omega) rfl rfl rfl (Nat.le_of_ble_eq_true rfl) (Nat.le_of_ble_eq_true rfl) dX10_init_63 (fun q8 H hP hD hS => ?_)
  obtain ⟨ad8, ea8⟩ : ∃ z : Nat → Nat, z = uap 7 ad7 (fun _ => q8) := ⟨_, rfl⟩
  obtain ⟨en8, ee8⟩ : ∃ z : Nat → (Nat → Int32) → va_E, z = uap 7 en7 (fun _ _ => .inl (cs 0, 128, .inl (fun _ => 0))) := ⟨_, rfl⟩
  obtain ⟨sg8, es8⟩ : ∃ z : St, z = uap 7 sg7 (fun _ _ => 0) := ⟨_, rfl⟩
  rw [← ea8, ← ee8, ← es8] at hP hD
  refine va_putF (D := D) (ci := 10) (v := .ref q8) (ty := (tyX10 10)) (C := RX10) (T := TX10) (N := 44) hx hb hts fi_X10_init_10 tyX10 tyX10_ok nmX10 hown hK hP hD hS 0 rfl rfl 10 (by decide) (hts (.fieldLink RX10 31 "GhostSignsModel" "texts" "[I") (by decide +kernel)) (fun _ h9 => h9) rfl hin rfl (by decide +kernel) rfl rfl (Nat.le_of_ble_eq_true rfl) dX10_init_65 (fun H locs hP hD hS => ?_)
  rw [List.set_cons_zero] at hP hD
  replace hP := pcons (e := .inr (10, [.int 0, .ref q1, .int 0, .ref q2, .ref q3, .ref q4, .ref q5, .int 0, .ref q6, .ref q7, .ref q8, .null, .null, .null, .null, .null, .null, .int 0, .null, .null, .null, .null, .null, .null, .int 0, .null, .int 0, .null, .null, .null, .int 0, .int 0, .int 0, .null, .null, .null, .null, .int 0, .null, .null, .int 0, .null, .null, .null])) rfl hP
  replace hD := dcons (e := .inr (10, [.int 0, .ref q1, .int 0, .ref q2, .ref q3, .ref q4, .ref q5, .int 0, .ref q6, .ref q7, .ref q8, .null, .null, .null, .null, .null, .null, .int 0, .null, .null, .null, .null, .null, .null, .int 0, .null, .int 0, .null, .null, .null, .int 0, .int 0, .int 0, .null, .null, .null, .null, .int 0, .null, .null, .int 0, .null, .null, .null])) rfl hD
  refine lv_aload_n hx hb dX10_init_68 rfl (lv_at hl 0 rfl) ?_
  refine lv_bipush (v := 16) hx hb dX10_init_69 (by decide) ?_
  refine u_newa2 2 (atype := .boolean) (k := 16) (N' := 16) (n2 := 9) (c2 := 9) (s2 := 262) hx hb (hts (.arrayClass .boolean) (by decide +kernel)) (ty := .boolean) rfl hK hP hD hS hA rfl rfl (fun C h => by cases h) (by decide) (by decide) (by show 16 * 1 ≤ 536870912; omega) rfl rfl rfl (Nat.le_of_ble_eq_true rfl) (Nat.le_of_ble_eq_true rfl) dX10_init_71 (fun q9 H hP hD hS => ?_)
  obtain ⟨ad9, ea9⟩ : ∃ z : Nat → Nat, z = uap 8 ad8 (fun _ => q9) := ⟨_, rfl⟩
  obtain ⟨en9, ee9⟩ : ∃ z : Nat → (Nat → Int32) → va_E, z = uap 8 en8 (fun _ _ => .inl (cs 2, 16, .inl (fun _ => 0))) := ⟨_, rfl⟩
  obtain ⟨sg9, es9⟩ : ∃ z : St, z = uap 8 sg8 (fun _ _ => 0) := ⟨_, rfl⟩
  rw [← ea9, ← ee9, ← es9] at hP hD
  refine va_putF (D := D) (ci := 10) (v := .ref q9) (ty := (tyX10 11)) (C := RX10) (T := TX10) (N := 44) hx hb hts fi_X10_init_10 tyX10 tyX10_ok nmX10 hown hK hP hD hS 0 rfl rfl 11 (by decide) (hts (.fieldLink RX10 34 "GhostSignsModel" "isStruck" "[Z") (by decide +kernel)) (fun _ h9 => h9) rfl hin rfl (by decide +kernel) rfl rfl (Nat.le_of_ble_eq_true rfl) dX10_init_73 (fun H locs hP hD hS => ?_)
  rw [List.set_cons_zero] at hP hD
  replace hP := pcons (e := .inr (10, [.int 0, .ref q1, .int 0, .ref q2, .ref q3, .ref q4, .ref q5, .int 0, .ref q6, .ref q7, .ref q8, .ref q9, .null, .null, .null, .null, .null, .int 0, .null, .null, .null, .null, .null, .null, .int 0, .null, .int 0, .null, .null, .null, .int 0, .int 0, .int 0, .null, .null, .null, .null, .int 0, .null, .null, .int 0, .null, .null, .null])) rfl hP
  replace hD := dcons (e := .inr (10, [.int 0, .ref q1, .int 0, .ref q2, .ref q3, .ref q4, .ref q5, .int 0, .ref q6, .ref q7, .ref q8, .ref q9, .null, .null, .null, .null, .null, .int 0, .null, .null, .null, .null, .null, .null, .int 0, .null, .int 0, .null, .null, .null, .int 0, .int 0, .int 0, .null, .null, .null, .null, .int 0, .null, .null, .int 0, .null, .null, .null])) rfl hD
  refine lv_aload_n hx hb dX10_init_76 rfl (lv_at hl 0 rfl) ?_
  refine lv_bipush (v := 16) hx hb dX10_init_77 (by decide) ?_
  refine u_newa2 0 (atype := .int) (k := 16) (N' := 16) (n2 := 10) (c2 := 10) (s2 := 278) hx hb (hts (.arrayClass .int) (by decide +kernel)) (ty := .int) rfl hK hP hD hS hA rfl rfl (fun C h => by cases h) (by decide) (by decide) (by show 16 * 4 ≤ 536870912; omega) rfl rfl rfl (Nat.le_of_ble_eq_true rfl) (Nat.le_of_ble_eq_true rfl) dX10_init_79 (fun q10 H hP hD hS => ?_)
  obtain ⟨ad10, ea10⟩ : ∃ z : Nat → Nat, z = uap 9 ad9 (fun _ => q10) := ⟨_, rfl⟩
  obtain ⟨en10, ee10⟩ : ∃ z : Nat → (Nat → Int32) → va_E, z = uap 9 en9 (fun _ _ => .inl (cs 0, 16, .inl (fun _ => 0))) := ⟨_, rfl⟩
  obtain ⟨sg10, es10⟩ : ∃ z : St, z = uap 9 sg9 (fun _ _ => 0) := ⟨_, rfl⟩
  rw [← ea10, ← ee10, ← es10] at hP hD
  refine va_putF (D := D) (ci := 10) (v := .ref q10) (ty := (tyX10 12)) (C := RX10) (T := TX10) (N := 44) hx hb hts fi_X10_init_10 tyX10 tyX10_ok nmX10 hown hK hP hD hS 0 rfl rfl 12 (by decide) (hts (.fieldLink RX10 38 "GhostSignsModel" "numbers" "[I") (by decide +kernel)) (fun _ h9 => h9) rfl hin rfl (by decide +kernel) rfl rfl (Nat.le_of_ble_eq_true rfl) dX10_init_81 (fun H locs hP hD hS => ?_)
  rw [List.set_cons_zero] at hP hD
  replace hP := pcons (e := .inr (10, [.int 0, .ref q1, .int 0, .ref q2, .ref q3, .ref q4, .ref q5, .int 0, .ref q6, .ref q7, .ref q8, .ref q9, .ref q10, .null, .null, .null, .null, .int 0, .null, .null, .null, .null, .null, .null, .int 0, .null, .int 0, .null, .null, .null, .int 0, .int 0, .int 0, .null, .null, .null, .null, .int 0, .null, .null, .int 0, .null, .null, .null])) rfl hP
  replace hD := dcons (e := .inr (10, [.int 0, .ref q1, .int 0, .ref q2, .ref q3, .ref q4, .ref q5, .int 0, .ref q6, .ref q7, .ref q8, .ref q9, .ref q10, .null, .null, .null, .null, .int 0, .null, .null, .null, .null, .null, .null, .int 0, .null, .int 0, .null, .null, .null, .int 0, .int 0, .int 0, .null, .null, .null, .null, .int 0, .null, .null, .int 0, .null, .null, .null])) rfl hD
  refine lv_aload_n hx hb dX10_init_84 rfl (lv_at hl 0 rfl) ?_
  refine lv_bipush (v := 16) hx hb dX10_init_85 (by decide) ?_
  refine u_newa2 0 (atype := .int) (k := 16) (N' := 16) (n2 := 11) (c2 := 11) (s2 := 294) hx hb (hts (.arrayClass .int) (by decide +kernel)) (ty := .int) rfl hK hP hD hS hA rfl rfl (fun C h => by cases h) (by decide) (by decide) (by show 16 * 4 ≤ 536870912; omega) rfl rfl rfl (Nat.le_of_ble_eq_true rfl) (Nat.le_of_ble_eq_true rfl) dX10_init_87 (fun q11 H hP hD hS => ?_)
  obtain ⟨ad11, ea11⟩ : ∃ z : Nat → Nat, z = uap 10 ad10 (fun _ => q11) := ⟨_, rfl⟩
  obtain ⟨en11, ee11⟩ : ∃ z : Nat → (Nat → Int32) → va_E, z = uap 10 en10 (fun _ _ => .inl (cs 0, 16, .inl (fun _ => 0))) := ⟨_, rfl⟩
  obtain ⟨sg11, es11⟩ : ∃ z : St, z = uap 10 sg10 (fun _ _ => 0) := ⟨_, rfl⟩
  rw [← ea11, ← ee11, ← es11] at hP hD
  refine va_putF (D := D) (ci := 10) (v := .ref q11) (ty := (tyX10 13)) (C := RX10) (T := TX10) (N := 44) hx hb hts fi_X10_init_10 tyX10 tyX10_ok nmX10 hown hK hP hD hS 0 rfl rfl 13 (by decide) (hts (.fieldLink RX10 41 "GhostSignsModel" "froms" "[I") (by decide +kernel)) (fun _ h9 => h9) rfl hin rfl (by decide +kernel) rfl rfl (Nat.le_of_ble_eq_true rfl) dX10_init_89 (fun H locs hP hD hS => ?_)
  rw [List.set_cons_zero] at hP hD
  replace hP := pcons (e := .inr (10, [.int 0, .ref q1, .int 0, .ref q2, .ref q3, .ref q4, .ref q5, .int 0, .ref q6, .ref q7, .ref q8, .ref q9, .ref q10, .ref q11, .null, .null, .null, .int 0, .null, .null, .null, .null, .null, .null, .int 0, .null, .int 0, .null, .null, .null, .int 0, .int 0, .int 0, .null, .null, .null, .null, .int 0, .null, .null, .int 0, .null, .null, .null])) rfl hP
  replace hD := dcons (e := .inr (10, [.int 0, .ref q1, .int 0, .ref q2, .ref q3, .ref q4, .ref q5, .int 0, .ref q6, .ref q7, .ref q8, .ref q9, .ref q10, .ref q11, .null, .null, .null, .int 0, .null, .null, .null, .null, .null, .null, .int 0, .null, .int 0, .null, .null, .null, .int 0, .int 0, .int 0, .null, .null, .null, .null, .int 0, .null, .null, .int 0, .null, .null, .null])) rfl hD
  refine lv_aload_n hx hb dX10_init_92 rfl (lv_at hl 0 rfl) ?_
  refine lv_bipush (v := 16) hx hb dX10_init_93 (by decide) ?_
  refine u_newa2 0 (atype := .int) (k := 16) (N' := 16) (n2 := 12) (c2 := 12) (s2 := 310) hx hb (hts (.arrayClass .int) (by decide +kernel)) (ty := .int) rfl hK hP hD hS hA rfl rfl (fun C h => by cases h) (by decide) (by decide) (by show 16 * 4 ≤ 536870912; omega) rfl rfl rfl (Nat.le_of_ble_eq_true rfl) (Nat.le_of_ble_eq_true rfl) dX10_init_95 (fun q12 H hP hD hS => ?_)
  obtain ⟨ad12, ea12⟩ : ∃ z : Nat → Nat, z = uap 11 ad11 (fun _ => q12) := ⟨_, rfl⟩
  obtain ⟨en12, ee12⟩ : ∃ z : Nat → (Nat → Int32) → va_E, z = uap 11 en11 (fun _ _ => .inl (cs 0, 16, .inl (fun _ => 0))) := ⟨_, rfl⟩
  obtain ⟨sg12, es12⟩ : ∃ z : St, z = uap 11 sg11 (fun _ _ => 0) := ⟨_, rfl⟩
  rw [← ea12, ← ee12, ← es12] at hP hD
  refine va_putF (D := D) (ci := 10) (v := .ref q12) (ty := (tyX10 14)) (C := RX10) (T := TX10) (N := 44) hx hb hts fi_X10_init_10 tyX10 tyX10_ok nmX10 hown hK hP hD hS 0 rfl rfl 14 (by decide) (hts (.fieldLink RX10 44 "GhostSignsModel" "tos" "[I") (by decide +kernel)) (fun _ h9 => h9) rfl hin rfl (by decide +kernel) rfl rfl (Nat.le_of_ble_eq_true rfl) dX10_init_97 (fun H locs hP hD hS => ?_)
  rw [List.set_cons_zero] at hP hD
  replace hP := pcons (e := .inr (10, [.int 0, .ref q1, .int 0, .ref q2, .ref q3, .ref q4, .ref q5, .int 0, .ref q6, .ref q7, .ref q8, .ref q9, .ref q10, .ref q11, .ref q12, .null, .null, .int 0, .null, .null, .null, .null, .null, .null, .int 0, .null, .int 0, .null, .null, .null, .int 0, .int 0, .int 0, .null, .null, .null, .null, .int 0, .null, .null, .int 0, .null, .null, .null])) rfl hP
  replace hD := dcons (e := .inr (10, [.int 0, .ref q1, .int 0, .ref q2, .ref q3, .ref q4, .ref q5, .int 0, .ref q6, .ref q7, .ref q8, .ref q9, .ref q10, .ref q11, .ref q12, .null, .null, .int 0, .null, .null, .null, .null, .null, .null, .int 0, .null, .int 0, .null, .null, .null, .int 0, .int 0, .int 0, .null, .null, .null, .null, .int 0, .null, .null, .int 0, .null, .null, .null])) rfl hD
  refine lv_aload_n hx hb dX10_init_100 rfl (lv_at hl 0 rfl) ?_
  refine lv_bipush (v := 16) hx hb dX10_init_101 (by decide) ?_
  refine u_newa2 0 (atype := .int) (k := 16) (N' := 16) (n2 := 13) (c2 := 13) (s2 := 326) hx hb (hts (.arrayClass .int) (by decide +kernel)) (ty := .int) rfl hK hP hD hS hA rfl rfl (fun C h => by cases h) (by decide) (by decide) (by show 16 * 4 ≤ 536870912; omega) rfl rfl rfl (Nat.le_of_ble_eq_true rfl) (Nat.le_of_ble_eq_true rfl) dX10_init_103 (fun q13 H hP hD hS => ?_)
  obtain ⟨ad13, ea13⟩ : ∃ z : Nat → Nat, z = uap 12 ad12 (fun _ => q13) := ⟨_, rfl⟩
  obtain ⟨en13, ee13⟩ : ∃ z : Nat → (Nat → Int32) → va_E, z = uap 12 en12 (fun _ _ => .inl (cs 0, 16, .inl (fun _ => 0))) := ⟨_, rfl⟩
  obtain ⟨sg13, es13⟩ : ∃ z : St, z = uap 12 sg12 (fun _ _ => 0) := ⟨_, rfl⟩
  rw [← ea13, ← ee13, ← es13] at hP hD
  refine va_putF (D := D) (ci := 10) (v := .ref q13) (ty := (tyX10 15)) (C := RX10) (T := TX10) (N := 44) hx hb hts fi_X10_init_10 tyX10 tyX10_ok nmX10 hown hK hP hD hS 0 rfl rfl 15 (by decide) (hts (.fieldLink RX10 47 "GhostSignsModel" "ofs" "[I") (by decide +kernel)) (fun _ h9 => h9) rfl hin rfl (by decide +kernel) rfl rfl (Nat.le_of_ble_eq_true rfl) dX10_init_105 (fun H locs hP hD hS => ?_)
  rw [List.set_cons_zero] at hP hD
  replace hP := pcons (e := .inr (10, [.int 0, .ref q1, .int 0, .ref q2, .ref q3, .ref q4, .ref q5, .int 0, .ref q6, .ref q7, .ref q8, .ref q9, .ref q10, .ref q11, .ref q12, .ref q13, .null, .int 0, .null, .null, .null, .null, .null, .null, .int 0, .null, .int 0, .null, .null, .null, .int 0, .int 0, .int 0, .null, .null, .null, .null, .int 0, .null, .null, .int 0, .null, .null, .null])) rfl hP
  replace hD := dcons (e := .inr (10, [.int 0, .ref q1, .int 0, .ref q2, .ref q3, .ref q4, .ref q5, .int 0, .ref q6, .ref q7, .ref q8, .ref q9, .ref q10, .ref q11, .ref q12, .ref q13, .null, .int 0, .null, .null, .null, .null, .null, .null, .int 0, .null, .int 0, .null, .null, .null, .int 0, .int 0, .int 0, .null, .null, .null, .null, .int 0, .null, .null, .int 0, .null, .null, .null])) rfl hD
  refine lv_aload_n hx hb dX10_init_108 rfl (lv_at hl 0 rfl) ?_
  refine lv_sipush (v := 600) hx hb dX10_init_109 (by decide) ?_
  refine u_newa2 0 (atype := .int) (k := 600) (N' := 600) (n2 := 14) (c2 := 14) (s2 := 926) hx hb (hts (.arrayClass .int) (by decide +kernel)) (ty := .int) rfl hK hP hD hS hA rfl rfl (fun C h => by cases h) (by decide) (by decide) (by show 600 * 4 ≤ 536870912; omega) rfl rfl rfl (Nat.le_of_ble_eq_true rfl) (Nat.le_of_ble_eq_true rfl) dX10_init_112 (fun q14 H hP hD hS => ?_)
  obtain ⟨ad14, ea14⟩ : ∃ z : Nat → Nat, z = uap 13 ad13 (fun _ => q14) := ⟨_, rfl⟩
  obtain ⟨en14, ee14⟩ : ∃ z : Nat → (Nat → Int32) → va_E, z = uap 13 en13 (fun _ _ => .inl (cs 0, 600, .inl (fun _ => 0))) := ⟨_, rfl⟩
  obtain ⟨sg14, es14⟩ : ∃ z : St, z = uap 13 sg13 (fun _ _ => 0) := ⟨_, rfl⟩
  rw [← ea14, ← ee14, ← es14] at hP hD
  refine va_putF (D := D) (ci := 10) (v := .ref q14) (ty := (tyX10 16)) (C := RX10) (T := TX10) (N := 44) hx hb hts fi_X10_init_10 tyX10 tyX10_ok nmX10 hown hK hP hD hS 0 rfl rfl 16 (by decide) (hts (.fieldLink RX10 50 "GhostSignsModel" "wall" "[I") (by decide +kernel)) (fun _ h9 => h9) rfl hin rfl (by decide +kernel) rfl rfl (Nat.le_of_ble_eq_true rfl) dX10_init_114 (fun H locs hP hD hS => ?_)
  rw [List.set_cons_zero] at hP hD
  replace hP := pcons (e := .inr (10, [.int 0, .ref q1, .int 0, .ref q2, .ref q3, .ref q4, .ref q5, .int 0, .ref q6, .ref q7, .ref q8, .ref q9, .ref q10, .ref q11, .ref q12, .ref q13, .ref q14, .int 0, .null, .null, .null, .null, .null, .null, .int 0, .null, .int 0, .null, .null, .null, .int 0, .int 0, .int 0, .null, .null, .null, .null, .int 0, .null, .null, .int 0, .null, .null, .null])) rfl hP
  replace hD := dcons (e := .inr (10, [.int 0, .ref q1, .int 0, .ref q2, .ref q3, .ref q4, .ref q5, .int 0, .ref q6, .ref q7, .ref q8, .ref q9, .ref q10, .ref q11, .ref q12, .ref q13, .ref q14, .int 0, .null, .null, .null, .null, .null, .null, .int 0, .null, .int 0, .null, .null, .null, .int 0, .int 0, .int 0, .null, .null, .null, .null, .int 0, .null, .null, .int 0, .null, .null, .null])) rfl hD
  refine lv_aload_n hx hb dX10_init_117 rfl (lv_at hl 0 rfl) ?_
  refine lv_sipush (v := 160) hx hb dX10_init_118 (by decide) ?_
  refine u_newa2 0 (atype := .int) (k := 160) (N' := 160) (n2 := 15) (c2 := 15) (s2 := 1086) hx hb (hts (.arrayClass .int) (by decide +kernel)) (ty := .int) rfl hK hP hD hS hA rfl rfl (fun C h => by cases h) (by decide) (by decide) (by show 160 * 4 ≤ 536870912; omega) rfl rfl rfl (Nat.le_of_ble_eq_true rfl) (Nat.le_of_ble_eq_true rfl) dX10_init_121 (fun q15 H hP hD hS => ?_)
  obtain ⟨ad15, ea15⟩ : ∃ z : Nat → Nat, z = uap 14 ad14 (fun _ => q15) := ⟨_, rfl⟩
  obtain ⟨en15, ee15⟩ : ∃ z : Nat → (Nat → Int32) → va_E, z = uap 14 en14 (fun _ _ => .inl (cs 0, 160, .inl (fun _ => 0))) := ⟨_, rfl⟩
  obtain ⟨sg15, es15⟩ : ∃ z : St, z = uap 14 sg14 (fun _ _ => 0) := ⟨_, rfl⟩
  rw [← ea15, ← ee15, ← es15] at hP hD
  refine va_putF (D := D) (ci := 10) (v := .ref q15) (ty := (tyX10 18)) (C := RX10) (T := TX10) (N := 44) hx hb hts fi_X10_init_10 tyX10 tyX10_ok nmX10 hown hK hP hD hS 0 rfl rfl 18 (by decide) (hts (.fieldLink RX10 53 "GhostSignsModel" "rivalRow" "[I") (by decide +kernel)) (fun _ h9 => h9) rfl hin rfl (by decide +kernel) rfl rfl (Nat.le_of_ble_eq_true rfl) dX10_init_123 (fun H locs hP hD hS => ?_)
  rw [List.set_cons_zero] at hP hD
  replace hP := pcons (e := .inr (10, [.int 0, .ref q1, .int 0, .ref q2, .ref q3, .ref q4, .ref q5, .int 0, .ref q6, .ref q7, .ref q8, .ref q9, .ref q10, .ref q11, .ref q12, .ref q13, .ref q14, .int 0, .ref q15, .null, .null, .null, .null, .null, .int 0, .null, .int 0, .null, .null, .null, .int 0, .int 0, .int 0, .null, .null, .null, .null, .int 0, .null, .null, .int 0, .null, .null, .null])) rfl hP
  replace hD := dcons (e := .inr (10, [.int 0, .ref q1, .int 0, .ref q2, .ref q3, .ref q4, .ref q5, .int 0, .ref q6, .ref q7, .ref q8, .ref q9, .ref q10, .ref q11, .ref q12, .ref q13, .ref q14, .int 0, .ref q15, .null, .null, .null, .null, .null, .int 0, .null, .int 0, .null, .null, .null, .int 0, .int 0, .int 0, .null, .null, .null, .null, .int 0, .null, .null, .int 0, .null, .null, .null])) rfl hD
  refine lv_aload_n hx hb dX10_init_126 rfl (lv_at hl 0 rfl) ?_
  refine lv_iconst (v := 4) hx hb dX10_init_127 (by decide) ?_
  refine u_newa2 0 (atype := .int) (k := 4) (N' := 4) (n2 := 16) (c2 := 16) (s2 := 1090) hx hb (hts (.arrayClass .int) (by decide +kernel)) (ty := .int) rfl hK hP hD hS hA rfl rfl (fun C h => by cases h) (by decide) (by decide) (by show 4 * 4 ≤ 536870912; omega) rfl rfl rfl (Nat.le_of_ble_eq_true rfl) (Nat.le_of_ble_eq_true rfl) dX10_init_128 (fun q16 H hP hD hS => ?_)
  obtain ⟨ad16, ea16⟩ : ∃ z : Nat → Nat, z = uap 15 ad15 (fun _ => q16) := ⟨_, rfl⟩
  obtain ⟨en16, ee16⟩ : ∃ z : Nat → (Nat → Int32) → va_E, z = uap 15 en15 (fun _ _ => .inl (cs 0, 4, .inl (fun _ => 0))) := ⟨_, rfl⟩
  obtain ⟨sg16, es16⟩ : ∃ z : St, z = uap 15 sg15 (fun _ _ => 0) := ⟨_, rfl⟩
  rw [← ea16, ← ee16, ← es16] at hP hD
  refine va_putF (D := D) (ci := 10) (v := .ref q16) (ty := (tyX10 19)) (C := RX10) (T := TX10) (N := 44) hx hb hts fi_X10_init_10 tyX10 tyX10_ok nmX10 hown hK hP hD hS 0 rfl rfl 19 (by decide) (hts (.fieldLink RX10 56 "GhostSignsModel" "layers" "[I") (by decide +kernel)) (fun _ h9 => h9) rfl hin rfl (by decide +kernel) rfl rfl (Nat.le_of_ble_eq_true rfl) dX10_init_130 (fun H locs hP hD hS => ?_)
  rw [List.set_cons_zero] at hP hD
  replace hP := pcons (e := .inr (10, [.int 0, .ref q1, .int 0, .ref q2, .ref q3, .ref q4, .ref q5, .int 0, .ref q6, .ref q7, .ref q8, .ref q9, .ref q10, .ref q11, .ref q12, .ref q13, .ref q14, .int 0, .ref q15, .ref q16, .null, .null, .null, .null, .int 0, .null, .int 0, .null, .null, .null, .int 0, .int 0, .int 0, .null, .null, .null, .null, .int 0, .null, .null, .int 0, .null, .null, .null])) rfl hP
  replace hD := dcons (e := .inr (10, [.int 0, .ref q1, .int 0, .ref q2, .ref q3, .ref q4, .ref q5, .int 0, .ref q6, .ref q7, .ref q8, .ref q9, .ref q10, .ref q11, .ref q12, .ref q13, .ref q14, .int 0, .ref q15, .ref q16, .null, .null, .null, .null, .int 0, .null, .int 0, .null, .null, .null, .int 0, .int 0, .int 0, .null, .null, .null, .null, .int 0, .null, .null, .int 0, .null, .null, .null])) rfl hD
  refine lv_aload_n hx hb dX10_init_133 rfl (lv_at hl 0 rfl) ?_
  refine lv_bipush (v := 12) hx hb dX10_init_134 (by decide) ?_
  refine u_newa2 0 (atype := .int) (k := 12) (N' := 12) (n2 := 17) (c2 := 17) (s2 := 1102) hx hb (hts (.arrayClass .int) (by decide +kernel)) (ty := .int) rfl hK hP hD hS hA rfl rfl (fun C h => by cases h) (by decide) (by decide) (by show 12 * 4 ≤ 536870912; omega) rfl rfl rfl (Nat.le_of_ble_eq_true rfl) (Nat.le_of_ble_eq_true rfl) dX10_init_136 (fun q17 H hP hD hS => ?_)
  obtain ⟨ad17, ea17⟩ : ∃ z : Nat → Nat, z = uap 16 ad16 (fun _ => q17) := ⟨_, rfl⟩
  obtain ⟨en17, ee17⟩ : ∃ z : Nat → (Nat → Int32) → va_E, z = uap 16 en16 (fun _ _ => .inl (cs 0, 12, .inl (fun _ => 0))) := ⟨_, rfl⟩
  obtain ⟨sg17, es17⟩ : ∃ z : St, z = uap 16 sg16 (fun _ _ => 0) := ⟨_, rfl⟩
  rw [← ea17, ← ee17, ← es17] at hP hD
  refine va_putF (D := D) (ci := 10) (v := .ref q17) (ty := (tyX10 20)) (C := RX10) (T := TX10) (N := 44) hx hb hts fi_X10_init_10 tyX10 tyX10_ok nmX10 hown hK hP hD hS 0 rfl rfl 20 (by decide) (hts (.fieldLink RX10 59 "GhostSignsModel" "layerWord" "[I") (by decide +kernel)) (fun _ h9 => h9) rfl hin rfl (by decide +kernel) rfl rfl (Nat.le_of_ble_eq_true rfl) dX10_init_138 (fun H locs hP hD hS => ?_)
  rw [List.set_cons_zero] at hP hD
  replace hP := pcons (e := .inr (10, [.int 0, .ref q1, .int 0, .ref q2, .ref q3, .ref q4, .ref q5, .int 0, .ref q6, .ref q7, .ref q8, .ref q9, .ref q10, .ref q11, .ref q12, .ref q13, .ref q14, .int 0, .ref q15, .ref q16, .ref q17, .null, .null, .null, .int 0, .null, .int 0, .null, .null, .null, .int 0, .int 0, .int 0, .null, .null, .null, .null, .int 0, .null, .null, .int 0, .null, .null, .null])) rfl hP
  replace hD := dcons (e := .inr (10, [.int 0, .ref q1, .int 0, .ref q2, .ref q3, .ref q4, .ref q5, .int 0, .ref q6, .ref q7, .ref q8, .ref q9, .ref q10, .ref q11, .ref q12, .ref q13, .ref q14, .int 0, .ref q15, .ref q16, .ref q17, .null, .null, .null, .int 0, .null, .int 0, .null, .null, .null, .int 0, .int 0, .int 0, .null, .null, .null, .null, .int 0, .null, .null, .int 0, .null, .null, .null])) rfl hD
  refine lv_aload_n hx hb dX10_init_141 rfl (lv_at hl 0 rfl) ?_
  refine lv_bipush (v := 12) hx hb dX10_init_142 (by decide) ?_
  refine u_newa2 0 (atype := .int) (k := 12) (N' := 12) (n2 := 18) (c2 := 18) (s2 := 1114) hx hb (hts (.arrayClass .int) (by decide +kernel)) (ty := .int) rfl hK hP hD hS hA rfl rfl (fun C h => by cases h) (by decide) (by decide) (by show 12 * 4 ≤ 536870912; omega) rfl rfl rfl (Nat.le_of_ble_eq_true rfl) (Nat.le_of_ble_eq_true rfl) dX10_init_144 (fun q18 H hP hD hS => ?_)
  obtain ⟨ad18, ea18⟩ : ∃ z : Nat → Nat, z = uap 17 ad17 (fun _ => q18) := ⟨_, rfl⟩
  obtain ⟨en18, ee18⟩ : ∃ z : Nat → (Nat → Int32) → va_E, z = uap 17 en17 (fun _ _ => .inl (cs 0, 12, .inl (fun _ => 0))) := ⟨_, rfl⟩
  obtain ⟨sg18, es18⟩ : ∃ z : St, z = uap 17 sg17 (fun _ _ => 0) := ⟨_, rfl⟩
  rw [← ea18, ← ee18, ← es18] at hP hD
  refine va_putF (D := D) (ci := 10) (v := .ref q18) (ty := (tyX10 21)) (C := RX10) (T := TX10) (N := 44) hx hb hts fi_X10_init_10 tyX10 tyX10_ok nmX10 hown hK hP hD hS 0 rfl rfl 21 (by decide) (hts (.fieldLink RX10 62 "GhostSignsModel" "layerSlot" "[I") (by decide +kernel)) (fun _ h9 => h9) rfl hin rfl (by decide +kernel) rfl rfl (Nat.le_of_ble_eq_true rfl) dX10_init_146 (fun H locs hP hD hS => ?_)
  rw [List.set_cons_zero] at hP hD
  replace hP := pcons (e := .inr (10, [.int 0, .ref q1, .int 0, .ref q2, .ref q3, .ref q4, .ref q5, .int 0, .ref q6, .ref q7, .ref q8, .ref q9, .ref q10, .ref q11, .ref q12, .ref q13, .ref q14, .int 0, .ref q15, .ref q16, .ref q17, .ref q18, .null, .null, .int 0, .null, .int 0, .null, .null, .null, .int 0, .int 0, .int 0, .null, .null, .null, .null, .int 0, .null, .null, .int 0, .null, .null, .null])) rfl hP
  replace hD := dcons (e := .inr (10, [.int 0, .ref q1, .int 0, .ref q2, .ref q3, .ref q4, .ref q5, .int 0, .ref q6, .ref q7, .ref q8, .ref q9, .ref q10, .ref q11, .ref q12, .ref q13, .ref q14, .int 0, .ref q15, .ref q16, .ref q17, .ref q18, .null, .null, .int 0, .null, .int 0, .null, .null, .null, .int 0, .int 0, .int 0, .null, .null, .null, .null, .int 0, .null, .null, .int 0, .null, .null, .null])) rfl hD
  refine lv_aload_n hx hb dX10_init_149 rfl (lv_at hl 0 rfl) ?_
  refine lv_bipush (v := 12) hx hb dX10_init_150 (by decide) ?_
  refine u_newa2 0 (atype := .int) (k := 12) (N' := 12) (n2 := 19) (c2 := 19) (s2 := 1126) hx hb (hts (.arrayClass .int) (by decide +kernel)) (ty := .int) rfl hK hP hD hS hA rfl rfl (fun C h => by cases h) (by decide) (by decide) (by show 12 * 4 ≤ 536870912; omega) rfl rfl rfl (Nat.le_of_ble_eq_true rfl) (Nat.le_of_ble_eq_true rfl) dX10_init_152 (fun q19 H hP hD hS => ?_)
  obtain ⟨ad19, ea19⟩ : ∃ z : Nat → Nat, z = uap 18 ad18 (fun _ => q19) := ⟨_, rfl⟩
  obtain ⟨en19, ee19⟩ : ∃ z : Nat → (Nat → Int32) → va_E, z = uap 18 en18 (fun _ _ => .inl (cs 0, 12, .inl (fun _ => 0))) := ⟨_, rfl⟩
  obtain ⟨sg19, es19⟩ : ∃ z : St, z = uap 18 sg18 (fun _ _ => 0) := ⟨_, rfl⟩
  rw [← ea19, ← ee19, ← es19] at hP hD
  refine va_putF (D := D) (ci := 10) (v := .ref q19) (ty := (tyX10 22)) (C := RX10) (T := TX10) (N := 44) hx hb hts fi_X10_init_10 tyX10 tyX10_ok nmX10 hown hK hP hD hS 0 rfl rfl 22 (by decide) (hts (.fieldLink RX10 65 "GhostSignsModel" "layerColour" "[I") (by decide +kernel)) (fun _ h9 => h9) rfl hin rfl (by decide +kernel) rfl rfl (Nat.le_of_ble_eq_true rfl) dX10_init_154 (fun H locs hP hD hS => ?_)
  rw [List.set_cons_zero] at hP hD
  replace hP := pcons (e := .inr (10, [.int 0, .ref q1, .int 0, .ref q2, .ref q3, .ref q4, .ref q5, .int 0, .ref q6, .ref q7, .ref q8, .ref q9, .ref q10, .ref q11, .ref q12, .ref q13, .ref q14, .int 0, .ref q15, .ref q16, .ref q17, .ref q18, .ref q19, .null, .int 0, .null, .int 0, .null, .null, .null, .int 0, .int 0, .int 0, .null, .null, .null, .null, .int 0, .null, .null, .int 0, .null, .null, .null])) rfl hP
  replace hD := dcons (e := .inr (10, [.int 0, .ref q1, .int 0, .ref q2, .ref q3, .ref q4, .ref q5, .int 0, .ref q6, .ref q7, .ref q8, .ref q9, .ref q10, .ref q11, .ref q12, .ref q13, .ref q14, .int 0, .ref q15, .ref q16, .ref q17, .ref q18, .ref q19, .null, .int 0, .null, .int 0, .null, .null, .null, .int 0, .int 0, .int 0, .null, .null, .null, .null, .int 0, .null, .null, .int 0, .null, .null, .null])) rfl hD
  refine lv_aload_n hx hb dX10_init_157 rfl (lv_at hl 0 rfl) ?_
  refine lv_bipush (v := 6) hx hb dX10_init_158 (by decide) ?_
  refine u_newa2 0 (atype := .int) (k := 6) (N' := 6) (n2 := 20) (c2 := 20) (s2 := 1132) hx hb (hts (.arrayClass .int) (by decide +kernel)) (ty := .int) rfl hK hP hD hS hA rfl rfl (fun C h => by cases h) (by decide) (by decide) (by show 6 * 4 ≤ 536870912; omega) rfl rfl rfl (Nat.le_of_ble_eq_true rfl) (Nat.le_of_ble_eq_true rfl) dX10_init_160 (fun q20 H hP hD hS => ?_)
  obtain ⟨ad20, ea20⟩ : ∃ z : Nat → Nat, z = uap 19 ad19 (fun _ => q20) := ⟨_, rfl⟩
  obtain ⟨en20, ee20⟩ : ∃ z : Nat → (Nat → Int32) → va_E, z = uap 19 en19 (fun _ _ => .inl (cs 0, 6, .inl (fun _ => 0))) := ⟨_, rfl⟩
  obtain ⟨sg20, es20⟩ : ∃ z : St, z = uap 19 sg19 (fun _ _ => 0) := ⟨_, rfl⟩
  rw [← ea20, ← ee20, ← es20] at hP hD
  refine va_putF (D := D) (ci := 10) (v := .ref q20) (ty := (tyX10 23)) (C := RX10) (T := TX10) (N := 44) hx hb hts fi_X10_init_10 tyX10 tyX10_ok nmX10 hown hK hP hD hS 0 rfl rfl 23 (by decide) (hts (.fieldLink RX10 68 "GhostSignsModel" "two" "[I") (by decide +kernel)) (fun _ h9 => h9) rfl hin rfl (by decide +kernel) rfl rfl (Nat.le_of_ble_eq_true rfl) dX10_init_162 (fun H locs hP hD hS => ?_)
  rw [List.set_cons_zero] at hP hD
  replace hP := pcons (e := .inr (10, [.int 0, .ref q1, .int 0, .ref q2, .ref q3, .ref q4, .ref q5, .int 0, .ref q6, .ref q7, .ref q8, .ref q9, .ref q10, .ref q11, .ref q12, .ref q13, .ref q14, .int 0, .ref q15, .ref q16, .ref q17, .ref q18, .ref q19, .ref q20, .int 0, .null, .int 0, .null, .null, .null, .int 0, .int 0, .int 0, .null, .null, .null, .null, .int 0, .null, .null, .int 0, .null, .null, .null])) rfl hP
  replace hD := dcons (e := .inr (10, [.int 0, .ref q1, .int 0, .ref q2, .ref q3, .ref q4, .ref q5, .int 0, .ref q6, .ref q7, .ref q8, .ref q9, .ref q10, .ref q11, .ref q12, .ref q13, .ref q14, .int 0, .ref q15, .ref q16, .ref q17, .ref q18, .ref q19, .ref q20, .int 0, .null, .int 0, .null, .null, .null, .int 0, .int 0, .int 0, .null, .null, .null, .null, .int 0, .null, .null, .int 0, .null, .null, .null])) rfl hD
  refine lv_aload_n hx hb dX10_init_165 rfl (lv_at hl 0 rfl) ?_
  refine lv_bipush (v := 10) hx hb dX10_init_166 (by decide) ?_
  refine u_newa2 0 (atype := .int) (k := 10) (N' := 10) (n2 := 21) (c2 := 21) (s2 := 1142) hx hb (hts (.arrayClass .int) (by decide +kernel)) (ty := .int) rfl hK hP hD hS hA rfl rfl (fun C h => by cases h) (by decide) (by decide) (by show 10 * 4 ≤ 536870912; omega) rfl rfl rfl (Nat.le_of_ble_eq_true rfl) (Nat.le_of_ble_eq_true rfl) dX10_init_168 (fun q21 H hP hD hS => ?_)
  obtain ⟨ad21, ea21⟩ : ∃ z : Nat → Nat, z = uap 20 ad20 (fun _ => q21) := ⟨_, rfl⟩
  obtain ⟨en21, ee21⟩ : ∃ z : Nat → (Nat → Int32) → va_E, z = uap 20 en20 (fun _ _ => .inl (cs 0, 10, .inl (fun _ => 0))) := ⟨_, rfl⟩
  obtain ⟨sg21, es21⟩ : ∃ z : St, z = uap 20 sg20 (fun _ _ => 0) := ⟨_, rfl⟩
  rw [← ea21, ← ee21, ← es21] at hP hD
  refine va_putF (D := D) (ci := 10) (v := .ref q21) (ty := (tyX10 25)) (C := RX10) (T := TX10) (N := 44) hx hb hts fi_X10_init_10 tyX10 tyX10_ok nmX10 hown hK hP hD hS 0 rfl rfl 25 (by decide) (hts (.fieldLink RX10 71 "GhostSignsModel" "had" "[I") (by decide +kernel)) (fun _ h9 => h9) rfl hin rfl (by decide +kernel) rfl rfl (Nat.le_of_ble_eq_true rfl) dX10_init_170 (fun H locs hP hD hS => ?_)
  rw [List.set_cons_zero] at hP hD
  replace hP := pcons (e := .inr (10, [.int 0, .ref q1, .int 0, .ref q2, .ref q3, .ref q4, .ref q5, .int 0, .ref q6, .ref q7, .ref q8, .ref q9, .ref q10, .ref q11, .ref q12, .ref q13, .ref q14, .int 0, .ref q15, .ref q16, .ref q17, .ref q18, .ref q19, .ref q20, .int 0, .ref q21, .int 0, .null, .null, .null, .int 0, .int 0, .int 0, .null, .null, .null, .null, .int 0, .null, .null, .int 0, .null, .null, .null])) rfl hP
  replace hD := dcons (e := .inr (10, [.int 0, .ref q1, .int 0, .ref q2, .ref q3, .ref q4, .ref q5, .int 0, .ref q6, .ref q7, .ref q8, .ref q9, .ref q10, .ref q11, .ref q12, .ref q13, .ref q14, .int 0, .ref q15, .ref q16, .ref q17, .ref q18, .ref q19, .ref q20, .int 0, .ref q21, .int 0, .null, .null, .null, .int 0, .int 0, .int 0, .null, .null, .null, .null, .int 0, .null, .null, .int 0, .null, .null, .null])) rfl hD
  refine lv_aload_n hx hb dX10_init_173 rfl (lv_at hl 0 rfl) ?_
  refine lv_bipush (v := 8) hx hb dX10_init_174 (by decide) ?_
  refine u_newa2 0 (atype := .int) (k := 8) (N' := 8) (n2 := 22) (c2 := 22) (s2 := 1150) hx hb (hts (.arrayClass .int) (by decide +kernel)) (ty := .int) rfl hK hP hD hS hA rfl rfl (fun C h => by cases h) (by decide) (by decide) (by show 8 * 4 ≤ 536870912; omega) rfl rfl rfl (Nat.le_of_ble_eq_true rfl) (Nat.le_of_ble_eq_true rfl) dX10_init_176 (fun q22 H hP hD hS => ?_)
  obtain ⟨ad22, ea22⟩ : ∃ z : Nat → Nat, z = uap 21 ad21 (fun _ => q22) := ⟨_, rfl⟩
  obtain ⟨en22, ee22⟩ : ∃ z : Nat → (Nat → Int32) → va_E, z = uap 21 en21 (fun _ _ => .inl (cs 0, 8, .inl (fun _ => 0))) := ⟨_, rfl⟩
  obtain ⟨sg22, es22⟩ : ∃ z : St, z = uap 21 sg21 (fun _ _ => 0) := ⟨_, rfl⟩
  rw [← ea22, ← ee22, ← es22] at hP hD
  refine va_putF (D := D) (ci := 10) (v := .ref q22) (ty := (tyX10 27)) (C := RX10) (T := TX10) (N := 44) hx hb hts fi_X10_init_10 tyX10 tyX10_ok nmX10 hown hK hP hD hS 0 rfl rfl 27 (by decide) (hts (.fieldLink RX10 74 "GhostSignsModel" "newYear" "[I") (by decide +kernel)) (fun _ h9 => h9) rfl hin rfl (by decide +kernel) rfl rfl (Nat.le_of_ble_eq_true rfl) dX10_init_178 (fun H locs hP hD hS => ?_)
  rw [List.set_cons_zero] at hP hD
  replace hP := pcons (e := .inr (10, [.int 0, .ref q1, .int 0, .ref q2, .ref q3, .ref q4, .ref q5, .int 0, .ref q6, .ref q7, .ref q8, .ref q9, .ref q10, .ref q11, .ref q12, .ref q13, .ref q14, .int 0, .ref q15, .ref q16, .ref q17, .ref q18, .ref q19, .ref q20, .int 0, .ref q21, .int 0, .ref q22, .null, .null, .int 0, .int 0, .int 0, .null, .null, .null, .null, .int 0, .null, .null, .int 0, .null, .null, .null])) rfl hP
  replace hD := dcons (e := .inr (10, [.int 0, .ref q1, .int 0, .ref q2, .ref q3, .ref q4, .ref q5, .int 0, .ref q6, .ref q7, .ref q8, .ref q9, .ref q10, .ref q11, .ref q12, .ref q13, .ref q14, .int 0, .ref q15, .ref q16, .ref q17, .ref q18, .ref q19, .ref q20, .int 0, .ref q21, .int 0, .ref q22, .null, .null, .int 0, .int 0, .int 0, .null, .null, .null, .null, .int 0, .null, .null, .int 0, .null, .null, .null])) rfl hD
  refine lv_aload_n hx hb dX10_init_181 rfl (lv_at hl 0 rfl) ?_
  refine lv_bipush (v := 8) hx hb dX10_init_182 (by decide) ?_
  refine u_newa2 0 (atype := .int) (k := 8) (N' := 8) (n2 := 23) (c2 := 23) (s2 := 1158) hx hb (hts (.arrayClass .int) (by decide +kernel)) (ty := .int) rfl hK hP hD hS hA rfl rfl (fun C h => by cases h) (by decide) (by decide) (by show 8 * 4 ≤ 536870912; omega) rfl rfl rfl (Nat.le_of_ble_eq_true rfl) (Nat.le_of_ble_eq_true rfl) dX10_init_184 (fun q23 H hP hD hS => ?_)
  obtain ⟨ad23, ea23⟩ : ∃ z : Nat → Nat, z = uap 22 ad22 (fun _ => q23) := ⟨_, rfl⟩
  obtain ⟨en23, ee23⟩ : ∃ z : Nat → (Nat → Int32) → va_E, z = uap 22 en22 (fun _ _ => .inl (cs 0, 8, .inl (fun _ => 0))) := ⟨_, rfl⟩
  obtain ⟨sg23, es23⟩ : ∃ z : St, z = uap 22 sg22 (fun _ _ => 0) := ⟨_, rfl⟩
  rw [← ea23, ← ee23, ← es23] at hP hD
  refine va_putF (D := D) (ci := 10) (v := .ref q23) (ty := (tyX10 28)) (C := RX10) (T := TX10) (N := 44) hx hb hts fi_X10_init_10 tyX10 tyX10_ok nmX10 hown hK hP hD hS 0 rfl rfl 28 (by decide) (hts (.fieldLink RX10 77 "GhostSignsModel" "newBy" "[I") (by decide +kernel)) (fun _ h9 => h9) rfl hin rfl (by decide +kernel) rfl rfl (Nat.le_of_ble_eq_true rfl) dX10_init_186 (fun H locs hP hD hS => ?_)
  rw [List.set_cons_zero] at hP hD
  replace hP := pcons (e := .inr (10, [.int 0, .ref q1, .int 0, .ref q2, .ref q3, .ref q4, .ref q5, .int 0, .ref q6, .ref q7, .ref q8, .ref q9, .ref q10, .ref q11, .ref q12, .ref q13, .ref q14, .int 0, .ref q15, .ref q16, .ref q17, .ref q18, .ref q19, .ref q20, .int 0, .ref q21, .int 0, .ref q22, .ref q23, .null, .int 0, .int 0, .int 0, .null, .null, .null, .null, .int 0, .null, .null, .int 0, .null, .null, .null])) rfl hP
  replace hD := dcons (e := .inr (10, [.int 0, .ref q1, .int 0, .ref q2, .ref q3, .ref q4, .ref q5, .int 0, .ref q6, .ref q7, .ref q8, .ref q9, .ref q10, .ref q11, .ref q12, .ref q13, .ref q14, .int 0, .ref q15, .ref q16, .ref q17, .ref q18, .ref q19, .ref q20, .int 0, .ref q21, .int 0, .ref q22, .ref q23, .null, .int 0, .int 0, .int 0, .null, .null, .null, .null, .int 0, .null, .null, .int 0, .null, .null, .null])) rfl hD
  refine lv_aload_n hx hb dX10_init_189 rfl (lv_at hl 0 rfl) ?_
  refine lv_bipush (v := 8) hx hb dX10_init_190 (by decide) ?_
  refine u_newa2 0 (atype := .int) (k := 8) (N' := 8) (n2 := 24) (c2 := 24) (s2 := 1166) hx hb (hts (.arrayClass .int) (by decide +kernel)) (ty := .int) rfl hK hP hD hS hA rfl rfl (fun C h => by cases h) (by decide) (by decide) (by show 8 * 4 ≤ 536870912; omega) rfl rfl rfl (Nat.le_of_ble_eq_true rfl) (Nat.le_of_ble_eq_true rfl) dX10_init_192 (fun q24 H hP hD hS => ?_)
  obtain ⟨ad24, ea24⟩ : ∃ z : Nat → Nat, z = uap 23 ad23 (fun _ => q24) := ⟨_, rfl⟩
  obtain ⟨en24, ee24⟩ : ∃ z : Nat → (Nat → Int32) → va_E, z = uap 23 en23 (fun _ _ => .inl (cs 0, 8, .inl (fun _ => 0))) := ⟨_, rfl⟩
  obtain ⟨sg24, es24⟩ : ∃ z : St, z = uap 23 sg23 (fun _ _ => 0) := ⟨_, rfl⟩
  rw [← ea24, ← ee24, ← es24] at hP hD
  refine va_putF (D := D) (ci := 10) (v := .ref q24) (ty := (tyX10 29)) (C := RX10) (T := TX10) (N := 44) hx hb hts fi_X10_init_10 tyX10 tyX10_ok nmX10 hown hK hP hD hS 0 rfl rfl 29 (by decide) (hts (.fieldLink RX10 80 "GhostSignsModel" "newMore" "[I") (by decide +kernel)) (fun _ h9 => h9) rfl hin rfl (by decide +kernel) rfl rfl (Nat.le_of_ble_eq_true rfl) dX10_init_194 (fun H locs hP hD hS => ?_)
  rw [List.set_cons_zero] at hP hD
  replace hP := pcons (e := .inr (10, [.int 0, .ref q1, .int 0, .ref q2, .ref q3, .ref q4, .ref q5, .int 0, .ref q6, .ref q7, .ref q8, .ref q9, .ref q10, .ref q11, .ref q12, .ref q13, .ref q14, .int 0, .ref q15, .ref q16, .ref q17, .ref q18, .ref q19, .ref q20, .int 0, .ref q21, .int 0, .ref q22, .ref q23, .ref q24, .int 0, .int 0, .int 0, .null, .null, .null, .null, .int 0, .null, .null, .int 0, .null, .null, .null])) rfl hP
  replace hD := dcons (e := .inr (10, [.int 0, .ref q1, .int 0, .ref q2, .ref q3, .ref q4, .ref q5, .int 0, .ref q6, .ref q7, .ref q8, .ref q9, .ref q10, .ref q11, .ref q12, .ref q13, .ref q14, .int 0, .ref q15, .ref q16, .ref q17, .ref q18, .ref q19, .ref q20, .int 0, .ref q21, .int 0, .ref q22, .ref q23, .ref q24, .int 0, .int 0, .int 0, .null, .null, .null, .null, .int 0, .null, .null, .int 0, .null, .null, .null])) rfl hD
  refine lv_aload_n hx hb dX10_init_197 rfl (lv_at hl 0 rfl) ?_
  refine lv_iconst (v := 1) hx hb dX10_init_198 (by decide) ?_
  refine va_put (D := D) (ci := 10) (v := .int 1) (ty := (tyX10 30)) (C := RX10) (T := TX10) (N := 44) hx hb hts fi_X10_init_10 tyX10 tyX10_ok nmX10 hown hK hP hD hS 0 rfl rfl 30 (by decide) (hts (.fieldLink RX10 83 "GhostSignsModel" "house" "I") (by decide +kernel)) (fun _ h9 => h9) rfl (by decide +kernel) rfl rfl (Nat.le_of_ble_eq_true rfl) dX10_init_199 (fun H locs hP hD hS => ?_)
  rw [List.set_cons_zero] at hP hD
  replace hP := pcons (e := .inr (10, [.int 0, .ref q1, .int 0, .ref q2, .ref q3, .ref q4, .ref q5, .int 0, .ref q6, .ref q7, .ref q8, .ref q9, .ref q10, .ref q11, .ref q12, .ref q13, .ref q14, .int 0, .ref q15, .ref q16, .ref q17, .ref q18, .ref q19, .ref q20, .int 0, .ref q21, .int 0, .ref q22, .ref q23, .ref q24, .int 1, .int 0, .int 0, .null, .null, .null, .null, .int 0, .null, .null, .int 0, .null, .null, .null])) rfl hP
  replace hD := dcons (e := .inr (10, [.int 0, .ref q1, .int 0, .ref q2, .ref q3, .ref q4, .ref q5, .int 0, .ref q6, .ref q7, .ref q8, .ref q9, .ref q10, .ref q11, .ref q12, .ref q13, .ref q14, .int 0, .ref q15, .ref q16, .ref q17, .ref q18, .ref q19, .ref q20, .int 0, .ref q21, .int 0, .ref q22, .ref q23, .ref q24, .int 1, .int 0, .int 0, .null, .null, .null, .null, .int 0, .null, .null, .int 0, .null, .null, .null])) rfl hD
  refine lv_aload_n hx hb dX10_init_202 rfl (lv_at hl 0 rfl) ?_
  refine lv_sipush (v := 1900) hx hb dX10_init_203 (by decide) ?_
  refine va_put (D := D) (ci := 10) (v := .int 1900) (ty := (tyX10 31)) (C := RX10) (T := TX10) (N := 44) hx hb hts fi_X10_init_10 tyX10 tyX10_ok nmX10 hown hK hP hD hS 0 rfl rfl 31 (by decide) (hts (.fieldLink RX10 87 "GhostSignsModel" "houseYear" "I") (by decide +kernel)) (fun _ h9 => h9) rfl (by decide +kernel) rfl rfl (Nat.le_of_ble_eq_true rfl) dX10_init_206 (fun H locs hP hD hS => ?_)
  rw [List.set_cons_zero] at hP hD
  replace hP := pcons (e := .inr (10, [.int 0, .ref q1, .int 0, .ref q2, .ref q3, .ref q4, .ref q5, .int 0, .ref q6, .ref q7, .ref q8, .ref q9, .ref q10, .ref q11, .ref q12, .ref q13, .ref q14, .int 0, .ref q15, .ref q16, .ref q17, .ref q18, .ref q19, .ref q20, .int 0, .ref q21, .int 0, .ref q22, .ref q23, .ref q24, .int 1, .int 1900, .int 0, .null, .null, .null, .null, .int 0, .null, .null, .int 0, .null, .null, .null])) rfl hP
  replace hD := dcons (e := .inr (10, [.int 0, .ref q1, .int 0, .ref q2, .ref q3, .ref q4, .ref q5, .int 0, .ref q6, .ref q7, .ref q8, .ref q9, .ref q10, .ref q11, .ref q12, .ref q13, .ref q14, .int 0, .ref q15, .ref q16, .ref q17, .ref q18, .ref q19, .ref q20, .int 0, .ref q21, .int 0, .ref q22, .ref q23, .ref q24, .int 1, .int 1900, .int 0, .null, .null, .null, .null, .int 0, .null, .null, .int 0, .null, .null, .null])) rfl hD
  refine lv_aload_n hx hb dX10_init_209 rfl (lv_at hl 0 rfl) ?_
  refine lv_bipush (v := 30) hx hb dX10_init_210 (by decide) ?_
  refine u_newa2 0 (atype := .int) (k := 30) (N' := 30) (n2 := 25) (c2 := 25) (s2 := 1196) hx hb (hts (.arrayClass .int) (by decide +kernel)) (ty := .int) rfl hK hP hD hS hA rfl rfl (fun C h => by cases h) (by decide) (by decide) (by show 30 * 4 ≤ 536870912; omega) rfl rfl rfl (Nat.le_of_ble_eq_true rfl) (Nat.le_of_ble_eq_true rfl) dX10_init_212 (fun q25 H hP hD hS => ?_)
  obtain ⟨ad25, ea25⟩ : ∃ z : Nat → Nat, z = uap 24 ad24 (fun _ => q25) := ⟨_, rfl⟩
  obtain ⟨en25, ee25⟩ : ∃ z : Nat → (Nat → Int32) → va_E, z = uap 24 en24 (fun _ _ => .inl (cs 0, 30, .inl (fun _ => 0))) := ⟨_, rfl⟩
  obtain ⟨sg25, es25⟩ : ∃ z : St, z = uap 24 sg24 (fun _ _ => 0) := ⟨_, rfl⟩
  rw [← ea25, ← ee25, ← es25] at hP hD
  refine va_putF (D := D) (ci := 10) (v := .ref q25) (ty := (tyX10 33)) (C := RX10) (T := TX10) (N := 44) hx hb hts fi_X10_init_10 tyX10 tyX10_ok nmX10 hown hK hP hD hS 0 rfl rfl 33 (by decide) (hts (.fieldLink RX10 90 "GhostSignsModel" "lightOf" "[I") (by decide +kernel)) (fun _ h9 => h9) rfl hin rfl (by decide +kernel) rfl rfl (Nat.le_of_ble_eq_true rfl) dX10_init_214 (fun H locs hP hD hS => ?_)
  rw [List.set_cons_zero] at hP hD
  replace hP := pcons (e := .inr (10, [.int 0, .ref q1, .int 0, .ref q2, .ref q3, .ref q4, .ref q5, .int 0, .ref q6, .ref q7, .ref q8, .ref q9, .ref q10, .ref q11, .ref q12, .ref q13, .ref q14, .int 0, .ref q15, .ref q16, .ref q17, .ref q18, .ref q19, .ref q20, .int 0, .ref q21, .int 0, .ref q22, .ref q23, .ref q24, .int 1, .int 1900, .int 0, .ref q25, .null, .null, .null, .int 0, .null, .null, .int 0, .null, .null, .null])) rfl hP
  replace hD := dcons (e := .inr (10, [.int 0, .ref q1, .int 0, .ref q2, .ref q3, .ref q4, .ref q5, .int 0, .ref q6, .ref q7, .ref q8, .ref q9, .ref q10, .ref q11, .ref q12, .ref q13, .ref q14, .int 0, .ref q15, .ref q16, .ref q17, .ref q18, .ref q19, .ref q20, .int 0, .ref q21, .int 0, .ref q22, .ref q23, .ref q24, .int 1, .int 1900, .int 0, .ref q25, .null, .null, .null, .int 0, .null, .null, .int 0, .null, .null, .null])) rfl hD
  refine lv_aload_n hx hb dX10_init_217 rfl (lv_at hl 0 rfl) ?_
  refine lv_bipush (v := 30) hx hb dX10_init_218 (by decide) ?_
  refine u_newa2 0 (atype := .int) (k := 30) (N' := 30) (n2 := 26) (c2 := 26) (s2 := 1226) hx hb (hts (.arrayClass .int) (by decide +kernel)) (ty := .int) rfl hK hP hD hS hA rfl rfl (fun C h => by cases h) (by decide) (by decide) (by show 30 * 4 ≤ 536870912; omega) rfl rfl rfl (Nat.le_of_ble_eq_true rfl) (Nat.le_of_ble_eq_true rfl) dX10_init_220 (fun q26 H hP hD hS => ?_)
  obtain ⟨ad26, ea26⟩ : ∃ z : Nat → Nat, z = uap 25 ad25 (fun _ => q26) := ⟨_, rfl⟩
  obtain ⟨en26, ee26⟩ : ∃ z : Nat → (Nat → Int32) → va_E, z = uap 25 en25 (fun _ _ => .inl (cs 0, 30, .inl (fun _ => 0))) := ⟨_, rfl⟩
  obtain ⟨sg26, es26⟩ : ∃ z : St, z = uap 25 sg25 (fun _ _ => 0) := ⟨_, rfl⟩
  rw [← ea26, ← ee26, ← es26] at hP hD
  refine va_putF (D := D) (ci := 10) (v := .ref q26) (ty := (tyX10 34)) (C := RX10) (T := TX10) (N := 44) hx hb hts fi_X10_init_10 tyX10 tyX10_ok nmX10 hown hK hP hD hS 0 rfl rfl 34 (by decide) (hts (.fieldLink RX10 93 "GhostSignsModel" "lightLine" "[I") (by decide +kernel)) (fun _ h9 => h9) rfl hin rfl (by decide +kernel) rfl rfl (Nat.le_of_ble_eq_true rfl) dX10_init_222 (fun H locs hP hD hS => ?_)
  rw [List.set_cons_zero] at hP hD
  replace hP := pcons (e := .inr (10, [.int 0, .ref q1, .int 0, .ref q2, .ref q3, .ref q4, .ref q5, .int 0, .ref q6, .ref q7, .ref q8, .ref q9, .ref q10, .ref q11, .ref q12, .ref q13, .ref q14, .int 0, .ref q15, .ref q16, .ref q17, .ref q18, .ref q19, .ref q20, .int 0, .ref q21, .int 0, .ref q22, .ref q23, .ref q24, .int 1, .int 1900, .int 0, .ref q25, .ref q26, .null, .null, .int 0, .null, .null, .int 0, .null, .null, .null])) rfl hP
  replace hD := dcons (e := .inr (10, [.int 0, .ref q1, .int 0, .ref q2, .ref q3, .ref q4, .ref q5, .int 0, .ref q6, .ref q7, .ref q8, .ref q9, .ref q10, .ref q11, .ref q12, .ref q13, .ref q14, .int 0, .ref q15, .ref q16, .ref q17, .ref q18, .ref q19, .ref q20, .int 0, .ref q21, .int 0, .ref q22, .ref q23, .ref q24, .int 1, .int 1900, .int 0, .ref q25, .ref q26, .null, .null, .int 0, .null, .null, .int 0, .null, .null, .null])) rfl hD
  refine lv_aload_n hx hb dX10_init_225 rfl (lv_at hl 0 rfl) ?_
  refine lv_bipush (v := 30) hx hb dX10_init_226 (by decide) ?_
  refine u_newa2 0 (atype := .int) (k := 30) (N' := 30) (n2 := 27) (c2 := 27) (s2 := 1256) hx hb (hts (.arrayClass .int) (by decide +kernel)) (ty := .int) rfl hK hP hD hS hA rfl rfl (fun C h => by cases h) (by decide) (by decide) (by show 30 * 4 ≤ 536870912; omega) rfl rfl rfl (Nat.le_of_ble_eq_true rfl) (Nat.le_of_ble_eq_true rfl) dX10_init_228 (fun q27 H hP hD hS => ?_)
  obtain ⟨ad27, ea27⟩ : ∃ z : Nat → Nat, z = uap 26 ad26 (fun _ => q27) := ⟨_, rfl⟩
  obtain ⟨en27, ee27⟩ : ∃ z : Nat → (Nat → Int32) → va_E, z = uap 26 en26 (fun _ _ => .inl (cs 0, 30, .inl (fun _ => 0))) := ⟨_, rfl⟩
  obtain ⟨sg27, es27⟩ : ∃ z : St, z = uap 26 sg26 (fun _ _ => 0) := ⟨_, rfl⟩
  rw [← ea27, ← ee27, ← es27] at hP hD
  refine va_putF (D := D) (ci := 10) (v := .ref q27) (ty := (tyX10 35)) (C := RX10) (T := TX10) (N := 44) hx hb hts fi_X10_init_10 tyX10 tyX10_ok nmX10 hown hK hP hD hS 0 rfl rfl 35 (by decide) (hts (.fieldLink RX10 96 "GhostSignsModel" "lightSlot" "[I") (by decide +kernel)) (fun _ h9 => h9) rfl hin rfl (by decide +kernel) rfl rfl (Nat.le_of_ble_eq_true rfl) dX10_init_230 (fun H locs hP hD hS => ?_)
  rw [List.set_cons_zero] at hP hD
  replace hP := pcons (e := .inr (10, [.int 0, .ref q1, .int 0, .ref q2, .ref q3, .ref q4, .ref q5, .int 0, .ref q6, .ref q7, .ref q8, .ref q9, .ref q10, .ref q11, .ref q12, .ref q13, .ref q14, .int 0, .ref q15, .ref q16, .ref q17, .ref q18, .ref q19, .ref q20, .int 0, .ref q21, .int 0, .ref q22, .ref q23, .ref q24, .int 1, .int 1900, .int 0, .ref q25, .ref q26, .ref q27, .null, .int 0, .null, .null, .int 0, .null, .null, .null])) rfl hP
  replace hD := dcons (e := .inr (10, [.int 0, .ref q1, .int 0, .ref q2, .ref q3, .ref q4, .ref q5, .int 0, .ref q6, .ref q7, .ref q8, .ref q9, .ref q10, .ref q11, .ref q12, .ref q13, .ref q14, .int 0, .ref q15, .ref q16, .ref q17, .ref q18, .ref q19, .ref q20, .int 0, .ref q21, .int 0, .ref q22, .ref q23, .ref q24, .int 1, .int 1900, .int 0, .ref q25, .ref q26, .ref q27, .null, .int 0, .null, .null, .int 0, .null, .null, .null])) rfl hD
  refine lv_aload_n hx hb dX10_init_233 rfl (lv_at hl 0 rfl) ?_
  refine lv_bipush (v := 30) hx hb dX10_init_234 (by decide) ?_
  refine u_newa2 0 (atype := .int) (k := 30) (N' := 30) (n2 := 28) (c2 := 28) (s2 := 1286) hx hb (hts (.arrayClass .int) (by decide +kernel)) (ty := .int) rfl hK hP hD hS hA rfl rfl (fun C h => by cases h) (by decide) (by decide) (by show 30 * 4 ≤ 536870912; omega) rfl rfl rfl (Nat.le_of_ble_eq_true rfl) (Nat.le_of_ble_eq_true rfl) dX10_init_236 (fun q28 H hP hD hS => ?_)
  obtain ⟨ad28, ea28⟩ : ∃ z : Nat → Nat, z = uap 27 ad27 (fun _ => q28) := ⟨_, rfl⟩
  obtain ⟨en28, ee28⟩ : ∃ z : Nat → (Nat → Int32) → va_E, z = uap 27 en27 (fun _ _ => .inl (cs 0, 30, .inl (fun _ => 0))) := ⟨_, rfl⟩
  obtain ⟨sg28, es28⟩ : ∃ z : St, z = uap 27 sg27 (fun _ _ => 0) := ⟨_, rfl⟩
  rw [← ea28, ← ee28, ← es28] at hP hD
  refine va_putF (D := D) (ci := 10) (v := .ref q28) (ty := (tyX10 36)) (C := RX10) (T := TX10) (N := 44) hx hb hts fi_X10_init_10 tyX10 tyX10_ok nmX10 hown hK hP hD hS 0 rfl rfl 36 (by decide) (hts (.fieldLink RX10 99 "GhostSignsModel" "lightCells" "[I") (by decide +kernel)) (fun _ h9 => h9) rfl hin rfl (by decide +kernel) rfl rfl (Nat.le_of_ble_eq_true rfl) dX10_init_238 (fun H locs hP hD hS => ?_)
  rw [List.set_cons_zero] at hP hD
  replace hP := pcons (e := .inr (10, [.int 0, .ref q1, .int 0, .ref q2, .ref q3, .ref q4, .ref q5, .int 0, .ref q6, .ref q7, .ref q8, .ref q9, .ref q10, .ref q11, .ref q12, .ref q13, .ref q14, .int 0, .ref q15, .ref q16, .ref q17, .ref q18, .ref q19, .ref q20, .int 0, .ref q21, .int 0, .ref q22, .ref q23, .ref q24, .int 1, .int 1900, .int 0, .ref q25, .ref q26, .ref q27, .ref q28, .int 0, .null, .null, .int 0, .null, .null, .null])) rfl hP
  replace hD := dcons (e := .inr (10, [.int 0, .ref q1, .int 0, .ref q2, .ref q3, .ref q4, .ref q5, .int 0, .ref q6, .ref q7, .ref q8, .ref q9, .ref q10, .ref q11, .ref q12, .ref q13, .ref q14, .int 0, .ref q15, .ref q16, .ref q17, .ref q18, .ref q19, .ref q20, .int 0, .ref q21, .int 0, .ref q22, .ref q23, .ref q24, .int 1, .int 1900, .int 0, .ref q25, .ref q26, .ref q27, .ref q28, .int 0, .null, .null, .int 0, .null, .null, .null])) rfl hD
  refine lv_aload_n hx hb dX10_init_241 rfl (lv_at hl 0 rfl) ?_
  refine lv_bipush (v := 12) hx hb dX10_init_242 (by decide) ?_
  refine u_newa2 0 (atype := .int) (k := 12) (N' := 12) (n2 := 29) (c2 := 29) (s2 := 1298) hx hb (hts (.arrayClass .int) (by decide +kernel)) (ty := .int) rfl hK hP hD hS hA rfl rfl (fun C h => by cases h) (by decide) (by decide) (by show 12 * 4 ≤ 536870912; omega) rfl rfl rfl (Nat.le_of_ble_eq_true rfl) (Nat.le_of_ble_eq_true rfl) dX10_init_244 (fun q29 H hP hD hS => ?_)
  obtain ⟨ad29, ea29⟩ : ∃ z : Nat → Nat, z = uap 28 ad28 (fun _ => q29) := ⟨_, rfl⟩
  obtain ⟨en29, ee29⟩ : ∃ z : Nat → (Nat → Int32) → va_E, z = uap 28 en28 (fun _ _ => .inl (cs 0, 12, .inl (fun _ => 0))) := ⟨_, rfl⟩
  obtain ⟨sg29, es29⟩ : ∃ z : St, z = uap 28 sg28 (fun _ _ => 0) := ⟨_, rfl⟩
  rw [← ea29, ← ee29, ← es29] at hP hD
  refine va_putF (D := D) (ci := 10) (v := .ref q29) (ty := (tyX10 38)) (C := RX10) (T := TX10) (N := 44) hx hb hts fi_X10_init_10 tyX10 tyX10_ok nmX10 hown hK hP hD hS 0 rfl rfl 38 (by decide) (hts (.fieldLink RX10 102 "GhostSignsModel" "handLine" "[I") (by decide +kernel)) (fun _ h9 => h9) rfl hin rfl (by decide +kernel) rfl rfl (Nat.le_of_ble_eq_true rfl) dX10_init_246 (fun H locs hP hD hS => ?_)
  rw [List.set_cons_zero] at hP hD
  replace hP := pcons (e := .inr (10, [.int 0, .ref q1, .int 0, .ref q2, .ref q3, .ref q4, .ref q5, .int 0, .ref q6, .ref q7, .ref q8, .ref q9, .ref q10, .ref q11, .ref q12, .ref q13, .ref q14, .int 0, .ref q15, .ref q16, .ref q17, .ref q18, .ref q19, .ref q20, .int 0, .ref q21, .int 0, .ref q22, .ref q23, .ref q24, .int 1, .int 1900, .int 0, .ref q25, .ref q26, .ref q27, .ref q28, .int 0, .ref q29, .null, .int 0, .null, .null, .null])) rfl hP
  replace hD := dcons (e := .inr (10, [.int 0, .ref q1, .int 0, .ref q2, .ref q3, .ref q4, .ref q5, .int 0, .ref q6, .ref q7, .ref q8, .ref q9, .ref q10, .ref q11, .ref q12, .ref q13, .ref q14, .int 0, .ref q15, .ref q16, .ref q17, .ref q18, .ref q19, .ref q20, .int 0, .ref q21, .int 0, .ref q22, .ref q23, .ref q24, .int 1, .int 1900, .int 0, .ref q25, .ref q26, .ref q27, .ref q28, .int 0, .ref q29, .null, .int 0, .null, .null, .null])) rfl hD
  refine lv_aload_n hx hb dX10_init_249 rfl (lv_at hl 0 rfl) ?_
  refine lv_bipush (v := 12) hx hb dX10_init_250 (by decide) ?_
  refine u_newa2 0 (atype := .int) (k := 12) (N' := 12) (n2 := 30) (c2 := 30) (s2 := 1310) hx hb (hts (.arrayClass .int) (by decide +kernel)) (ty := .int) rfl hK hP hD hS hA rfl rfl (fun C h => by cases h) (by decide) (by decide) (by show 12 * 4 ≤ 536870912; omega) rfl rfl rfl (Nat.le_of_ble_eq_true rfl) (Nat.le_of_ble_eq_true rfl) dX10_init_252 (fun q30 H hP hD hS => ?_)
  obtain ⟨ad30, ea30⟩ : ∃ z : Nat → Nat, z = uap 29 ad29 (fun _ => q30) := ⟨_, rfl⟩
  obtain ⟨en30, ee30⟩ : ∃ z : Nat → (Nat → Int32) → va_E, z = uap 29 en29 (fun _ _ => .inl (cs 0, 12, .inl (fun _ => 0))) := ⟨_, rfl⟩
  obtain ⟨sg30, es30⟩ : ∃ z : St, z = uap 29 sg29 (fun _ _ => 0) := ⟨_, rfl⟩
  rw [← ea30, ← ee30, ← es30] at hP hD
  refine va_putF (D := D) (ci := 10) (v := .ref q30) (ty := (tyX10 39)) (C := RX10) (T := TX10) (N := 44) hx hb hts fi_X10_init_10 tyX10 tyX10_ok nmX10 hown hK hP hD hS 0 rfl rfl 39 (by decide) (hts (.fieldLink RX10 105 "GhostSignsModel" "handWord" "[I") (by decide +kernel)) (fun _ h9 => h9) rfl hin rfl (by decide +kernel) rfl rfl (Nat.le_of_ble_eq_true rfl) dX10_init_254 (fun H locs hP hD hS => ?_)
  rw [List.set_cons_zero] at hP hD
  replace hP := pcons (e := .inr (10, [.int 0, .ref q1, .int 0, .ref q2, .ref q3, .ref q4, .ref q5, .int 0, .ref q6, .ref q7, .ref q8, .ref q9, .ref q10, .ref q11, .ref q12, .ref q13, .ref q14, .int 0, .ref q15, .ref q16, .ref q17, .ref q18, .ref q19, .ref q20, .int 0, .ref q21, .int 0, .ref q22, .ref q23, .ref q24, .int 1, .int 1900, .int 0, .ref q25, .ref q26, .ref q27, .ref q28, .int 0, .ref q29, .ref q30, .int 0, .null, .null, .null])) rfl hP
  replace hD := dcons (e := .inr (10, [.int 0, .ref q1, .int 0, .ref q2, .ref q3, .ref q4, .ref q5, .int 0, .ref q6, .ref q7, .ref q8, .ref q9, .ref q10, .ref q11, .ref q12, .ref q13, .ref q14, .int 0, .ref q15, .ref q16, .ref q17, .ref q18, .ref q19, .ref q20, .int 0, .ref q21, .int 0, .ref q22, .ref q23, .ref q24, .int 1, .int 1900, .int 0, .ref q25, .ref q26, .ref q27, .ref q28, .int 0, .ref q29, .ref q30, .int 0, .null, .null, .null])) rfl hD
  refine lv_aload_n hx hb dX10_init_257 rfl (lv_at hl 0 rfl) ?_
  refine lv_bipush (v := 12) hx hb dX10_init_258 (by decide) ?_
  refine u_newa2 0 (atype := .int) (k := 12) (N' := 12) (n2 := 31) (c2 := 31) (s2 := 1322) hx hb (hts (.arrayClass .int) (by decide +kernel)) (ty := .int) rfl hK hP hD hS hA rfl rfl (fun C h => by cases h) (by decide) (by decide) (by show 12 * 4 ≤ 536870912; omega) rfl rfl rfl (Nat.le_of_ble_eq_true rfl) (Nat.le_of_ble_eq_true rfl) dX10_init_260 (fun q31 H hP hD hS => ?_)
  obtain ⟨ad31, ea31⟩ : ∃ z : Nat → Nat, z = uap 30 ad30 (fun _ => q31) := ⟨_, rfl⟩
  obtain ⟨en31, ee31⟩ : ∃ z : Nat → (Nat → Int32) → va_E, z = uap 30 en30 (fun _ _ => .inl (cs 0, 12, .inl (fun _ => 0))) := ⟨_, rfl⟩
  obtain ⟨sg31, es31⟩ : ∃ z : St, z = uap 30 sg30 (fun _ _ => 0) := ⟨_, rfl⟩
  rw [← ea31, ← ee31, ← es31] at hP hD
  refine va_putF (D := D) (ci := 10) (v := .ref q31) (ty := (tyX10 41)) (C := RX10) (T := TX10) (N := 44) hx hb hts fi_X10_init_10 tyX10 tyX10_ok nmX10 hown hK hP hD hS 0 rfl rfl 41 (by decide) (hts (.fieldLink RX10 108 "GhostSignsModel" "worths" "[I") (by decide +kernel)) (fun _ h9 => h9) rfl hin rfl (by decide +kernel) rfl rfl (Nat.le_of_ble_eq_true rfl) dX10_init_262 (fun H locs hP hD hS => ?_)
  rw [List.set_cons_zero] at hP hD
  replace hP := pcons (e := .inr (10, [.int 0, .ref q1, .int 0, .ref q2, .ref q3, .ref q4, .ref q5, .int 0, .ref q6, .ref q7, .ref q8, .ref q9, .ref q10, .ref q11, .ref q12, .ref q13, .ref q14, .int 0, .ref q15, .ref q16, .ref q17, .ref q18, .ref q19, .ref q20, .int 0, .ref q21, .int 0, .ref q22, .ref q23, .ref q24, .int 1, .int 1900, .int 0, .ref q25, .ref q26, .ref q27, .ref q28, .int 0, .ref q29, .ref q30, .int 0, .ref q31, .null, .null])) rfl hP
  replace hD := dcons (e := .inr (10, [.int 0, .ref q1, .int 0, .ref q2, .ref q3, .ref q4, .ref q5, .int 0, .ref q6, .ref q7, .ref q8, .ref q9, .ref q10, .ref q11, .ref q12, .ref q13, .ref q14, .int 0, .ref q15, .ref q16, .ref q17, .ref q18, .ref q19, .ref q20, .int 0, .ref q21, .int 0, .ref q22, .ref q23, .ref q24, .int 1, .int 1900, .int 0, .ref q25, .ref q26, .ref q27, .ref q28, .int 0, .ref q29, .ref q30, .int 0, .ref q31, .null, .null])) rfl hD
  refine lv_aload_n hx hb dX10_init_265 rfl (lv_at hl 0 rfl) ?_
  refine lv_bipush (v := 12) hx hb dX10_init_266 (by decide) ?_
  refine u_newa2 0 (atype := .int) (k := 12) (N' := 12) (n2 := 32) (c2 := 32) (s2 := 1334) hx hb (hts (.arrayClass .int) (by decide +kernel)) (ty := .int) rfl hK hP hD hS hA rfl rfl (fun C h => by cases h) (by decide) (by decide) (by show 12 * 4 ≤ 536870912; omega) rfl rfl rfl (Nat.le_of_ble_eq_true rfl) (Nat.le_of_ble_eq_true rfl) dX10_init_268 (fun q32 H hP hD hS => ?_)
  obtain ⟨ad32, ea32⟩ : ∃ z : Nat → Nat, z = uap 31 ad31 (fun _ => q32) := ⟨_, rfl⟩
  obtain ⟨en32, ee32⟩ : ∃ z : Nat → (Nat → Int32) → va_E, z = uap 31 en31 (fun _ _ => .inl (cs 0, 12, .inl (fun _ => 0))) := ⟨_, rfl⟩
  obtain ⟨sg32, es32⟩ : ∃ z : St, z = uap 31 sg31 (fun _ _ => 0) := ⟨_, rfl⟩
  rw [← ea32, ← ee32, ← es32] at hP hD
  refine va_putF (D := D) (ci := 10) (v := .ref q32) (ty := (tyX10 42)) (C := RX10) (T := TX10) (N := 44) hx hb hts fi_X10_init_10 tyX10 tyX10_ok nmX10 hown hK hP hD hS 0 rfl rfl 42 (by decide) (hts (.fieldLink RX10 111 "GhostSignsModel" "costs" "[I") (by decide +kernel)) (fun _ h9 => h9) rfl hin rfl (by decide +kernel) rfl rfl (Nat.le_of_ble_eq_true rfl) dX10_init_270 (fun H locs hP hD hS => ?_)
  rw [List.set_cons_zero] at hP hD
  replace hP := pcons (e := .inr (10, [.int 0, .ref q1, .int 0, .ref q2, .ref q3, .ref q4, .ref q5, .int 0, .ref q6, .ref q7, .ref q8, .ref q9, .ref q10, .ref q11, .ref q12, .ref q13, .ref q14, .int 0, .ref q15, .ref q16, .ref q17, .ref q18, .ref q19, .ref q20, .int 0, .ref q21, .int 0, .ref q22, .ref q23, .ref q24, .int 1, .int 1900, .int 0, .ref q25, .ref q26, .ref q27, .ref q28, .int 0, .ref q29, .ref q30, .int 0, .ref q31, .ref q32, .null])) rfl hP
  replace hD := dcons (e := .inr (10, [.int 0, .ref q1, .int 0, .ref q2, .ref q3, .ref q4, .ref q5, .int 0, .ref q6, .ref q7, .ref q8, .ref q9, .ref q10, .ref q11, .ref q12, .ref q13, .ref q14, .int 0, .ref q15, .ref q16, .ref q17, .ref q18, .ref q19, .ref q20, .int 0, .ref q21, .int 0, .ref q22, .ref q23, .ref q24, .int 1, .int 1900, .int 0, .ref q25, .ref q26, .ref q27, .ref q28, .int 0, .ref q29, .ref q30, .int 0, .ref q31, .ref q32, .null])) rfl hD
  refine lv_aload_n hx hb dX10_init_273 rfl (lv_at hl 0 rfl) ?_
  refine lv_bipush (v := 12) hx hb dX10_init_274 (by decide) ?_
  refine u_newa2 2 (atype := .boolean) (k := 12) (N' := 12) (n2 := 33) (c2 := 33) (s2 := 1346) hx hb (hts (.arrayClass .boolean) (by decide +kernel)) (ty := .boolean) rfl hK hP hD hS hA rfl rfl (fun C h => by cases h) (by decide) (by decide) (by show 12 * 1 ≤ 536870912; omega) rfl rfl rfl (Nat.le_of_ble_eq_true rfl) (Nat.le_of_ble_eq_true rfl) dX10_init_276 (fun q33 H hP hD hS => ?_)
  obtain ⟨ad33, ea33⟩ : ∃ z : Nat → Nat, z = uap 32 ad32 (fun _ => q33) := ⟨_, rfl⟩
  obtain ⟨en33, ee33⟩ : ∃ z : Nat → (Nat → Int32) → va_E, z = uap 32 en32 (fun _ _ => .inl (cs 2, 12, .inl (fun _ => 0))) := ⟨_, rfl⟩
  obtain ⟨sg33, es33⟩ : ∃ z : St, z = uap 32 sg32 (fun _ _ => 0) := ⟨_, rfl⟩
  rw [← ea33, ← ee33, ← es33] at hP hD
  refine va_putF (D := D) (ci := 10) (v := .ref q33) (ty := (tyX10 43)) (C := RX10) (T := TX10) (N := 44) hx hb hts fi_X10_init_10 tyX10 tyX10_ok nmX10 hown hK hP hD hS 0 rfl rfl 43 (by decide) (hts (.fieldLink RX10 114 "GhostSignsModel" "hasLeave" "[Z") (by decide +kernel)) (fun _ h9 => h9) rfl hin rfl (by decide +kernel) rfl rfl (Nat.le_of_ble_eq_true rfl) dX10_init_278 (fun H locs hP hD hS => ?_)
  rw [List.set_cons_zero] at hP hD
  replace hP := pcons (e := .inr (10, [.int 0, .ref q1, .int 0, .ref q2, .ref q3, .ref q4, .ref q5, .int 0, .ref q6, .ref q7, .ref q8, .ref q9, .ref q10, .ref q11, .ref q12, .ref q13, .ref q14, .int 0, .ref q15, .ref q16, .ref q17, .ref q18, .ref q19, .ref q20, .int 0, .ref q21, .int 0, .ref q22, .ref q23, .ref q24, .int 1, .int 1900, .int 0, .ref q25, .ref q26, .ref q27, .ref q28, .int 0, .ref q29, .ref q30, .int 0, .ref q31, .ref q32, .ref q33])) rfl hP
  replace hD := dcons (e := .inr (10, [.int 0, .ref q1, .int 0, .ref q2, .ref q3, .ref q4, .ref q5, .int 0, .ref q6, .ref q7, .ref q8, .ref q9, .ref q10, .ref q11, .ref q12, .ref q13, .ref q14, .int 0, .ref q15, .ref q16, .ref q17, .ref q18, .ref q19, .ref q20, .int 0, .ref q21, .int 0, .ref q22, .ref q23, .ref q24, .int 1, .int 1900, .int 0, .ref q25, .ref q26, .ref q27, .ref q28, .int 0, .ref q29, .ref q30, .int 0, .ref q31, .ref q32, .ref q33])) rfl hD
  have hea : ad33 = adRM q1 q2 q3 q4 q5 q6 q7 q8 q9 q10 q11 q12 q13 q14 q15 q16 q17 q18 q19 q20 q21 q22 q23 q24 q25 q26 q27 q28 q29 q30 q31 q32 q33 := by
    rw [ea33, ea32, ea31, ea30, ea29, ea28, ea27, ea26, ea25, ea24, ea23, ea22, ea21, ea20, ea19, ea18, ea17, ea16, ea15, ea14, ea13, ea12, ea11, ea10, ea9, ea8, ea7, ea6, ea5, ea4, ea3, ea2, ea1]
    rfl
  have hee : en33 = enRM cs := by
    rw [ee33, ee32, ee31, ee30, ee29, ee28, ee27, ee26, ee25, ee24, ee23, ee22, ee21, ee20, ee19, ee18, ee17, ee16, ee15, ee14, ee13, ee12, ee11, ee10, ee9, ee8, ee7, ee6, ee5, ee4, ee3, ee2, ee1]
    rfl
  have hes : sg33 = sgRM := by
    rw [es33, es32, es31, es30, es29, es28, es27, es26, es25, es24, es23, es22, es21, es20, es19, es18, es17, es16, es15, es14, es13, es12, es11, es10, es9, es8, es7, es6, es5, es4, es3, es2, es1]
    rfl
  rw [hea, hee, hes] at hP hD
  obtain ⟨hP9, hD9⟩ := xm_list cs h0 q1 q2 q3 q4 q5 q6 q7 q8 q9 q10 q11 q12 q13 q14 q15 q16 q17 q18 q19 q20 q21 q22 q23 q24 q25 q26 q27 q28 q29 q30 q31 q32 q33 hP hD
  rw [← hAe] at hD9 hS ⊢
  exact x10_tail hx hb hml hown hts hK hr hlocks hP9 hD9 rfl hS hl
