/-! X2_digestLayers -/
def f_X2_digestLayers_17 (k5 : St → Nat → Int64 → Int32 → Option (Int64 × St)) : Nat → St → Nat → Int64 → Int32 → Int32 → Option (Int64 × St)
  | 0, _, _, _, _, _ => none
  | fuel + 1, σ, i0, v3, v5, v6 =>
    if 2 < v6 then
      ul (v5 + 1) fun x1 =>
      k5 σ i0 v3 x1
    else
      ub (f_X2_factOf σ i0 v5 v6) fun r2 σ3 =>
      ul ((31 * v3) + r2.toInt64) fun x4 =>
      ul (v6 + 1) fun x5 =>
      f_X2_digestLayers_17 k5 fuel σ3 i0 x4 v5 x5
def f_X2_digestLayers_5 : Nat → St → Nat → Int64 → Int32 → Option (Int64 × St)
  | 0, _, _, _, _ => none
  | fuel + 1, σ, i0, v3, v5 =>
    if (σ (35 + 9 * i0) 4) ≤ v5 then
      some (v3, σ)
    else
      f_X2_digestLayers_17 (f_X2_digestLayers_5 fuel) fu σ i0 v3 v5 0
def f_X2_digestLayers (σ : St) (i0 : Nat) (v1 : Int64) : Option (Int64 × St) :=
  f_X2_digestLayers_5 fu σ i0 v1 0
theorem fi_X2_digestLayers_2 : ∀ w ∈ u_ws RX2 TX2 5, w ∈ wsX2_digestLayers := by decide +kernel
set_option maxHeartbeats 4000000 in
set_option maxRecDepth 100000 in
theorem w_X2_digestLayers_17 {p : Program} {l : Launch} {e : Env} {s : State} {m : MethodId} {args : Array Value} {below : List Frame} {meth : Method} {c : Code} {D : va_G} {ad : Nat → Nat} {cs : Nat → ClassId} (C : uC p { frames := 1, cells := 0, slots := 0, locals := 22 } s m args c cX2_digestLayers 7 wsX2_digestLayers RX2 D vwCl (tyX cs) 99 ad (uAd 99 ad s.heap.size) 0 0) (hr : meth.sig.returnType = (some .long)) (hlk : meth.locks = false) {r : Int64} {σ' : St} {k5 : St → Nat → Int64 → Int32 → Option (Int64 × St)} (hk5 : ∀ (σ : St) (i0 : Nat) (v3 : Int64) (v5 : Int32) (bi0 : i0 < 4), k5 σ i0 v3 v5 = some (r, σ') → ∀ (H : Heap) (locs : List Loc) (ls : Array Slot), uG D vwCl 99 ad (enX ad cs) (uAd 99 ad s.heap.size) s σ H locs → lv_has ls 7 [(0, .ref (ad (35 + 9 * i0))), (3, .long v3), (5, .int v5)] → W p l e { frames := 1, cells := 0, slots := 0, locals := 22 } s m args below meth c H locs 0 0 (MQ below (uQl D vwCl 99 ad (enX ad cs) r σ' s.heap.size) args s 0 0 (uAd 99 ad s.heap.size)) (F0 m 5 ls [])) :
    ∀ (n : Nat) (σ : St) (i0 : Nat) (v3 : Int64) (v5 : Int32) (v6 : Int32) (bi0 : i0 < 4), f_X2_digestLayers_17 k5 n σ i0 v3 v5 v6 = some (r, σ') → ∀ (H : Heap) (locs : List Loc) (ls : Array Slot), uG D vwCl 99 ad (enX ad cs) (uAd 99 ad s.heap.size) s σ H locs → lv_has ls 7 [(0, .ref (ad (35 + 9 * i0))), (3, .long v3), (5, .int v5), (6, .int v6)] → W p l e { frames := 1, cells := 0, slots := 0, locals := 22 } s m args below meth c H locs 0 0 (MQ below (uQl D vwCl 99 ad (enX ad cs) r σ' s.heap.size) args s 0 0 (uAd 99 ad s.heap.size)) (F0 m 17 ls []) := by
  have hx := C.1.1
  have hb := C.1.2.1
  intro n
  induction n with
  | zero => intro σ i0 v3 v5 v6 bi0 h; exact absurd h (by simp [f_X2_digestLayers_17])
  | succ fuel ih =>
    intro σ i0 v3 v5 v6 bi0 h H locs ls G hl
    rw [f_X2_digestLayers_17] at h
    refine lv_iload hx hb dX2_digestLayers_17 (lv_at hl 3 rfl) ?_
    refine lv_iconst (v := 2) hx hb dX2_digestLayers_19 (by decide) ?_
    refine lv_icmp_gt (tgt := 45) hx hb dX2_digestLayers_20 (by decide) (fun q => ?_) (fun q => ?_)
    · have h := u_pos q h
      obtain ⟨x1, ex1, h⟩ := ul_of h
      refine lv_iinc (v := x1) (lv' := [(5, .int x1), (0, .ref (ad (35 + 9 * i0))), (3, .long v3), (6, .int v6)]) hx hb dX2_digestLayers_45 hl (k := 2) rfl (by rw [ex1]; rfl) (by decide) rfl (fun ls hl => ?_)
      refine lv_goto (tgt := 5) hx hb dX2_digestLayers_48 (by decide) ?_
      exact hk5 σ i0 v3 x1 bi0 h H locs ls G (lv_sub hl [1, 2, 0] rfl)
    · have h := u_neg q h
      refine lv_ldc2 (v := 31) hx hb C.1.2.2.2.1 (C.1.2.2.2.2 (.constantLong RX2 39 31) (by decide +kernel)) dX2_digestLayers_23 ?_
      refine lv_lload_n hx hb dX2_digestLayers_26 rfl (lv_at hl 1 rfl) ?_
      refine lv_lmul hx hb dX2_digestLayers_27 ?_
      refine lv_aload_n hx hb dX2_digestLayers_28 rfl (lv_at hl 0 rfl) ?_
      refine lv_iload hx hb dX2_digestLayers_29 (lv_at hl 2 rfl) ?_
      refine lv_iload hx hb dX2_digestLayers_31 (lv_at hl 3 rfl) ?_
      obtain ⟨r2, σ3, er2, h⟩ := ub_of h
      refine u_callVi (As := [.int v5, .int v6]) (rest := [.long (31 * v3)]) C G (c_X2_factOf l D ad cs C.2.2.1 σ i0 v5 v6 bi0 r2 σ3 er2) (cwV 2 C.1.2.2.2.2 gX2_digestLayers_X2_factOf rfl rfl rfl (by decide +kernel) ⟨Nat.le_of_ble_eq_true rfl, Nat.le_of_ble_eq_true rfl⟩) (obX_line bi0) (ci := 2) (T := TX2) rfl rfl hl rfl (Nat.le_of_ble_eq_true rfl) dX2_digestLayers_33 (fun H locs G => ?_)
      refine lv_i2l hx hb dX2_digestLayers_36 rfl ?_
      refine lv_ladd hx hb dX2_digestLayers_37 ?_
      obtain ⟨x4, ex4, h⟩ := ul_of h
      refine u_nml ex4 ?_
      refine lv_lstore_n (lv' := [(3, .long x4), (0, .ref (ad (35 + 9 * i0))), (5, .int v5), (6, .int v6)]) hx hb dX2_digestLayers_38 rfl hl (by decide) rfl (fun ls hl => ?_)
      obtain ⟨x5, ex5, h⟩ := ul_of h
      refine lv_iinc (v := x5) (lv' := [(6, .int x5), (3, .long x4), (0, .ref (ad (35 + 9 * i0))), (5, .int v5)]) hx hb dX2_digestLayers_39 hl (k := 3) rfl (by rw [ex5]; rfl) (by decide) rfl (fun ls hl => ?_)
      refine lv_goto (tgt := 17) hx hb dX2_digestLayers_42 (by decide) ?_
      exact ih σ3 i0 x4 v5 x5 bi0 h H locs ls G (lv_sub hl [2, 1, 3, 0] rfl)
set_option maxHeartbeats 4000000 in
set_option maxRecDepth 100000 in
theorem w_X2_digestLayers_5 {p : Program} {l : Launch} {e : Env} {s : State} {m : MethodId} {args : Array Value} {below : List Frame} {meth : Method} {c : Code} {D : va_G} {ad : Nat → Nat} {cs : Nat → ClassId} (C : uC p { frames := 1, cells := 0, slots := 0, locals := 22 } s m args c cX2_digestLayers 7 wsX2_digestLayers RX2 D vwCl (tyX cs) 99 ad (uAd 99 ad s.heap.size) 0 0) (hr : meth.sig.returnType = (some .long)) (hlk : meth.locks = false) {r : Int64} {σ' : St} :
    ∀ (n : Nat) (σ : St) (i0 : Nat) (v3 : Int64) (v5 : Int32) (bi0 : i0 < 4), f_X2_digestLayers_5 n σ i0 v3 v5 = some (r, σ') → ∀ (H : Heap) (locs : List Loc) (ls : Array Slot), uG D vwCl 99 ad (enX ad cs) (uAd 99 ad s.heap.size) s σ H locs → lv_has ls 7 [(0, .ref (ad (35 + 9 * i0))), (3, .long v3), (5, .int v5)] → W p l e { frames := 1, cells := 0, slots := 0, locals := 22 } s m args below meth c H locs 0 0 (MQ below (uQl D vwCl 99 ad (enX ad cs) r σ' s.heap.size) args s 0 0 (uAd 99 ad s.heap.size)) (F0 m 5 ls []) := by
  have hx := C.1.1
  have hb := C.1.2.1
  intro n
  induction n with
  | zero => intro σ i0 v3 v5 bi0 h; exact absurd h (by simp [f_X2_digestLayers_5])
  | succ fuel ih =>
    intro σ i0 v3 v5 bi0 h H locs ls G hl
    rw [f_X2_digestLayers_5] at h
    refine lv_iload hx hb dX2_digestLayers_5 (lv_at hl 2 rfl) ?_
    refine lv_aload_n hx hb dX2_digestLayers_7 rfl (lv_at hl 0 rfl) ?_
    refine u_get (v := .int (σ (35 + 9 * i0) 4)) C G (obX_line bi0) (ci := 2) (N := 5) (Cn := RX2) (T := TX2) rfl fi_X2_digestLayers_2 4 (by decide) (by decide +kernel) rfl dX2_digestLayers_8 ?_
    refine lv_icmp_ge (tgt := 51) hx hb dX2_digestLayers_11 (by decide) (fun q => ?_) (fun q => ?_)
    · have h := u_pos q h
      refine lv_lload_n hx hb dX2_digestLayers_51 rfl (lv_at hl 1 rfl) ?_
      obtain ⟨rfl, rfl⟩ := u_end h
      exact u_lret hx hb hr hlk G dX2_digestLayers_52
    · have h := u_neg q h
      refine lv_iconst (v := 0) hx hb dX2_digestLayers_14 (by decide) ?_
      refine lv_istore (lv' := [(6, .int 0), (0, .ref (ad (35 + 9 * i0))), (3, .long v3), (5, .int v5)]) hx hb dX2_digestLayers_15 hl (by decide) rfl (fun ls hl => ?_)
      exact w_X2_digestLayers_17 C hr hlk ih fu σ i0 v3 v5 0 bi0 h H locs ls G (lv_sub hl [1, 2, 3, 0] rfl)
set_option maxHeartbeats 4000000 in
set_option maxRecDepth 100000 in
theorem c_X2_digestLayers (l : Launch) (D : va_G) (ad : Nat → Nat) (cs : Nat → ClassId) (J : uJ 99 ad) (σ : St) (i0 : Nat) (v1 : Int64) (bi0 : i0 < 4) (r : Int64) (σ' : St) (h : f_X2_digestLayers σ i0 v1 = some (r, σ')) : uMl l yX2_digestLayers wsX2_digestLayers { frames := 1, cells := 0, slots := 0, locals := 22 } D vwCl (tyX cs) 99 ad (enX ad cs) [.ref (ad (35 + 9 * i0)), .long v1] σ r σ' := by
  refine u_met (Qf := uQl D vwCl 99 ad (enX ad cs) r σ') (cc := cX2_digestLayers) (maxL := 7) (ret := (some .long)) (lv := [(0, .ref (ad (35 + 9 * i0))), (1, .long v1)]) J (by decide) rfl (Nat.le_of_ble_eq_true rfl) rfl rfl rfl ?_
  intro p e s m args below meth c ls hx hb C hr hlk G hl
  unfold f_X2_digestLayers at h
  obtain ⟨H, eH⟩ : ∃ H, H = s.heap := ⟨_, rfl⟩
  obtain ⟨locs, eL⟩ : ∃ locs : List Loc, locs = [] := ⟨_, rfl⟩
  refine u_start eH eL G ?_
  clear G eH eL
  intro G
  refine lv_lload_n hx hb dX2_digestLayers_0 rfl (lv_at hl 1 rfl) ?_
  refine lv_lstore_n (lv' := [(3, .long v1), (0, .ref (ad (35 + 9 * i0))), (1, .long v1)]) hx hb dX2_digestLayers_1 rfl hl (by decide) rfl (fun ls hl => ?_)
  refine lv_iconst (v := 0) hx hb dX2_digestLayers_2 (by decide) ?_
  refine lv_istore (lv' := [(5, .int 0), (3, .long v1), (0, .ref (ad (35 + 9 * i0))), (1, .long v1)]) hx hb dX2_digestLayers_3 hl (by decide) rfl (fun ls hl => ?_)
  exact w_X2_digestLayers_5 C hr hlk fu σ i0 v1 0 bi0 h H locs ls G (lv_sub hl [2, 1, 0] rfl)
/-! X3_tries -/
def f_X3_tries_17 (k5 : St → Nat → Nat → Int32 → Int32 → Option (Int32 × St)) : Nat → St → Nat → Nat → Int32 → Int32 → Int32 → Option (Int32 × St)
  | 0, _, _, _, _, _, _ => none
  | fuel + 1, σ, i1, i2, v3, v4, v5 =>
    if (σ (86 + 5 * i2) 4) ≤ v5 then
      ul (v4 + 1) fun x1 =>
      k5 σ i1 i2 v3 x1
    else
      ui v4 160 <|
      ui v5 160 <|
      if (σ (86 + 5 * i1 + 1) v4.toNatClampNeg) = (σ (86 + 5 * i2 + 1) v5.toNatClampNeg) then
        ul (v5 + 1) fun x4 =>
        f_X3_tries_17 k5 fuel σ i1 i2 v3 v4 x4
      else
        ul (v3 + 1) fun x5 =>
        ul (v5 + 1) fun x6 =>
        f_X3_tries_17 k5 fuel σ i1 i2 x5 v4 x6
def f_X3_tries_5 : Nat → St → Nat → Nat → Int32 → Int32 → Option (Int32 × St)
  | 0, _, _, _, _, _ => none
  | fuel + 1, σ, i1, i2, v3, v4 =>
    if (σ (86 + 5 * i1) 4) ≤ v4 then
      some (v3, σ)
    else
      f_X3_tries_17 (f_X3_tries_5 fuel) fu σ i1 i2 v3 v4 0
def f_X3_tries (σ : St) (i1 : Nat) (i2 : Nat) : Option (Int32 × St) :=
  f_X3_tries_5 fu σ i1 i2 0 0
theorem fi_X3_tries_4 : ∀ w ∈ u_ws RX4 TX4 5, w ∈ wsX3_tries := by decide +kernel
set_option maxHeartbeats 4000000 in
set_option maxRecDepth 100000 in
theorem w_X3_tries_17 {p : Program} {l : Launch} {e : Env} {s : State} {m : MethodId} {args : Array Value} {below : List Frame} {meth : Method} {c : Code} {D : va_G} {ad : Nat → Nat} {cs : Nat → ClassId} (C : uC p { frames := 0, cells := 0, slots := 0, locals := 0 } s m args c cX3_tries 6 wsX3_tries RX3 D vwCl (tyX cs) 99 ad (uAd 99 ad s.heap.size) 0 0) (hr : meth.sig.returnType = (some .int)) (hlk : meth.locks = false) {r : Int32} {σ' : St} {k5 : St → Nat → Nat → Int32 → Int32 → Option (Int32 × St)} (hk5 : ∀ (σ : St) (i1 : Nat) (i2 : Nat) (v3 : Int32) (v4 : Int32) (bi1 : i1 < 2) (bi2 : i2 < 2), k5 σ i1 i2 v3 v4 = some (r, σ') → ∀ (H : Heap) (locs : List Loc) (ls : Array Slot), uG D vwCl 99 ad (enX ad cs) (uAd 99 ad s.heap.size) s σ H locs → lv_has ls 6 [(1, .ref (ad (86 + 5 * i1))), (2, .ref (ad (86 + 5 * i2))), (3, .int v3), (4, .int v4)] → W p l e { frames := 0, cells := 0, slots := 0, locals := 0 } s m args below meth c H locs 0 0 (MQ below (uQi D vwCl 99 ad (enX ad cs) r σ' s.heap.size) args s 0 0 (uAd 99 ad s.heap.size)) (F0 m 5 ls [])) :
    ∀ (n : Nat) (σ : St) (i1 : Nat) (i2 : Nat) (v3 : Int32) (v4 : Int32) (v5 : Int32) (bi1 : i1 < 2) (bi2 : i2 < 2), f_X3_tries_17 k5 n σ i1 i2 v3 v4 v5 = some (r, σ') → ∀ (H : Heap) (locs : List Loc) (ls : Array Slot), uG D vwCl 99 ad (enX ad cs) (uAd 99 ad s.heap.size) s σ H locs → lv_has ls 6 [(1, .ref (ad (86 + 5 * i1))), (2, .ref (ad (86 + 5 * i2))), (3, .int v3), (4, .int v4), (5, .int v5)] → W p l e { frames := 0, cells := 0, slots := 0, locals := 0 } s m args below meth c H locs 0 0 (MQ below (uQi D vwCl 99 ad (enX ad cs) r σ' s.heap.size) args s 0 0 (uAd 99 ad s.heap.size)) (F0 m 17 ls []) := by
  have hx := C.1.1
  have hb := C.1.2.1
  intro n
  induction n with
  | zero => intro σ i1 i2 v3 v4 v5 bi1 bi2 h; exact absurd h (by simp [f_X3_tries_17])
  | succ fuel ih =>
    intro σ i1 i2 v3 v4 v5 bi1 bi2 h H locs ls G hl
    rw [f_X3_tries_17] at h
    refine lv_iload hx hb dX3_tries_17 (lv_at hl 4 rfl) ?_
    refine lv_aload_n hx hb dX3_tries_19 rfl (lv_at hl 1 rfl) ?_
    refine u_get (v := .int (σ (86 + 5 * i2) 4)) C G (obX_places bi2) (ci := 4) (N := 5) (Cn := RX4) (T := TX4) rfl fi_X3_tries_4 4 (by decide) (by decide +kernel) rfl dX3_tries_20 ?_
    refine lv_icmp_ge (tgt := 52) hx hb dX3_tries_23 (by decide) (fun q => ?_) (fun q => ?_)
    · have h := u_pos q h
      obtain ⟨x1, ex1, h⟩ := ul_of h
      refine lv_iinc (v := x1) (lv' := [(4, .int x1), (1, .ref (ad (86 + 5 * i1))), (2, .ref (ad (86 + 5 * i2))), (3, .int v3), (5, .int v5)]) hx hb dX3_tries_52 hl (k := 3) rfl (by rw [ex1]; rfl) (by decide) rfl (fun ls hl => ?_)
      refine lv_goto (tgt := 5) hx hb dX3_tries_55 (by decide) ?_
      exact hk5 σ i1 i2 v3 x1 bi1 bi2 h H locs ls G (lv_sub hl [1, 2, 3, 0] rfl)
    · have h := u_neg q h
      refine lv_aload_n hx hb dX3_tries_26 rfl (lv_at hl 0 rfl) ?_
      refine u_get (v := .ref (ad (86 + 5 * i1 + 1))) C G (obX_places bi1) (ci := 4) (N := 5) (Cn := RX4) (T := TX4) rfl fi_X3_tries_4 0 (by decide) (by decide +kernel) rfl dX3_tries_27 ?_
      refine lv_iload hx hb dX3_tries_30 (lv_at hl 3 rfl) ?_
      obtain ⟨g2, h⟩ := ui_of h
      refine u_iald C G (arX_pl1 bi1) (t0 := 0) rfl g2 dX3_tries_32 ?_
      refine lv_aload_n hx hb dX3_tries_33 rfl (lv_at hl 1 rfl) ?_
      refine u_get (v := .ref (ad (86 + 5 * i2 + 1))) C G (obX_places bi2) (ci := 4) (N := 5) (Cn := RX4) (T := TX4) rfl fi_X3_tries_4 0 (by decide) (by decide +kernel) rfl dX3_tries_34 ?_
      refine lv_iload hx hb dX3_tries_37 (lv_at hl 4 rfl) ?_
      obtain ⟨g3, h⟩ := ui_of h
      refine u_iald C G (arX_pl1 bi2) (t0 := 0) rfl g3 dX3_tries_39 ?_
      refine lv_icmp_eq (tgt := 46) hx hb dX3_tries_40 (by decide) (fun q => ?_) (fun q => ?_)
      · have h := u_pos q h
        obtain ⟨x4, ex4, h⟩ := ul_of h
        refine lv_iinc (v := x4) (lv' := [(5, .int x4), (1, .ref (ad (86 + 5 * i1))), (2, .ref (ad (86 + 5 * i2))), (3, .int v3), (4, .int v4)]) hx hb dX3_tries_46 hl (k := 4) rfl (by rw [ex4]; rfl) (by decide) rfl (fun ls hl => ?_)
        refine lv_goto (tgt := 17) hx hb dX3_tries_49 (by decide) ?_
        exact ih σ i1 i2 v3 v4 x4 bi1 bi2 h H locs ls G (lv_sub hl [1, 2, 3, 4, 0] rfl)
      · have h := u_neg q h
        obtain ⟨x5, ex5, h⟩ := ul_of h
        refine lv_iinc (v := x5) (lv' := [(3, .int x5), (1, .ref (ad (86 + 5 * i1))), (2, .ref (ad (86 + 5 * i2))), (4, .int v4), (5, .int v5)]) hx hb dX3_tries_43 hl (k := 2) rfl (by rw [ex5]; rfl) (by decide) rfl (fun ls hl => ?_)
        obtain ⟨x6, ex6, h⟩ := ul_of h
        refine lv_iinc (v := x6) (lv' := [(5, .int x6), (3, .int x5), (1, .ref (ad (86 + 5 * i1))), (2, .ref (ad (86 + 5 * i2))), (4, .int v4)]) hx hb dX3_tries_46 hl (k := 4) rfl (by rw [ex6]; rfl) (by decide) rfl (fun ls hl => ?_)
        refine lv_goto (tgt := 17) hx hb dX3_tries_49 (by decide) ?_
        exact ih σ i1 i2 x5 v4 x6 bi1 bi2 h H locs ls G (lv_sub hl [2, 3, 1, 4, 0] rfl)
set_option maxHeartbeats 4000000 in
set_option maxRecDepth 100000 in
theorem w_X3_tries_5 {p : Program} {l : Launch} {e : Env} {s : State} {m : MethodId} {args : Array Value} {below : List Frame} {meth : Method} {c : Code} {D : va_G} {ad : Nat → Nat} {cs : Nat → ClassId} (C : uC p { frames := 0, cells := 0, slots := 0, locals := 0 } s m args c cX3_tries 6 wsX3_tries RX3 D vwCl (tyX cs) 99 ad (uAd 99 ad s.heap.size) 0 0) (hr : meth.sig.returnType = (some .int)) (hlk : meth.locks = false) {r : Int32} {σ' : St} :
    ∀ (n : Nat) (σ : St) (i1 : Nat) (i2 : Nat) (v3 : Int32) (v4 : Int32) (bi1 : i1 < 2) (bi2 : i2 < 2), f_X3_tries_5 n σ i1 i2 v3 v4 = some (r, σ') → ∀ (H : Heap) (locs : List Loc) (ls : Array Slot), uG D vwCl 99 ad (enX ad cs) (uAd 99 ad s.heap.size) s σ H locs → lv_has ls 6 [(1, .ref (ad (86 + 5 * i1))), (2, .ref (ad (86 + 5 * i2))), (3, .int v3), (4, .int v4)] → W p l e { frames := 0, cells := 0, slots := 0, locals := 0 } s m args below meth c H locs 0 0 (MQ below (uQi D vwCl 99 ad (enX ad cs) r σ' s.heap.size) args s 0 0 (uAd 99 ad s.heap.size)) (F0 m 5 ls []) := by
  have hx := C.1.1
  have hb := C.1.2.1
  intro n
  induction n with
  | zero => intro σ i1 i2 v3 v4 bi1 bi2 h; exact absurd h (by simp [f_X3_tries_5])
  | succ fuel ih =>
    intro σ i1 i2 v3 v4 bi1 bi2 h H locs ls G hl
    rw [f_X3_tries_5] at h
    refine lv_iload hx hb dX3_tries_5 (lv_at hl 3 rfl) ?_
    refine lv_aload_n hx hb dX3_tries_7 rfl (lv_at hl 0 rfl) ?_
    refine u_get (v := .int (σ (86 + 5 * i1) 4)) C G (obX_places bi1) (ci := 4) (N := 5) (Cn := RX4) (T := TX4) rfl fi_X3_tries_4 4 (by decide) (by decide +kernel) rfl dX3_tries_8 ?_
    refine lv_icmp_ge (tgt := 58) hx hb dX3_tries_11 (by decide) (fun q => ?_) (fun q => ?_)
    · have h := u_pos q h
      refine lv_iload_n hx hb dX3_tries_58 rfl (lv_at hl 2 rfl) ?_
      obtain ⟨rfl, rfl⟩ := u_end h
      exact u_iret hx hb hr hlk G dX3_tries_59
    · have h := u_neg q h
      refine lv_iconst (v := 0) hx hb dX3_tries_14 (by decide) ?_
      refine lv_istore (lv' := [(5, .int 0), (1, .ref (ad (86 + 5 * i1))), (2, .ref (ad (86 + 5 * i2))), (3, .int v3), (4, .int v4)]) hx hb dX3_tries_15 hl (by decide) rfl (fun ls hl => ?_)
      exact w_X3_tries_17 C hr hlk ih fu σ i1 i2 v3 v4 0 bi1 bi2 h H locs ls G (lv_sub hl [1, 2, 3, 4, 0] rfl)
set_option maxHeartbeats 4000000 in
set_option maxRecDepth 100000 in
theorem c_X3_tries (l : Launch) (D : va_G) (ad : Nat → Nat) (cs : Nat → ClassId) (J : uJ 99 ad) (σ : St) (i1 : Nat) (i2 : Nat) (bi1 : i1 < 2) (bi2 : i2 < 2) (r : Int32) (σ' : St) (h : f_X3_tries σ i1 i2 = some (r, σ')) : uMi l yX3_tries wsX3_tries { frames := 0, cells := 0, slots := 0, locals := 0 } D vwCl (tyX cs) 99 ad (enX ad cs) [.ref (ad 96), .ref (ad (86 + 5 * i1)), .ref (ad (86 + 5 * i2))] σ r σ' := by
  refine u_met (Qf := uQi D vwCl 99 ad (enX ad cs) r σ') (cc := cX3_tries) (maxL := 6) (ret := (some .int)) (lv := [(0, .ref (ad 96)), (1, .ref (ad (86 + 5 * i1))), (2, .ref (ad (86 + 5 * i2)))]) J (by decide) rfl (Nat.le_of_ble_eq_true rfl) rfl rfl rfl ?_
  intro p e s m args below meth c ls hx hb C hr hlk G hl
  unfold f_X3_tries at h
  obtain ⟨H, eH⟩ : ∃ H, H = s.heap := ⟨_, rfl⟩
  obtain ⟨locs, eL⟩ : ∃ locs : List Loc, locs = [] := ⟨_, rfl⟩
  refine u_start eH eL G ?_
  clear G eH eL
  intro G
  refine lv_iconst (v := 0) hx hb dX3_tries_0 (by decide) ?_
  refine lv_istore_n (lv' := [(3, .int 0), (0, .ref (ad 96)), (1, .ref (ad (86 + 5 * i1))), (2, .ref (ad (86 + 5 * i2)))]) hx hb dX3_tries_1 rfl hl (by decide) rfl (fun ls hl => ?_)
  refine lv_iconst (v := 0) hx hb dX3_tries_2 (by decide) ?_
  refine lv_istore (lv' := [(4, .int 0), (3, .int 0), (0, .ref (ad 96)), (1, .ref (ad (86 + 5 * i1))), (2, .ref (ad (86 + 5 * i2)))]) hx hb dX3_tries_3 hl (by decide) rfl (fun ls hl => ?_)
  exact w_X3_tries_5 C hr hlk fu σ i1 i2 0 0 bi1 bi2 h H locs ls G (lv_sub hl [3, 4, 1, 0] rfl)
/-! X3_take -/
def f_X3_take (σ : St) (v1 : Int32) (v2 : Int32) (v3 : Int32) (v4 : Int32) : Option (Unit × St) :=
  if (σ 96 0) = (-9) then
    ul (us σ 96 0 v1) fun σ1 =>
    ul (us σ1 96 1 v2) fun σ2 =>
    ul (us σ2 96 2 v3) fun σ3 =>
    ug (unz v4) <|
    ul (us σ3 96 3 v4) fun σ4 =>
    some ((), σ4)
  else
    if (σ 96 0) ≤ v1 then
      some ((), σ)
    else
      ul (us σ 96 0 v1) fun σ5 =>
      ul (us σ5 96 1 v2) fun σ6 =>
      ul (us σ6 96 2 v3) fun σ7 =>
      ug (unz v4) <|
      ul (us σ7 96 3 v4) fun σ8 =>
      some ((), σ8)
theorem fi_X3_take_3 : ∀ w ∈ u_ws RX3 TX3 4, w ∈ wsX3_take := by decide +kernel
set_option maxHeartbeats 4000000 in
set_option maxRecDepth 100000 in
theorem c_X3_take (l : Launch) (D : va_G) (ad : Nat → Nat) (cs : Nat → ClassId) (J : uJ 99 ad) (σ : St) (v1 : Int32) (v2 : Int32) (v3 : Int32) (v4 : Int32) (r : Unit) (σ' : St) (h : f_X3_take σ v1 v2 v3 v4 = some (r, σ')) : uMv l yX3_take wsX3_take { frames := 0, cells := 0, slots := 0, locals := 0 } D vwCl (tyX cs) 99 ad (enX ad cs) [.ref (ad 96), .int v1, .int v2, .int v3, .int v4] σ σ' := by
  refine u_met (Qf := uQv D vwCl 99 ad (enX ad cs) σ') (cc := cX3_take) (maxL := 5) (ret := none) (lv := [(0, .ref (ad 96)), (1, .int v1), (2, .int v2), (3, .int v3), (4, .int v4)]) J (by decide) rfl (Nat.le_of_ble_eq_true rfl) rfl rfl rfl ?_
  intro p e s m args below meth c ls hx hb C hr hlk G hl
  unfold f_X3_take at h
  obtain ⟨H, eH⟩ : ∃ H, H = s.heap := ⟨_, rfl⟩
  obtain ⟨locs, eL⟩ : ∃ locs : List Loc, locs = [] := ⟨_, rfl⟩
  refine u_start eH eL G ?_
  clear G eH eL
  intro G
  refine lv_aload_n hx hb dX3_take_0 rfl (lv_at hl 0 rfl) ?_
  refine u_get (v := .int (σ 96 0)) C G obX_96 (ci := 3) (N := 4) (Cn := RX3) (T := TX3) rfl fi_X3_take_3 0 (by decide) (by decide +kernel) rfl dX3_take_1 ?_
  refine lv_bipush (v := (-9)) hx hb dX3_take_4 (by decide) ?_
  refine lv_icmp_eq (tgt := 17) hx hb dX3_take_6 (by decide) (fun q => ?_) (fun q => ?_)
  · have h := u_pos q h
    refine lv_aload_n hx hb dX3_take_17 rfl (lv_at hl 0 rfl) ?_
    refine lv_iload_n hx hb dX3_take_18 rfl (lv_at hl 1 rfl) ?_
    refine u_put (x := v1) (ty := .int) C G obX_96 (ci := 3) (N := 4) (Cn := RX3) (T := TX3) rfl fi_X3_take_3 tyX3 tyX3_ok nmX3 0 (by decide) (by decide +kernel) rfl (by decide +kernel) rfl rfl (fun f => by simp) (fun f => rfl) dX3_take_19 (fun H locs G => ?_)
    obtain ⟨σ1, eσ1, h⟩ := ul_of h
    replace G := uG_eq eσ1 G
    refine lv_aload_n hx hb dX3_take_22 rfl (lv_at hl 0 rfl) ?_
    refine lv_iload_n hx hb dX3_take_23 rfl (lv_at hl 2 rfl) ?_
    refine u_put (x := v2) (ty := .int) C G obX_96 (ci := 3) (N := 4) (Cn := RX3) (T := TX3) rfl fi_X3_take_3 tyX3 tyX3_ok nmX3 1 (by decide) (by decide +kernel) rfl (by decide +kernel) rfl rfl (fun f => by simp) (fun f => rfl) dX3_take_24 (fun H locs G => ?_)
    obtain ⟨σ2, eσ2, h⟩ := ul_of h
    replace G := uG_eq eσ2 G
    refine lv_aload_n hx hb dX3_take_27 rfl (lv_at hl 0 rfl) ?_
    refine lv_iload_n hx hb dX3_take_28 rfl (lv_at hl 3 rfl) ?_
    refine u_put (x := v3) (ty := .int) C G obX_96 (ci := 3) (N := 4) (Cn := RX3) (T := TX3) rfl fi_X3_take_3 tyX3 tyX3_ok nmX3 2 (by decide) (by decide +kernel) rfl (by decide +kernel) rfl rfl (fun f => by simp) (fun f => rfl) dX3_take_29 (fun H locs G => ?_)
    obtain ⟨σ3, eσ3, h⟩ := ul_of h
    replace G := uG_eq eσ3 G
    refine lv_aload_n hx hb dX3_take_32 rfl (lv_at hl 0 rfl) ?_
    refine lv_iload hx hb dX3_take_33 (lv_at hl 4 rfl) ?_
    obtain ⟨gz, h⟩ := ug_of h
    refine u_put (x := v4) (ty := .boolean) C G obX_96 (ci := 3) (N := 4) (Cn := RX3) (T := TX3) rfl fi_X3_take_3 tyX3 tyX3_ok nmX3 3 (by decide) (by decide +kernel) rfl (by decide +kernel) (unz_n gz) (unz_f gz) (fun f => by simp) (fun f => rfl) dX3_take_35 (fun H locs G => ?_)
    obtain ⟨σ4, eσ4, h⟩ := ul_of h
    replace G := uG_eq eσ4 G
    obtain ⟨-, rfl⟩ := u_end h
    exact u_vret hx hb hr hlk G dX3_take_38
  · have h := u_neg q h
    refine lv_iload_n hx hb dX3_take_9 rfl (lv_at hl 1 rfl) ?_
    refine lv_aload_n hx hb dX3_take_10 rfl (lv_at hl 0 rfl) ?_
    refine u_get (v := .int (σ 96 0)) C G obX_96 (ci := 3) (N := 4) (Cn := RX3) (T := TX3) rfl fi_X3_take_3 0 (by decide) (by decide +kernel) rfl dX3_take_11 ?_
    refine lv_icmp_ge (tgt := 38) hx hb dX3_take_14 (by decide) (fun q => ?_) (fun q => ?_)
    · have h := u_pos q h
      obtain ⟨-, rfl⟩ := u_end h
      exact u_vret hx hb hr hlk G dX3_take_38
    · have h := u_neg q h
      refine lv_aload_n hx hb dX3_take_17 rfl (lv_at hl 0 rfl) ?_
      refine lv_iload_n hx hb dX3_take_18 rfl (lv_at hl 1 rfl) ?_
      refine u_put (x := v1) (ty := .int) C G obX_96 (ci := 3) (N := 4) (Cn := RX3) (T := TX3) rfl fi_X3_take_3 tyX3 tyX3_ok nmX3 0 (by decide) (by decide +kernel) rfl (by decide +kernel) rfl rfl (fun f => by simp) (fun f => rfl) dX3_take_19 (fun H locs G => ?_)
      obtain ⟨σ5, eσ5, h⟩ := ul_of h
      replace G := uG_eq eσ5 G
      refine lv_aload_n hx hb dX3_take_22 rfl (lv_at hl 0 rfl) ?_
      refine lv_iload_n hx hb dX3_take_23 rfl (lv_at hl 2 rfl) ?_
      refine u_put (x := v2) (ty := .int) C G obX_96 (ci := 3) (N := 4) (Cn := RX3) (T := TX3) rfl fi_X3_take_3 tyX3 tyX3_ok nmX3 1 (by decide) (by decide +kernel) rfl (by decide +kernel) rfl rfl (fun f => by simp) (fun f => rfl) dX3_take_24 (fun H locs G => ?_)
      obtain ⟨σ6, eσ6, h⟩ := ul_of h
      replace G := uG_eq eσ6 G
      refine lv_aload_n hx hb dX3_take_27 rfl (lv_at hl 0 rfl) ?_
      refine lv_iload_n hx hb dX3_take_28 rfl (lv_at hl 3 rfl) ?_
      refine u_put (x := v3) (ty := .int) C G obX_96 (ci := 3) (N := 4) (Cn := RX3) (T := TX3) rfl fi_X3_take_3 tyX3 tyX3_ok nmX3 2 (by decide) (by decide +kernel) rfl (by decide +kernel) rfl rfl (fun f => by simp) (fun f => rfl) dX3_take_29 (fun H locs G => ?_)
      obtain ⟨σ7, eσ7, h⟩ := ul_of h
      replace G := uG_eq eσ7 G
      refine lv_aload_n hx hb dX3_take_32 rfl (lv_at hl 0 rfl) ?_
      refine lv_iload hx hb dX3_take_33 (lv_at hl 4 rfl) ?_
      obtain ⟨gz, h⟩ := ug_of h
      refine u_put (x := v4) (ty := .boolean) C G obX_96 (ci := 3) (N := 4) (Cn := RX3) (T := TX3) rfl fi_X3_take_3 tyX3 tyX3_ok nmX3 3 (by decide) (by decide +kernel) rfl (by decide +kernel) (unz_n gz) (unz_f gz) (fun f => by simp) (fun f => rfl) dX3_take_35 (fun H locs G => ?_)
      obtain ⟨σ8, eσ8, h⟩ := ul_of h
      replace G := uG_eq eσ8 G
      obtain ⟨-, rfl⟩ := u_end h
      exact u_vret hx hb hr hlk G dX3_take_38
/-! X3_seek -/
def f_X3_seek_19 (k8 : St → Nat → Nat → Int32 → Option (Int32 × St)) : Nat → St → Nat → Nat → Int32 → Int32 → Option (Int32 × St)
  | 0, _, _, _, _, _ => none
  | fuel + 1, σ, i1, i2, v3, v4 =>
    if (σ (86 + 5 * i2) 4) ≤ v4 then
      ul (v3 + 1) fun x2 =>
      k8 σ i1 i2 x2
    else
      ui v3 160 <|
      ui v4 160 <|
      if (σ (86 + 5 * i1 + 1) v3.toNatClampNeg) = (σ (86 + 5 * i2 + 1) v4.toNatClampNeg) then
        ul (v4 + 1) fun x5 =>
        f_X3_seek_19 k8 fuel σ i1 i2 v3 x5
      else
        ui v3 160 <|
        ui v4 160 <|
        ub (f_X3_take σ ((σ (86 + 5 * i1 + 4) v3.toNatClampNeg) + (σ (86 + 5 * i2 + 3) v4.toNatClampNeg)) v3 v4 (1 : Int32)) fun r8 σ9 =>
        ui v3 160 <|
        ui v4 160 <|
        ub (f_X3_take σ9 ((σ9 (86 + 5 * i1 + 3) v3.toNatClampNeg) + (σ9 (86 + 5 * i2 + 4) v4.toNatClampNeg)) v3 v4 (0 : Int32)) fun r12 σ13 =>
        ul (v4 + 1) fun x14 =>
        f_X3_seek_19 k8 fuel σ13 i1 i2 v3 x14
def f_X3_seek_8 : Nat → St → Nat → Nat → Int32 → Option (Int32 × St)
  | 0, _, _, _, _ => none
  | fuel + 1, σ, i1, i2, v3 =>
    if (σ (86 + 5 * i1) 4) ≤ v3 then
      if (σ 96 0) = (-9) then
        some ((0 : Int32), σ)
      else
        some ((1 : Int32), σ)
    else
      f_X3_seek_19 (f_X3_seek_8 fuel) fu σ i1 i2 v3 0
def f_X3_seek (σ : St) (i1 : Nat) (i2 : Nat) : Option (Int32 × St) :=
  ul (us σ 96 0 (-9)) fun σ1 =>
  f_X3_seek_8 fu σ1 i1 i2 0
theorem fi_X3_seek_3 : ∀ w ∈ u_ws RX3 TX3 4, w ∈ wsX3_seek := by decide +kernel
theorem fi_X3_seek_4 : ∀ w ∈ u_ws RX4 TX4 5, w ∈ wsX3_seek := by decide +kernel
set_option maxHeartbeats 4000000 in
set_option maxRecDepth 100000 in
theorem w_X3_seek_19 {p : Program} {l : Launch} {e : Env} {s : State} {m : MethodId} {args : Array Value} {below : List Frame} {meth : Method} {c : Code} {D : va_G} {ad : Nat → Nat} {cs : Nat → ClassId} (C : uC p { frames := 1, cells := 0, slots := 0, locals := 24 } s m args c cX3_seek 5 wsX3_seek RX3 D vwCl (tyX cs) 99 ad (uAd 99 ad s.heap.size) 0 0) (hr : meth.sig.returnType = (some .boolean)) (hlk : meth.locks = false) {r : Int32} {σ' : St} {k8 : St → Nat → Nat → Int32 → Option (Int32 × St)} (hk8 : ∀ (σ : St) (i1 : Nat) (i2 : Nat) (v3 : Int32) (bi1 : i1 < 2) (bi2 : i2 < 2), k8 σ i1 i2 v3 = some (r, σ') → ∀ (H : Heap) (locs : List Loc) (ls : Array Slot), uG D vwCl 99 ad (enX ad cs) (uAd 99 ad s.heap.size) s σ H locs → lv_has ls 5 [(0, .ref (ad 96)), (1, .ref (ad (86 + 5 * i1))), (2, .ref (ad (86 + 5 * i2))), (3, .int v3)] → W p l e { frames := 1, cells := 0, slots := 0, locals := 24 } s m args below meth c H locs 0 0 (MQ below (uQi D vwCl 99 ad (enX ad cs) r σ' s.heap.size) args s 0 0 (uAd 99 ad s.heap.size)) (F0 m 8 ls [])) :
    ∀ (n : Nat) (σ : St) (i1 : Nat) (i2 : Nat) (v3 : Int32) (v4 : Int32) (bi1 : i1 < 2) (bi2 : i2 < 2), f_X3_seek_19 k8 n σ i1 i2 v3 v4 = some (r, σ') → ∀ (H : Heap) (locs : List Loc) (ls : Array Slot), uG D vwCl 99 ad (enX ad cs) (uAd 99 ad s.heap.size) s σ H locs → lv_has ls 5 [(0, .ref (ad 96)), (1, .ref (ad (86 + 5 * i1))), (2, .ref (ad (86 + 5 * i2))), (3, .int v3), (4, .int v4)] → W p l e { frames := 1, cells := 0, slots := 0, locals := 24 } s m args below meth c H locs 0 0 (MQ below (uQi D vwCl 99 ad (enX ad cs) r σ' s.heap.size) args s 0 0 (uAd 99 ad s.heap.size)) (F0 m 19 ls []) := by
  have hx := C.1.1
  have hb := C.1.2.1
  intro n
  induction n with
  | zero => intro σ i1 i2 v3 v4 bi1 bi2 h; exact absurd h (by simp [f_X3_seek_19])
  | succ fuel ih =>
    intro σ i1 i2 v3 v4 bi1 bi2 h H locs ls G hl
    rw [f_X3_seek_19] at h
    refine lv_iload hx hb dX3_seek_19 (lv_at hl 4 rfl) ?_
    refine lv_aload_n hx hb dX3_seek_21 rfl (lv_at hl 2 rfl) ?_
    refine u_get (v := .int (σ (86 + 5 * i2) 4)) C G (obX_places bi2) (ci := 4) (N := 5) (Cn := RX4) (T := TX4) rfl fi_X3_seek_4 4 (by decide) (by decide +kernel) rfl dX3_seek_22 ?_
    refine lv_icmp_ge (tgt := 94) hx hb dX3_seek_25 (by decide) (fun q => ?_) (fun q => ?_)
    · have h := u_pos q h
      obtain ⟨x2, ex2, h⟩ := ul_of h
      refine lv_iinc (v := x2) (lv' := [(3, .int x2), (0, .ref (ad 96)), (1, .ref (ad (86 + 5 * i1))), (2, .ref (ad (86 + 5 * i2))), (4, .int v4)]) hx hb dX3_seek_94 hl (k := 3) rfl (by rw [ex2]; rfl) (by decide) rfl (fun ls hl => ?_)
      refine lv_goto (tgt := 8) hx hb dX3_seek_97 (by decide) ?_
      exact hk8 σ i1 i2 x2 bi1 bi2 h H locs ls G (lv_sub hl [1, 2, 3, 0] rfl)
    · have h := u_neg q h
      refine lv_aload_n hx hb dX3_seek_28 rfl (lv_at hl 1 rfl) ?_
      refine u_get (v := .ref (ad (86 + 5 * i1 + 1))) C G (obX_places bi1) (ci := 4) (N := 5) (Cn := RX4) (T := TX4) rfl fi_X3_seek_4 0 (by decide) (by decide +kernel) rfl dX3_seek_29 ?_
      refine lv_iload_n hx hb dX3_seek_32 rfl (lv_at hl 3 rfl) ?_
      obtain ⟨g3, h⟩ := ui_of h
      refine u_iald C G (arX_pl1 bi1) (t0 := 0) rfl g3 dX3_seek_33 ?_
      refine lv_aload_n hx hb dX3_seek_34 rfl (lv_at hl 2 rfl) ?_
      refine u_get (v := .ref (ad (86 + 5 * i2 + 1))) C G (obX_places bi2) (ci := 4) (N := 5) (Cn := RX4) (T := TX4) rfl fi_X3_seek_4 0 (by decide) (by decide +kernel) rfl dX3_seek_35 ?_
      refine lv_iload hx hb dX3_seek_38 (lv_at hl 4 rfl) ?_
      obtain ⟨g4, h⟩ := ui_of h
      refine u_iald C G (arX_pl1 bi2) (t0 := 0) rfl g4 dX3_seek_40 ?_
      refine lv_icmp_eq (tgt := 88) hx hb dX3_seek_41 (by decide) (fun q => ?_) (fun q => ?_)
      · have h := u_pos q h
        obtain ⟨x5, ex5, h⟩ := ul_of h
        refine lv_iinc (v := x5) (lv' := [(4, .int x5), (0, .ref (ad 96)), (1, .ref (ad (86 + 5 * i1))), (2, .ref (ad (86 + 5 * i2))), (3, .int v3)]) hx hb dX3_seek_88 hl (k := 4) rfl (by rw [ex5]; rfl) (by decide) rfl (fun ls hl => ?_)
        refine lv_goto (tgt := 19) hx hb dX3_seek_91 (by decide) ?_
        exact ih σ i1 i2 v3 x5 bi1 bi2 h H locs ls G (lv_sub hl [1, 2, 3, 4, 0] rfl)
      · have h := u_neg q h
        refine lv_aload_n hx hb dX3_seek_44 rfl (lv_at hl 0 rfl) ?_
        refine lv_aload_n hx hb dX3_seek_45 rfl (lv_at hl 1 rfl) ?_
        refine u_get (v := .ref (ad (86 + 5 * i1 + 4))) C G (obX_places bi1) (ci := 4) (N := 5) (Cn := RX4) (T := TX4) rfl fi_X3_seek_4 3 (by decide) (by decide +kernel) rfl dX3_seek_46 ?_
        refine lv_iload_n hx hb dX3_seek_49 rfl (lv_at hl 3 rfl) ?_
        obtain ⟨g6, h⟩ := ui_of h
        refine u_iald C G (arX_pl4 bi1) (t0 := 0) rfl g6 dX3_seek_50 ?_
        refine lv_aload_n hx hb dX3_seek_51 rfl (lv_at hl 2 rfl) ?_
        refine u_get (v := .ref (ad (86 + 5 * i2 + 3))) C G (obX_places bi2) (ci := 4) (N := 5) (Cn := RX4) (T := TX4) rfl fi_X3_seek_4 2 (by decide) (by decide +kernel) rfl dX3_seek_52 ?_
        refine lv_iload hx hb dX3_seek_55 (lv_at hl 4 rfl) ?_
        obtain ⟨g7, h⟩ := ui_of h
        refine u_iald C G (arX_pl3 bi2) (t0 := 0) rfl g7 dX3_seek_57 ?_
        refine lv_iadd hx hb dX3_seek_58 ?_
        refine lv_iload_n hx hb dX3_seek_59 rfl (lv_at hl 3 rfl) ?_
        refine lv_iload hx hb dX3_seek_60 (lv_at hl 4 rfl) ?_
        refine lv_iconst (v := 1) hx hb dX3_seek_62 (by decide) ?_
        obtain ⟨r8, σ9, er8, h⟩ := ub_of h
        refine u_callVv (As := [.int ((σ (86 + 5 * i1 + 4) v3.toNatClampNeg) + (σ (86 + 5 * i2 + 3) v4.toNatClampNeg)), .int v3, .int v4, .int 1]) (rest := []) C G (c_X3_take l D ad cs C.2.2.1 σ ((σ (86 + 5 * i1 + 4) v3.toNatClampNeg) + (σ (86 + 5 * i2 + 3) v4.toNatClampNeg)) v3 v4 (1 : Int32) r8 σ9 er8) (cwV 4 C.1.2.2.2.2 gX3_seek_X3_take rfl rfl rfl (by decide +kernel) ⟨Nat.le_of_ble_eq_true rfl, Nat.le_of_ble_eq_true rfl⟩) obX_96 (ci := 3) (T := TX3) rfl rfl hl rfl (Nat.le_of_ble_eq_true rfl) dX3_seek_63 (fun H locs G => ?_)
        refine lv_aload_n hx hb dX3_seek_66 rfl (lv_at hl 0 rfl) ?_
        refine lv_aload_n hx hb dX3_seek_67 rfl (lv_at hl 1 rfl) ?_
        refine u_get (v := .ref (ad (86 + 5 * i1 + 3))) C G (obX_places bi1) (ci := 4) (N := 5) (Cn := RX4) (T := TX4) rfl fi_X3_seek_4 2 (by decide) (by decide +kernel) rfl dX3_seek_68 ?_
        refine lv_iload_n hx hb dX3_seek_71 rfl (lv_at hl 3 rfl) ?_
        obtain ⟨g10, h⟩ := ui_of h
        refine u_iald C G (arX_pl3 bi1) (t0 := 0) rfl g10 dX3_seek_72 ?_
        refine lv_aload_n hx hb dX3_seek_73 rfl (lv_at hl 2 rfl) ?_
        refine u_get (v := .ref (ad (86 + 5 * i2 + 4))) C G (obX_places bi2) (ci := 4) (N := 5) (Cn := RX4) (T := TX4) rfl fi_X3_seek_4 3 (by decide) (by decide +kernel) rfl dX3_seek_74 ?_
        refine lv_iload hx hb dX3_seek_77 (lv_at hl 4 rfl) ?_
        obtain ⟨g11, h⟩ := ui_of h
        refine u_iald C G (arX_pl4 bi2) (t0 := 0) rfl g11 dX3_seek_79 ?_
        refine lv_iadd hx hb dX3_seek_80 ?_
        refine lv_iload_n hx hb dX3_seek_81 rfl (lv_at hl 3 rfl) ?_
        refine lv_iload hx hb dX3_seek_82 (lv_at hl 4 rfl) ?_
        refine lv_iconst (v := 0) hx hb dX3_seek_84 (by decide) ?_
        obtain ⟨r12, σ13, er12, h⟩ := ub_of h
        refine u_callVv (As := [.int ((σ9 (86 + 5 * i1 + 3) v3.toNatClampNeg) + (σ9 (86 + 5 * i2 + 4) v4.toNatClampNeg)), .int v3, .int v4, .int 0]) (rest := []) C G (c_X3_take l D ad cs C.2.2.1 σ9 ((σ9 (86 + 5 * i1 + 3) v3.toNatClampNeg) + (σ9 (86 + 5 * i2 + 4) v4.toNatClampNeg)) v3 v4 (0 : Int32) r12 σ13 er12) (cwV 4 C.1.2.2.2.2 gX3_seek_X3_take rfl rfl rfl (by decide +kernel) ⟨Nat.le_of_ble_eq_true rfl, Nat.le_of_ble_eq_true rfl⟩) obX_96 (ci := 3) (T := TX3) rfl rfl hl rfl (Nat.le_of_ble_eq_true rfl) dX3_seek_85 (fun H locs G => ?_)
        obtain ⟨x14, ex14, h⟩ := ul_of h
        refine lv_iinc (v := x14) (lv' := [(4, .int x14), (0, .ref (ad 96)), (1, .ref (ad (86 + 5 * i1))), (2, .ref (ad (86 + 5 * i2))), (3, .int v3)]) hx hb dX3_seek_88 hl (k := 4) rfl (by rw [ex14]; rfl) (by decide) rfl (fun ls hl => ?_)
        refine lv_goto (tgt := 19) hx hb dX3_seek_91 (by decide) ?_
        exact ih σ13 i1 i2 v3 x14 bi1 bi2 h H locs ls G (lv_sub hl [1, 2, 3, 4, 0] rfl)
set_option maxHeartbeats 4000000 in
set_option maxRecDepth 100000 in
theorem w_X3_seek_8 {p : Program} {l : Launch} {e : Env} {s : State} {m : MethodId} {args : Array Value} {below : List Frame} {meth : Method} {c : Code} {D : va_G} {ad : Nat → Nat} {cs : Nat → ClassId} (C : uC p { frames := 1, cells := 0, slots := 0, locals := 24 } s m args c cX3_seek 5 wsX3_seek RX3 D vwCl (tyX cs) 99 ad (uAd 99 ad s.heap.size) 0 0) (hr : meth.sig.returnType = (some .boolean)) (hlk : meth.locks = false) {r : Int32} {σ' : St} :
    ∀ (n : Nat) (σ : St) (i1 : Nat) (i2 : Nat) (v3 : Int32) (bi1 : i1 < 2) (bi2 : i2 < 2), f_X3_seek_8 n σ i1 i2 v3 = some (r, σ') → ∀ (H : Heap) (locs : List Loc) (ls : Array Slot), uG D vwCl 99 ad (enX ad cs) (uAd 99 ad s.heap.size) s σ H locs → lv_has ls 5 [(0, .ref (ad 96)), (1, .ref (ad (86 + 5 * i1))), (2, .ref (ad (86 + 5 * i2))), (3, .int v3)] → W p l e { frames := 1, cells := 0, slots := 0, locals := 24 } s m args below meth c H locs 0 0 (MQ below (uQi D vwCl 99 ad (enX ad cs) r σ' s.heap.size) args s 0 0 (uAd 99 ad s.heap.size)) (F0 m 8 ls []) := by
  have hx := C.1.1
  have hb := C.1.2.1
  intro n
  induction n with
  | zero => intro σ i1 i2 v3 bi1 bi2 h; exact absurd h (by simp [f_X3_seek_8])
  | succ fuel ih =>
    intro σ i1 i2 v3 bi1 bi2 h H locs ls G hl
    rw [f_X3_seek_8] at h
    refine lv_iload_n hx hb dX3_seek_8 rfl (lv_at hl 3 rfl) ?_
    refine lv_aload_n hx hb dX3_seek_9 rfl (lv_at hl 1 rfl) ?_
    refine u_get (v := .int (σ (86 + 5 * i1) 4)) C G (obX_places bi1) (ci := 4) (N := 5) (Cn := RX4) (T := TX4) rfl fi_X3_seek_4 4 (by decide) (by decide +kernel) rfl dX3_seek_10 ?_
    refine lv_icmp_ge (tgt := 100) hx hb dX3_seek_13 (by decide) (fun q => ?_) (fun q => ?_)
    · have h := u_pos q h
      refine lv_aload_n hx hb dX3_seek_100 rfl (lv_at hl 0 rfl) ?_
      refine u_get (v := .int (σ 96 0)) C G obX_96 (ci := 3) (N := 4) (Cn := RX3) (T := TX3) rfl fi_X3_seek_3 0 (by decide) (by decide +kernel) rfl dX3_seek_101 ?_
      refine lv_bipush (v := (-9)) hx hb dX3_seek_104 (by decide) ?_
      refine lv_icmp_eq (tgt := 113) hx hb dX3_seek_106 (by decide) (fun q => ?_) (fun q => ?_)
      · have h := u_pos q h
        refine lv_iconst (v := 0) hx hb dX3_seek_113 (by decide) ?_
        obtain ⟨rfl, rfl⟩ := u_end h
        exact u_zret hx hb hr hlk G (by decide) dX3_seek_114
      · have h := u_neg q h
        refine lv_iconst (v := 1) hx hb dX3_seek_109 (by decide) ?_
        refine lv_goto (tgt := 114) hx hb dX3_seek_110 (by decide) ?_
        obtain ⟨rfl, rfl⟩ := u_end h
        exact u_zret hx hb hr hlk G (by decide) dX3_seek_114
    · have h := u_neg q h
      refine lv_iconst (v := 0) hx hb dX3_seek_16 (by decide) ?_
      refine lv_istore (lv' := [(4, .int 0), (0, .ref (ad 96)), (1, .ref (ad (86 + 5 * i1))), (2, .ref (ad (86 + 5 * i2))), (3, .int v3)]) hx hb dX3_seek_17 hl (by decide) rfl (fun ls hl => ?_)
      exact w_X3_seek_19 C hr hlk ih fu σ i1 i2 v3 0 bi1 bi2 h H locs ls G (lv_sub hl [1, 2, 3, 4, 0] rfl)
set_option maxHeartbeats 4000000 in
set_option maxRecDepth 100000 in
theorem c_X3_seek (l : Launch) (D : va_G) (ad : Nat → Nat) (cs : Nat → ClassId) (J : uJ 99 ad) (σ : St) (i1 : Nat) (i2 : Nat) (bi1 : i1 < 2) (bi2 : i2 < 2) (r : Int32) (σ' : St) (h : f_X3_seek σ i1 i2 = some (r, σ')) : uMi l yX3_seek wsX3_seek { frames := 1, cells := 0, slots := 0, locals := 24 } D vwCl (tyX cs) 99 ad (enX ad cs) [.ref (ad 96), .ref (ad (86 + 5 * i1)), .ref (ad (86 + 5 * i2))] σ r σ' := by
  refine u_met (Qf := uQi D vwCl 99 ad (enX ad cs) r σ') (cc := cX3_seek) (maxL := 5) (ret := (some .boolean)) (lv := [(0, .ref (ad 96)), (1, .ref (ad (86 + 5 * i1))), (2, .ref (ad (86 + 5 * i2)))]) J (by decide) rfl (Nat.le_of_ble_eq_true rfl) rfl rfl rfl ?_
  intro p e s m args below meth c ls hx hb C hr hlk G hl
  unfold f_X3_seek at h
  obtain ⟨H, eH⟩ : ∃ H, H = s.heap := ⟨_, rfl⟩
  obtain ⟨locs, eL⟩ : ∃ locs : List Loc, locs = [] := ⟨_, rfl⟩
  refine u_start eH eL G ?_
  clear G eH eL
  intro G
  refine lv_aload_n hx hb dX3_seek_0 rfl (lv_at hl 0 rfl) ?_
  refine lv_bipush (v := (-9)) hx hb dX3_seek_1 (by decide) ?_
  refine u_put (x := (-9)) (ty := .int) C G obX_96 (ci := 3) (N := 4) (Cn := RX3) (T := TX3) rfl fi_X3_seek_3 tyX3 tyX3_ok nmX3 0 (by decide) (by decide +kernel) rfl (by decide +kernel) rfl rfl (fun f => by simp) (fun f => rfl) dX3_seek_3 (fun H locs G => ?_)
  obtain ⟨σ1, eσ1, h⟩ := ul_of h
  replace G := uG_eq eσ1 G
  refine lv_iconst (v := 0) hx hb dX3_seek_6 (by decide) ?_
  refine lv_istore_n (lv' := [(3, .int 0), (0, .ref (ad 96)), (1, .ref (ad (86 + 5 * i1))), (2, .ref (ad (86 + 5 * i2)))]) hx hb dX3_seek_7 rfl hl (by decide) rfl (fun ls hl => ?_)
  exact w_X3_seek_8 C hr hlk fu σ1 i1 i2 0 bi1 bi2 h H locs ls G (lv_sub hl [1, 2, 3, 0] rfl)
/-! X4_add -/
def f_X4_add (σ : St) (i0 : Nat) (v1 : Int32) (v2 : Int32) (v3 : Int32) (v4 : Int32) : Option (Unit × St) :=
  ui (σ (86 + 5 * i0) 4) 160 <|
  ul (us σ (86 + 5 * i0 + 1) (σ (86 + 5 * i0) 4).toNatClampNeg v1) fun σ2 =>
  ui (σ2 (86 + 5 * i0) 4) 160 <|
  ul (us σ2 (86 + 5 * i0 + 2) (σ2 (86 + 5 * i0) 4).toNatClampNeg v2) fun σ4 =>
  ui (σ4 (86 + 5 * i0) 4) 160 <|
  ul (us σ4 (86 + 5 * i0 + 3) (σ4 (86 + 5 * i0) 4).toNatClampNeg v3) fun σ6 =>
  ui (σ6 (86 + 5 * i0) 4) 160 <|
  ul (us σ6 (86 + 5 * i0 + 4) (σ6 (86 + 5 * i0) 4).toNatClampNeg v4) fun σ8 =>
  ul (us σ8 (86 + 5 * i0) 4 ((σ8 (86 + 5 * i0) 4) + 1)) fun σ9 =>
  some ((), σ9)
theorem fi_X4_add_4 : ∀ w ∈ u_ws RX4 TX4 5, w ∈ wsX4_add := by decide +kernel
set_option maxHeartbeats 4000000 in
set_option maxRecDepth 100000 in
theorem c_X4_add (l : Launch) (D : va_G) (ad : Nat → Nat) (cs : Nat → ClassId) (J : uJ 99 ad) (σ : St) (i0 : Nat) (v1 : Int32) (v2 : Int32) (v3 : Int32) (v4 : Int32) (bi0 : i0 < 2) (r : Unit) (σ' : St) (h : f_X4_add σ i0 v1 v2 v3 v4 = some (r, σ')) : uMv l yX4_add wsX4_add { frames := 0, cells := 0, slots := 0, locals := 0 } D vwCl (tyX cs) 99 ad (enX ad cs) [.ref (ad (86 + 5 * i0)), .int v1, .int v2, .int v3, .int v4] σ σ' := by
  refine u_met (Qf := uQv D vwCl 99 ad (enX ad cs) σ') (cc := cX4_add) (maxL := 5) (ret := none) (lv := [(0, .ref (ad (86 + 5 * i0))), (1, .int v1), (2, .int v2), (3, .int v3), (4, .int v4)]) J (by decide) rfl (Nat.le_of_ble_eq_true rfl) rfl rfl rfl ?_
  intro p e s m args below meth c ls hx hb C hr hlk G hl
  unfold f_X4_add at h
  obtain ⟨H, eH⟩ : ∃ H, H = s.heap := ⟨_, rfl⟩
  obtain ⟨locs, eL⟩ : ∃ locs : List Loc, locs = [] := ⟨_, rfl⟩
  refine u_start eH eL G ?_
  clear G eH eL
  intro G
  refine lv_aload_n hx hb dX4_add_0 rfl (lv_at hl 0 rfl) ?_
  refine u_get (v := .ref (ad (86 + 5 * i0 + 1))) C G (obX_places bi0) (ci := 4) (N := 5) (Cn := RX4) (T := TX4) rfl fi_X4_add_4 0 (by decide) (by decide +kernel) rfl dX4_add_1 ?_
  refine lv_aload_n hx hb dX4_add_4 rfl (lv_at hl 0 rfl) ?_
  refine u_get (v := .int (σ (86 + 5 * i0) 4)) C G (obX_places bi0) (ci := 4) (N := 5) (Cn := RX4) (T := TX4) rfl fi_X4_add_4 4 (by decide) (by decide +kernel) rfl dX4_add_5 ?_
  refine lv_iload_n hx hb dX4_add_8 rfl (lv_at hl 1 rfl) ?_
  obtain ⟨g1, h⟩ := ui_of h
  refine u_iast C G (arX_pl1 bi0) (t0 := 0) rfl g1 dX4_add_9 (fun H locs G => ?_)
  obtain ⟨σ2, eσ2, h⟩ := ul_of h
  replace G := uG_eq eσ2 G
  refine lv_aload_n hx hb dX4_add_10 rfl (lv_at hl 0 rfl) ?_
  refine u_get (v := .ref (ad (86 + 5 * i0 + 2))) C G (obX_places bi0) (ci := 4) (N := 5) (Cn := RX4) (T := TX4) rfl fi_X4_add_4 1 (by decide) (by decide +kernel) rfl dX4_add_11 ?_
  refine lv_aload_n hx hb dX4_add_14 rfl (lv_at hl 0 rfl) ?_
  refine u_get (v := .int (σ2 (86 + 5 * i0) 4)) C G (obX_places bi0) (ci := 4) (N := 5) (Cn := RX4) (T := TX4) rfl fi_X4_add_4 4 (by decide) (by decide +kernel) rfl dX4_add_15 ?_
  refine lv_iload_n hx hb dX4_add_18 rfl (lv_at hl 2 rfl) ?_
  obtain ⟨g3, h⟩ := ui_of h
  refine u_iast C G (arX_pl2 bi0) (t0 := 0) rfl g3 dX4_add_19 (fun H locs G => ?_)
  obtain ⟨σ4, eσ4, h⟩ := ul_of h
  replace G := uG_eq eσ4 G
  refine lv_aload_n hx hb dX4_add_20 rfl (lv_at hl 0 rfl) ?_
  refine u_get (v := .ref (ad (86 + 5 * i0 + 3))) C G (obX_places bi0) (ci := 4) (N := 5) (Cn := RX4) (T := TX4) rfl fi_X4_add_4 2 (by decide) (by decide +kernel) rfl dX4_add_21 ?_
  refine lv_aload_n hx hb dX4_add_24 rfl (lv_at hl 0 rfl) ?_
  refine u_get (v := .int (σ4 (86 + 5 * i0) 4)) C G (obX_places bi0) (ci := 4) (N := 5) (Cn := RX4) (T := TX4) rfl fi_X4_add_4 4 (by decide) (by decide +kernel) rfl dX4_add_25 ?_
  refine lv_iload_n hx hb dX4_add_28 rfl (lv_at hl 3 rfl) ?_
  obtain ⟨g5, h⟩ := ui_of h
  refine u_iast C G (arX_pl3 bi0) (t0 := 0) rfl g5 dX4_add_29 (fun H locs G => ?_)
  obtain ⟨σ6, eσ6, h⟩ := ul_of h
  replace G := uG_eq eσ6 G
  refine lv_aload_n hx hb dX4_add_30 rfl (lv_at hl 0 rfl) ?_
  refine u_get (v := .ref (ad (86 + 5 * i0 + 4))) C G (obX_places bi0) (ci := 4) (N := 5) (Cn := RX4) (T := TX4) rfl fi_X4_add_4 3 (by decide) (by decide +kernel) rfl dX4_add_31 ?_
  refine lv_aload_n hx hb dX4_add_34 rfl (lv_at hl 0 rfl) ?_
  refine u_get (v := .int (σ6 (86 + 5 * i0) 4)) C G (obX_places bi0) (ci := 4) (N := 5) (Cn := RX4) (T := TX4) rfl fi_X4_add_4 4 (by decide) (by decide +kernel) rfl dX4_add_35 ?_
  refine lv_iload hx hb dX4_add_38 (lv_at hl 4 rfl) ?_
  obtain ⟨g7, h⟩ := ui_of h
  refine u_iast C G (arX_pl4 bi0) (t0 := 0) rfl g7 dX4_add_40 (fun H locs G => ?_)
  obtain ⟨σ8, eσ8, h⟩ := ul_of h
  replace G := uG_eq eσ8 G
  refine lv_aload_n hx hb dX4_add_41 rfl (lv_at hl 0 rfl) ?_
  refine lv_dup hx hb dX4_add_42 rfl ?_
  refine u_get (v := .int (σ8 (86 + 5 * i0) 4)) C G (obX_places bi0) (ci := 4) (N := 5) (Cn := RX4) (T := TX4) rfl fi_X4_add_4 4 (by decide) (by decide +kernel) rfl dX4_add_43 ?_
  refine lv_iconst (v := 1) hx hb dX4_add_46 (by decide) ?_
  refine lv_iadd hx hb dX4_add_47 ?_
  refine u_put (x := ((σ8 (86 + 5 * i0) 4) + 1)) (ty := .int) C G (obX_places bi0) (ci := 4) (N := 5) (Cn := RX4) (T := TX4) rfl fi_X4_add_4 tyX4 tyX4_ok nmX4 4 (by decide) (by decide +kernel) rfl (by decide +kernel) rfl rfl (fun f => by simp) (fun f => rfl) dX4_add_48 (fun H locs G => ?_)
  obtain ⟨σ9, eσ9, h⟩ := ul_of h
  replace G := uG_eq eσ9 G
  obtain ⟨-, rfl⟩ := u_end h
  exact u_vret hx hb hr hlk G dX4_add_51
/-! X4_leastLack -/
def f_X4_leastLack_5 : Nat → St → Nat → Int32 → Int32 → Option (Int32 × St)
  | 0, _, _, _, _ => none
  | fuel + 1, σ, i0, v1, v2 =>
    if (σ (86 + 5 * i0) 4) ≤ v2 then
      some (v1, σ)
    else
      if v2 = 0 then
        ui v2 160 <|
        ul (σ (86 + 5 * i0 + 3) v2.toNatClampNeg) fun x5 =>
        ul (v2 + 1) fun x6 =>
        f_X4_leastLack_5 fuel σ i0 x5 x6
      else
        ui v2 160 <|
        ul (if (σ (86 + 5 * i0 + 3) v2.toNatClampNeg) < v1 then (σ (86 + 5 * i0 + 3) v2.toNatClampNeg) else v1) fun x2 =>
        ul (v2 + 1) fun x3 =>
        f_X4_leastLack_5 fuel σ i0 x2 x3
def f_X4_leastLack (σ : St) (i0 : Nat) : Option (Int32 × St) :=
  f_X4_leastLack_5 fu σ i0 (-9) 0
theorem fi_X4_leastLack_4 : ∀ w ∈ u_ws RX4 TX4 5, w ∈ wsX4_leastLack := by decide +kernel
set_option maxHeartbeats 4000000 in
set_option maxRecDepth 100000 in
theorem w_X4_leastLack_5 {p : Program} {l : Launch} {e : Env} {s : State} {m : MethodId} {args : Array Value} {below : List Frame} {meth : Method} {c : Code} {D : va_G} {ad : Nat → Nat} {cs : Nat → ClassId} (C : uC p { frames := 1, cells := 0, slots := 0, locals := 21 } s m args c cX4_leastLack 3 wsX4_leastLack RX4 D vwCl (tyX cs) 99 ad (uAd 99 ad s.heap.size) 0 0) (hr : meth.sig.returnType = (some .int)) (hlk : meth.locks = false) {r : Int32} {σ' : St} :
    ∀ (n : Nat) (σ : St) (i0 : Nat) (v1 : Int32) (v2 : Int32) (bi0 : i0 < 2), f_X4_leastLack_5 n σ i0 v1 v2 = some (r, σ') → ∀ (H : Heap) (locs : List Loc) (ls : Array Slot), uG D vwCl 99 ad (enX ad cs) (uAd 99 ad s.heap.size) s σ H locs → lv_has ls 3 [(0, .ref (ad (86 + 5 * i0))), (1, .int v1), (2, .int v2)] → W p l e { frames := 1, cells := 0, slots := 0, locals := 21 } s m args below meth c H locs 0 0 (MQ below (uQi D vwCl 99 ad (enX ad cs) r σ' s.heap.size) args s 0 0 (uAd 99 ad s.heap.size)) (F0 m 5 ls []) := by
  have hx := C.1.1
  have hb := C.1.2.1
  intro n
  induction n with
  | zero => intro σ i0 v1 v2 bi0 h; exact absurd h (by simp [f_X4_leastLack_5])
  | succ fuel ih =>
    intro σ i0 v1 v2 bi0 h H locs ls G hl
    rw [f_X4_leastLack_5] at h
    refine lv_iload_n hx hb dX4_leastLack_5 rfl (lv_at hl 2 rfl) ?_
    refine lv_aload_n hx hb dX4_leastLack_6 rfl (lv_at hl 0 rfl) ?_
    refine u_get (v := .int (σ (86 + 5 * i0) 4)) C G (obX_places bi0) (ci := 4) (N := 5) (Cn := RX4) (T := TX4) rfl fi_X4_leastLack_4 4 (by decide) (by decide +kernel) rfl dX4_leastLack_7 ?_
    refine lv_icmp_ge (tgt := 43) hx hb dX4_leastLack_10 (by decide) (fun q => ?_) (fun q => ?_)
    · have h := u_pos q h
      refine lv_iload_n hx hb dX4_leastLack_43 rfl (lv_at hl 1 rfl) ?_
      obtain ⟨rfl, rfl⟩ := u_end h
      exact u_iret hx hb hr hlk G dX4_leastLack_44
    · have h := u_neg q h
      refine lv_iload_n hx hb dX4_leastLack_13 rfl (lv_at hl 2 rfl) ?_
      refine lv_if_ne (tgt := 26) hx hb dX4_leastLack_14 (by decide) (fun q => ?_) (fun q => ?_)
      · have h := u_neg q h
        refine lv_iload_n hx hb dX4_leastLack_26 rfl (lv_at hl 1 rfl) ?_
        refine lv_aload_n hx hb dX4_leastLack_27 rfl (lv_at hl 0 rfl) ?_
        refine u_get (v := .ref (ad (86 + 5 * i0 + 3))) C G (obX_places bi0) (ci := 4) (N := 5) (Cn := RX4) (T := TX4) rfl fi_X4_leastLack_4 2 (by decide) (by decide +kernel) rfl dX4_leastLack_28 ?_
        refine lv_iload_n hx hb dX4_leastLack_31 rfl (lv_at hl 2 rfl) ?_
        obtain ⟨g1, h⟩ := ui_of h
        refine u_iald C G (arX_pl3 bi0) (t0 := 0) rfl g1 dX4_leastLack_32 ?_
        refine va_mmin hx hb (by rw [C.1.2.2.1, hl.1]) C.1.2.2.2.1 (C.1.2.2.2.2 (.methodLink RX4 30 Lib.Math.min.name) (by decide +kernel)) (C.1.2.2.2.2 (.static Lib.Math.min.name) (by decide +kernel)) (C.1.2.2.2.2 (.initialized "java/lang/Math") (by decide +kernel)) (C.1.2.2.2.2 (.code Lib.Math.min.name Lib.Math.min.code 2 (some .int)) (by decide +kernel)) (Nat.le_of_ble_eq_true rfl) (by decide) C.2.2.2.2.2.1 C.2.2.2.2.2.2 dX4_leastLack_33 ?_
        obtain ⟨x2, ex2, h⟩ := ul_of h
        refine u_nmi ex2 ?_
        refine lv_istore_n (lv' := [(1, .int x2), (0, .ref (ad (86 + 5 * i0))), (2, .int v2)]) hx hb dX4_leastLack_36 rfl hl (by decide) rfl (fun ls hl => ?_)
        obtain ⟨x3, ex3, h⟩ := ul_of h
        refine lv_iinc (v := x3) (lv' := [(2, .int x3), (1, .int x2), (0, .ref (ad (86 + 5 * i0)))]) hx hb dX4_leastLack_37 hl (k := 2) rfl (by rw [ex3]; rfl) (by decide) rfl (fun ls hl => ?_)
        refine lv_goto (tgt := 5) hx hb dX4_leastLack_40 (by decide) ?_
        exact ih σ i0 x2 x3 bi0 h H locs ls G (lv_sub hl [2, 1, 0] rfl)
      · have h := u_pos q h
        refine lv_aload_n hx hb dX4_leastLack_17 rfl (lv_at hl 0 rfl) ?_
        refine u_get (v := .ref (ad (86 + 5 * i0 + 3))) C G (obX_places bi0) (ci := 4) (N := 5) (Cn := RX4) (T := TX4) rfl fi_X4_leastLack_4 2 (by decide) (by decide +kernel) rfl dX4_leastLack_18 ?_
        refine lv_iload_n hx hb dX4_leastLack_21 rfl (lv_at hl 2 rfl) ?_
        obtain ⟨g4, h⟩ := ui_of h
        refine u_iald C G (arX_pl3 bi0) (t0 := 0) rfl g4 dX4_leastLack_22 ?_
        refine lv_goto (tgt := 36) hx hb dX4_leastLack_23 (by decide) ?_
        obtain ⟨x5, ex5, h⟩ := ul_of h
        refine u_nmi ex5 ?_
        refine lv_istore_n (lv' := [(1, .int x5), (0, .ref (ad (86 + 5 * i0))), (2, .int v2)]) hx hb dX4_leastLack_36 rfl hl (by decide) rfl (fun ls hl => ?_)
        obtain ⟨x6, ex6, h⟩ := ul_of h
        refine lv_iinc (v := x6) (lv' := [(2, .int x6), (1, .int x5), (0, .ref (ad (86 + 5 * i0)))]) hx hb dX4_leastLack_37 hl (k := 2) rfl (by rw [ex6]; rfl) (by decide) rfl (fun ls hl => ?_)
        refine lv_goto (tgt := 5) hx hb dX4_leastLack_40 (by decide) ?_
        exact ih σ i0 x5 x6 bi0 h H locs ls G (lv_sub hl [2, 1, 0] rfl)
set_option maxHeartbeats 4000000 in
set_option maxRecDepth 100000 in
theorem c_X4_leastLack (l : Launch) (D : va_G) (ad : Nat → Nat) (cs : Nat → ClassId) (J : uJ 99 ad) (σ : St) (i0 : Nat) (bi0 : i0 < 2) (r : Int32) (σ' : St) (h : f_X4_leastLack σ i0 = some (r, σ')) : uMi l yX4_leastLack wsX4_leastLack { frames := 1, cells := 0, slots := 0, locals := 21 } D vwCl (tyX cs) 99 ad (enX ad cs) [.ref (ad (86 + 5 * i0))] σ r σ' := by
  refine u_met (Qf := uQi D vwCl 99 ad (enX ad cs) r σ') (cc := cX4_leastLack) (maxL := 3) (ret := (some .int)) (lv := [(0, .ref (ad (86 + 5 * i0)))]) J (by decide) rfl (Nat.le_of_ble_eq_true rfl) rfl rfl rfl ?_
  intro p e s m args below meth c ls hx hb C hr hlk G hl
  unfold f_X4_leastLack at h
  obtain ⟨H, eH⟩ : ∃ H, H = s.heap := ⟨_, rfl⟩
  obtain ⟨locs, eL⟩ : ∃ locs : List Loc, locs = [] := ⟨_, rfl⟩
  refine u_start eH eL G ?_
  clear G eH eL
  intro G
  refine lv_bipush (v := (-9)) hx hb dX4_leastLack_0 (by decide) ?_
  refine lv_istore_n (lv' := [(1, .int (-9)), (0, .ref (ad (86 + 5 * i0)))]) hx hb dX4_leastLack_2 rfl hl (by decide) rfl (fun ls hl => ?_)
  refine lv_iconst (v := 0) hx hb dX4_leastLack_3 (by decide) ?_
  refine lv_istore_n (lv' := [(2, .int 0), (1, .int (-9)), (0, .ref (ad (86 + 5 * i0)))]) hx hb dX4_leastLack_4 rfl hl (by decide) rfl (fun ls hl => ?_)
  exact w_X4_leastLack_5 C hr hlk fu σ i0 (-9) 0 bi0 h H locs ls G (lv_sub hl [2, 1, 0] rfl)
/-! X4_firstRival -/
def f_X4_firstRival_7 : Nat → St → Nat → Int32 → Int32 → Option (Int32 × St)
  | 0, _, _, _, _ => none
  | fuel + 1, σ, i0, v1, v2 =>
    if (σ (86 + 5 * i0) 4) ≤ v2 then
      some (((-9) : Int32), σ)
    else
      ui v2 160 <|
      if (σ (86 + 5 * i0 + 3) v2.toNatClampNeg) = v1 then
        some (v2, σ)
      else
        ul (v2 + 1) fun x4 =>
        f_X4_firstRival_7 fuel σ i0 v1 x4
def f_X4_firstRival (σ : St) (i0 : Nat) : Option (Int32 × St) :=
  ub (f_X4_leastLack σ i0) fun r1 σ2 =>
  f_X4_firstRival_7 fu σ2 i0 r1 0
theorem fi_X4_firstRival_4 : ∀ w ∈ u_ws RX4 TX4 5, w ∈ wsX4_firstRival := by decide +kernel
set_option maxHeartbeats 4000000 in
set_option maxRecDepth 100000 in
theorem w_X4_firstRival_7 {p : Program} {l : Launch} {e : Env} {s : State} {m : MethodId} {args : Array Value} {below : List Frame} {meth : Method} {c : Code} {D : va_G} {ad : Nat → Nat} {cs : Nat → ClassId} (C : uC p { frames := 2, cells := 0, slots := 0, locals := 43 } s m args c cX4_firstRival 3 wsX4_firstRival RX4 D vwCl (tyX cs) 99 ad (uAd 99 ad s.heap.size) 0 0) (hr : meth.sig.returnType = (some .int)) (hlk : meth.locks = false) {r : Int32} {σ' : St} :
    ∀ (n : Nat) (σ : St) (i0 : Nat) (v1 : Int32) (v2 : Int32) (bi0 : i0 < 2), f_X4_firstRival_7 n σ i0 v1 v2 = some (r, σ') → ∀ (H : Heap) (locs : List Loc) (ls : Array Slot), uG D vwCl 99 ad (enX ad cs) (uAd 99 ad s.heap.size) s σ H locs → lv_has ls 3 [(0, .ref (ad (86 + 5 * i0))), (1, .int v1), (2, .int v2)] → W p l e { frames := 2, cells := 0, slots := 0, locals := 43 } s m args below meth c H locs 0 0 (MQ below (uQi D vwCl 99 ad (enX ad cs) r σ' s.heap.size) args s 0 0 (uAd 99 ad s.heap.size)) (F0 m 7 ls []) := by
  have hx := C.1.1
  have hb := C.1.2.1
  intro n
  induction n with
  | zero => intro σ i0 v1 v2 bi0 h; exact absurd h (by simp [f_X4_firstRival_7])
  | succ fuel ih =>
    intro σ i0 v1 v2 bi0 h H locs ls G hl
    rw [f_X4_firstRival_7] at h
    refine lv_iload_n hx hb dX4_firstRival_7 rfl (lv_at hl 2 rfl) ?_
    refine lv_aload_n hx hb dX4_firstRival_8 rfl (lv_at hl 0 rfl) ?_
    refine u_get (v := .int (σ (86 + 5 * i0) 4)) C G (obX_places bi0) (ci := 4) (N := 5) (Cn := RX4) (T := TX4) rfl fi_X4_firstRival_4 4 (by decide) (by decide +kernel) rfl dX4_firstRival_9 ?_
    refine lv_icmp_ge (tgt := 33) hx hb dX4_firstRival_12 (by decide) (fun q => ?_) (fun q => ?_)
    · have h := u_pos q h
      refine lv_bipush (v := (-9)) hx hb dX4_firstRival_33 (by decide) ?_
      obtain ⟨rfl, rfl⟩ := u_end h
      exact u_iret hx hb hr hlk G dX4_firstRival_35
    · have h := u_neg q h
      refine lv_aload_n hx hb dX4_firstRival_15 rfl (lv_at hl 0 rfl) ?_
      refine u_get (v := .ref (ad (86 + 5 * i0 + 3))) C G (obX_places bi0) (ci := 4) (N := 5) (Cn := RX4) (T := TX4) rfl fi_X4_firstRival_4 2 (by decide) (by decide +kernel) rfl dX4_firstRival_16 ?_
      refine lv_iload_n hx hb dX4_firstRival_19 rfl (lv_at hl 2 rfl) ?_
      obtain ⟨g3, h⟩ := ui_of h
      refine u_iald C G (arX_pl3 bi0) (t0 := 0) rfl g3 dX4_firstRival_20 ?_
      refine lv_iload_n hx hb dX4_firstRival_21 rfl (lv_at hl 1 rfl) ?_
      refine lv_icmp_ne (tgt := 27) hx hb dX4_firstRival_22 (by decide) (fun q => ?_) (fun q => ?_)
      · have h := u_neg q h
        obtain ⟨x4, ex4, h⟩ := ul_of h
        refine lv_iinc (v := x4) (lv' := [(2, .int x4), (0, .ref (ad (86 + 5 * i0))), (1, .int v1)]) hx hb dX4_firstRival_27 hl (k := 2) rfl (by rw [ex4]; rfl) (by decide) rfl (fun ls hl => ?_)
        refine lv_goto (tgt := 7) hx hb dX4_firstRival_30 (by decide) ?_
        exact ih σ i0 v1 x4 bi0 h H locs ls G (lv_sub hl [1, 2, 0] rfl)
      · have h := u_pos q h
        refine lv_iload_n hx hb dX4_firstRival_25 rfl (lv_at hl 2 rfl) ?_
        obtain ⟨rfl, rfl⟩ := u_end h
        exact u_iret hx hb hr hlk G dX4_firstRival_26
set_option maxHeartbeats 4000000 in
set_option maxRecDepth 100000 in
theorem c_X4_firstRival (l : Launch) (D : va_G) (ad : Nat → Nat) (cs : Nat → ClassId) (J : uJ 99 ad) (σ : St) (i0 : Nat) (bi0 : i0 < 2) (r : Int32) (σ' : St) (h : f_X4_firstRival σ i0 = some (r, σ')) : uMi l yX4_firstRival wsX4_firstRival { frames := 2, cells := 0, slots := 0, locals := 43 } D vwCl (tyX cs) 99 ad (enX ad cs) [.ref (ad (86 + 5 * i0))] σ r σ' := by
  refine u_met (Qf := uQi D vwCl 99 ad (enX ad cs) r σ') (cc := cX4_firstRival) (maxL := 3) (ret := (some .int)) (lv := [(0, .ref (ad (86 + 5 * i0)))]) J (by decide) rfl (Nat.le_of_ble_eq_true rfl) rfl rfl rfl ?_
  intro p e s m args below meth c ls hx hb C hr hlk G hl
  unfold f_X4_firstRival at h
  obtain ⟨H, eH⟩ : ∃ H, H = s.heap := ⟨_, rfl⟩
  obtain ⟨locs, eL⟩ : ∃ locs : List Loc, locs = [] := ⟨_, rfl⟩
  refine u_start eH eL G ?_
  clear G eH eL
  intro G
  refine lv_aload_n hx hb dX4_firstRival_0 rfl (lv_at hl 0 rfl) ?_
  obtain ⟨r1, σ2, er1, h⟩ := ub_of h
  refine u_callVi (As := []) (rest := []) C G (c_X4_leastLack l D ad cs C.2.2.1 σ i0 bi0 r1 σ2 er1) (cwV 0 C.1.2.2.2.2 gX4_firstRival_X4_leastLack rfl rfl rfl (by decide +kernel) ⟨Nat.le_of_ble_eq_true rfl, Nat.le_of_ble_eq_true rfl⟩) (obX_places bi0) (ci := 4) (T := TX4) rfl rfl hl rfl (Nat.le_of_ble_eq_true rfl) dX4_firstRival_1 (fun H locs G => ?_)
  refine lv_istore_n (lv' := [(1, .int r1), (0, .ref (ad (86 + 5 * i0)))]) hx hb dX4_firstRival_4 rfl hl (by decide) rfl (fun ls hl => ?_)
  refine lv_iconst (v := 0) hx hb dX4_firstRival_5 (by decide) ?_
  refine lv_istore_n (lv' := [(2, .int 0), (1, .int r1), (0, .ref (ad (86 + 5 * i0)))]) hx hb dX4_firstRival_6 rfl hl (by decide) rfl (fun ls hl => ?_)
  exact w_X4_firstRival_7 C hr hlk fu σ2 i0 r1 0 bi0 h H locs ls G (lv_sub hl [2, 1, 0] rfl)
/-! X4_sizeOfRivals -/
def f_X4_sizeOfRivals_9 : Nat → St → Nat → Int32 → Int32 → Int32 → Option (Int32 × St)
  | 0, _, _, _, _, _ => none
  | fuel + 1, σ, i0, v1, v2, v3 =>
    if (σ (86 + 5 * i0) 4) ≤ v3 then
      some (v2, σ)
    else
      ui v3 160 <|
      if (σ (86 + 5 * i0 + 3) v3.toNatClampNeg) = v1 then
        ul (v2 + 1) fun x5 =>
        ul (v3 + 1) fun x6 =>
        f_X4_sizeOfRivals_9 fuel σ i0 v1 x5 x6
      else
        ul (v3 + 1) fun x4 =>
        f_X4_sizeOfRivals_9 fuel σ i0 v1 v2 x4
def f_X4_sizeOfRivals (σ : St) (i0 : Nat) : Option (Int32 × St) :=
  ub (f_X4_leastLack σ i0) fun r1 σ2 =>
  f_X4_sizeOfRivals_9 fu σ2 i0 r1 0 0
theorem fi_X4_sizeOfRivals_4 : ∀ w ∈ u_ws RX4 TX4 5, w ∈ wsX4_sizeOfRivals := by decide +kernel
set_option maxHeartbeats 4000000 in
set_option maxRecDepth 100000 in
theorem w_X4_sizeOfRivals_9 {p : Program} {l : Launch} {e : Env} {s : State} {m : MethodId} {args : Array Value} {below : List Frame} {meth : Method} {c : Code} {D : va_G} {ad : Nat → Nat} {cs : Nat → ClassId} (C : uC p { frames := 2, cells := 0, slots := 0, locals := 43 } s m args c cX4_sizeOfRivals 4 wsX4_sizeOfRivals RX4 D vwCl (tyX cs) 99 ad (uAd 99 ad s.heap.size) 0 0) (hr : meth.sig.returnType = (some .int)) (hlk : meth.locks = false) {r : Int32} {σ' : St} :
    ∀ (n : Nat) (σ : St) (i0 : Nat) (v1 : Int32) (v2 : Int32) (v3 : Int32) (bi0 : i0 < 2), f_X4_sizeOfRivals_9 n σ i0 v1 v2 v3 = some (r, σ') → ∀ (H : Heap) (locs : List Loc) (ls : Array Slot), uG D vwCl 99 ad (enX ad cs) (uAd 99 ad s.heap.size) s σ H locs → lv_has ls 4 [(0, .ref (ad (86 + 5 * i0))), (1, .int v1), (2, .int v2), (3, .int v3)] → W p l e { frames := 2, cells := 0, slots := 0, locals := 43 } s m args below meth c H locs 0 0 (MQ below (uQi D vwCl 99 ad (enX ad cs) r σ' s.heap.size) args s 0 0 (uAd 99 ad s.heap.size)) (F0 m 9 ls []) := by
  have hx := C.1.1
  have hb := C.1.2.1
  intro n
  induction n with
  | zero => intro σ i0 v1 v2 v3 bi0 h; exact absurd h (by simp [f_X4_sizeOfRivals_9])
  | succ fuel ih =>
    intro σ i0 v1 v2 v3 bi0 h H locs ls G hl
    rw [f_X4_sizeOfRivals_9] at h
    refine lv_iload_n hx hb dX4_sizeOfRivals_9 rfl (lv_at hl 3 rfl) ?_
    refine lv_aload_n hx hb dX4_sizeOfRivals_10 rfl (lv_at hl 0 rfl) ?_
    refine u_get (v := .int (σ (86 + 5 * i0) 4)) C G (obX_places bi0) (ci := 4) (N := 5) (Cn := RX4) (T := TX4) rfl fi_X4_sizeOfRivals_4 4 (by decide) (by decide +kernel) rfl dX4_sizeOfRivals_11 ?_
    refine lv_icmp_ge (tgt := 36) hx hb dX4_sizeOfRivals_14 (by decide) (fun q => ?_) (fun q => ?_)
    · have h := u_pos q h
      refine lv_iload_n hx hb dX4_sizeOfRivals_36 rfl (lv_at hl 2 rfl) ?_
      obtain ⟨rfl, rfl⟩ := u_end h
      exact u_iret hx hb hr hlk G dX4_sizeOfRivals_37
    · have h := u_neg q h
      refine lv_aload_n hx hb dX4_sizeOfRivals_17 rfl (lv_at hl 0 rfl) ?_
      refine u_get (v := .ref (ad (86 + 5 * i0 + 3))) C G (obX_places bi0) (ci := 4) (N := 5) (Cn := RX4) (T := TX4) rfl fi_X4_sizeOfRivals_4 2 (by decide) (by decide +kernel) rfl dX4_sizeOfRivals_18 ?_
      refine lv_iload_n hx hb dX4_sizeOfRivals_21 rfl (lv_at hl 3 rfl) ?_
      obtain ⟨g3, h⟩ := ui_of h
      refine u_iald C G (arX_pl3 bi0) (t0 := 0) rfl g3 dX4_sizeOfRivals_22 ?_
      refine lv_iload_n hx hb dX4_sizeOfRivals_23 rfl (lv_at hl 1 rfl) ?_
      refine lv_icmp_ne (tgt := 30) hx hb dX4_sizeOfRivals_24 (by decide) (fun q => ?_) (fun q => ?_)
      · have h := u_neg q h
        obtain ⟨x4, ex4, h⟩ := ul_of h
        refine lv_iinc (v := x4) (lv' := [(3, .int x4), (0, .ref (ad (86 + 5 * i0))), (1, .int v1), (2, .int v2)]) hx hb dX4_sizeOfRivals_30 hl (k := 3) rfl (by rw [ex4]; rfl) (by decide) rfl (fun ls hl => ?_)
        refine lv_goto (tgt := 9) hx hb dX4_sizeOfRivals_33 (by decide) ?_
        exact ih σ i0 v1 v2 x4 bi0 h H locs ls G (lv_sub hl [1, 2, 3, 0] rfl)
      · have h := u_pos q h
        obtain ⟨x5, ex5, h⟩ := ul_of h
        refine lv_iinc (v := x5) (lv' := [(2, .int x5), (0, .ref (ad (86 + 5 * i0))), (1, .int v1), (3, .int v3)]) hx hb dX4_sizeOfRivals_27 hl (k := 2) rfl (by rw [ex5]; rfl) (by decide) rfl (fun ls hl => ?_)
        obtain ⟨x6, ex6, h⟩ := ul_of h
        refine lv_iinc (v := x6) (lv' := [(3, .int x6), (2, .int x5), (0, .ref (ad (86 + 5 * i0))), (1, .int v1)]) hx hb dX4_sizeOfRivals_30 hl (k := 3) rfl (by rw [ex6]; rfl) (by decide) rfl (fun ls hl => ?_)
        refine lv_goto (tgt := 9) hx hb dX4_sizeOfRivals_33 (by decide) ?_
        exact ih σ i0 v1 x5 x6 bi0 h H locs ls G (lv_sub hl [2, 3, 1, 0] rfl)
set_option maxHeartbeats 4000000 in
set_option maxRecDepth 100000 in
theorem c_X4_sizeOfRivals (l : Launch) (D : va_G) (ad : Nat → Nat) (cs : Nat → ClassId) (J : uJ 99 ad) (σ : St) (i0 : Nat) (bi0 : i0 < 2) (r : Int32) (σ' : St) (h : f_X4_sizeOfRivals σ i0 = some (r, σ')) : uMi l yX4_sizeOfRivals wsX4_sizeOfRivals { frames := 2, cells := 0, slots := 0, locals := 43 } D vwCl (tyX cs) 99 ad (enX ad cs) [.ref (ad (86 + 5 * i0))] σ r σ' := by
  refine u_met (Qf := uQi D vwCl 99 ad (enX ad cs) r σ') (cc := cX4_sizeOfRivals) (maxL := 4) (ret := (some .int)) (lv := [(0, .ref (ad (86 + 5 * i0)))]) J (by decide) rfl (Nat.le_of_ble_eq_true rfl) rfl rfl rfl ?_
  intro p e s m args below meth c ls hx hb C hr hlk G hl
  unfold f_X4_sizeOfRivals at h
  obtain ⟨H, eH⟩ : ∃ H, H = s.heap := ⟨_, rfl⟩
  obtain ⟨locs, eL⟩ : ∃ locs : List Loc, locs = [] := ⟨_, rfl⟩
  refine u_start eH eL G ?_
  clear G eH eL
  intro G
  refine lv_aload_n hx hb dX4_sizeOfRivals_0 rfl (lv_at hl 0 rfl) ?_
  obtain ⟨r1, σ2, er1, h⟩ := ub_of h
  refine u_callVi (As := []) (rest := []) C G (c_X4_leastLack l D ad cs C.2.2.1 σ i0 bi0 r1 σ2 er1) (cwV 0 C.1.2.2.2.2 gX4_sizeOfRivals_X4_leastLack rfl rfl rfl (by decide +kernel) ⟨Nat.le_of_ble_eq_true rfl, Nat.le_of_ble_eq_true rfl⟩) (obX_places bi0) (ci := 4) (T := TX4) rfl rfl hl rfl (Nat.le_of_ble_eq_true rfl) dX4_sizeOfRivals_1 (fun H locs G => ?_)
  refine lv_istore_n (lv' := [(1, .int r1), (0, .ref (ad (86 + 5 * i0)))]) hx hb dX4_sizeOfRivals_4 rfl hl (by decide) rfl (fun ls hl => ?_)
  refine lv_iconst (v := 0) hx hb dX4_sizeOfRivals_5 (by decide) ?_
  refine lv_istore_n (lv' := [(2, .int 0), (1, .int r1), (0, .ref (ad (86 + 5 * i0)))]) hx hb dX4_sizeOfRivals_6 rfl hl (by decide) rfl (fun ls hl => ?_)
  refine lv_iconst (v := 0) hx hb dX4_sizeOfRivals_7 (by decide) ?_
  refine lv_istore_n (lv' := [(3, .int 0), (2, .int 0), (1, .int r1), (0, .ref (ad (86 + 5 * i0)))]) hx hb dX4_sizeOfRivals_8 rfl hl (by decide) rfl (fun ls hl => ?_)
  exact w_X4_sizeOfRivals_9 C hr hlk fu σ2 i0 r1 0 0 bi0 h H locs ls G (lv_sub hl [3, 2, 1, 0] rfl)
/-! X5_isNumber -/
def f_X5_isNumber (σ : St) (v0 : Int32) : Option (Int32 × St) :=
  if v0 < 0 then
    some ((0 : Int32), σ)
  else
    if 4 ≤ v0 then
      some ((0 : Int32), σ)
    else
      some ((1 : Int32), σ)
set_option maxHeartbeats 4000000 in
set_option maxRecDepth 100000 in
theorem c_X5_isNumber (l : Launch) (D : va_G) (ad : Nat → Nat) (cs : Nat → ClassId) (J : uJ 99 ad) (σ : St) (v0 : Int32) (r : Int32) (σ' : St) (h : f_X5_isNumber σ v0 = some (r, σ')) : uMi l yX5_isNumber wsX5_isNumber { frames := 0, cells := 0, slots := 0, locals := 0 } D vwCl (tyX cs) 99 ad (enX ad cs) [.int v0] σ r σ' := by
  refine u_met (Qf := uQi D vwCl 99 ad (enX ad cs) r σ') (cc := cX5_isNumber) (maxL := 1) (ret := (some .boolean)) (lv := [(0, .int v0)]) J (by decide) rfl (Nat.le_of_ble_eq_true rfl) rfl rfl rfl ?_
  intro p e s m args below meth c ls hx hb C hr hlk G hl
  unfold f_X5_isNumber at h
  obtain ⟨H, eH⟩ : ∃ H, H = s.heap := ⟨_, rfl⟩
  obtain ⟨locs, eL⟩ : ∃ locs : List Loc, locs = [] := ⟨_, rfl⟩
  refine u_start eH eL G ?_
  clear G eH eL
  intro G
  refine lv_iload_n hx hb dX5_isNumber_0 rfl (lv_at hl 0 rfl) ?_
  refine lv_if_lt (tgt := 13) hx hb dX5_isNumber_1 (by decide) (fun q => ?_) (fun q => ?_)
  · have h := u_pos q h
    refine lv_iconst (v := 0) hx hb dX5_isNumber_13 (by decide) ?_
    obtain ⟨rfl, rfl⟩ := u_end h
    exact u_zret hx hb hr hlk G (by decide) dX5_isNumber_14
  · have h := u_neg q h
    refine lv_iload_n hx hb dX5_isNumber_4 rfl (lv_at hl 0 rfl) ?_
    refine lv_iconst (v := 4) hx hb dX5_isNumber_5 (by decide) ?_
    refine lv_icmp_ge (tgt := 13) hx hb dX5_isNumber_6 (by decide) (fun q => ?_) (fun q => ?_)
    · have h := u_pos q h
      refine lv_iconst (v := 0) hx hb dX5_isNumber_13 (by decide) ?_
      obtain ⟨rfl, rfl⟩ := u_end h
      exact u_zret hx hb hr hlk G (by decide) dX5_isNumber_14
    · have h := u_neg q h
      refine lv_iconst (v := 1) hx hb dX5_isNumber_9 (by decide) ?_
      refine lv_goto (tgt := 14) hx hb dX5_isNumber_10 (by decide) ?_
      obtain ⟨rfl, rfl⟩ := u_end h
      exact u_zret hx hb hr hlk G (by decide) dX5_isNumber_14
/-! X5_isThere -/
def f_X5_isThere (σ : St) (v1 : Int32) : Option (Int32 × St) :=
  ui v1 4 <|
  if (σ 3 v1.toNatClampNeg) = (-1) then
    some ((0 : Int32), σ)
  else
    some ((1 : Int32), σ)
theorem fi_X5_isThere_5 : ∀ w ∈ u_ws RX5 TX5 2, w ∈ wsX5_isThere := by decide +kernel
set_option maxHeartbeats 4000000 in
set_option maxRecDepth 100000 in
theorem c_X5_isThere (l : Launch) (D : va_G) (ad : Nat → Nat) (cs : Nat → ClassId) (J : uJ 99 ad) (σ : St) (v1 : Int32) (r : Int32) (σ' : St) (h : f_X5_isThere σ v1 = some (r, σ')) : uMi l yX5_isThere wsX5_isThere { frames := 0, cells := 0, slots := 0, locals := 0 } D vwCl (tyX cs) 99 ad (enX ad cs) [.ref (ad 1), .int v1] σ r σ' := by
  refine u_met (Qf := uQi D vwCl 99 ad (enX ad cs) r σ') (cc := cX5_isThere) (maxL := 2) (ret := (some .boolean)) (lv := [(0, .ref (ad 1)), (1, .int v1)]) J (by decide) rfl (Nat.le_of_ble_eq_true rfl) rfl rfl rfl ?_
  intro p e s m args below meth c ls hx hb C hr hlk G hl
  unfold f_X5_isThere at h
  obtain ⟨H, eH⟩ : ∃ H, H = s.heap := ⟨_, rfl⟩
  obtain ⟨locs, eL⟩ : ∃ locs : List Loc, locs = [] := ⟨_, rfl⟩
  refine u_start eH eL G ?_
  clear G eH eL
  intro G
  refine lv_aload_n hx hb dX5_isThere_0 rfl (lv_at hl 0 rfl) ?_
  refine u_get (v := .ref (ad 3)) C G obX_1 (ci := 5) (N := 2) (Cn := RX5) (T := TX5) rfl fi_X5_isThere_5 1 (by decide) (by decide +kernel) rfl dX5_isThere_1 ?_
  refine lv_iload_n hx hb dX5_isThere_4 rfl (lv_at hl 1 rfl) ?_
  obtain ⟨g1, h⟩ := ui_of h
  refine u_iald C G arX_3 (t0 := 0) rfl g1 dX5_isThere_5 ?_
  refine lv_iconst (v := (-1)) hx hb dX5_isThere_6 (by decide) ?_
  refine lv_icmp_eq (tgt := 14) hx hb dX5_isThere_7 (by decide) (fun q => ?_) (fun q => ?_)
  · have h := u_pos q h
    refine lv_iconst (v := 0) hx hb dX5_isThere_14 (by decide) ?_
    obtain ⟨rfl, rfl⟩ := u_end h
    exact u_zret hx hb hr hlk G (by decide) dX5_isThere_15
  · have h := u_neg q h
    refine lv_iconst (v := 1) hx hb dX5_isThere_10 (by decide) ?_
    refine lv_goto (tgt := 15) hx hb dX5_isThere_11 (by decide) ?_
    obtain ⟨rfl, rfl⟩ := u_end h
    exact u_zret hx hb hr hlk G (by decide) dX5_isThere_15
/-! X5_hasRun -/
def f_X5_hasRun (σ : St) (v1 : Int32) (v2 : Int32) (v3 : Int32) : Option (Int32 × St) :=
  if v2 < 0 then
    some ((0 : Int32), σ)
  else
    ui v1 4 <|
    if (σ 3 v1.toNatClampNeg) < v3 then
      some ((0 : Int32), σ)
    else
      ui v1 4 <|
      if ((σ 3 v1.toNatClampNeg) - v3) < v2 then
        some ((0 : Int32), σ)
      else
        some ((1 : Int32), σ)
theorem fi_X5_hasRun_5 : ∀ w ∈ u_ws RX5 TX5 2, w ∈ wsX5_hasRun := by decide +kernel
set_option maxHeartbeats 4000000 in
set_option maxRecDepth 100000 in
theorem c_X5_hasRun (l : Launch) (D : va_G) (ad : Nat → Nat) (cs : Nat → ClassId) (J : uJ 99 ad) (σ : St) (v1 : Int32) (v2 : Int32) (v3 : Int32) (r : Int32) (σ' : St) (h : f_X5_hasRun σ v1 v2 v3 = some (r, σ')) : uMi l yX5_hasRun wsX5_hasRun { frames := 0, cells := 0, slots := 0, locals := 0 } D vwCl (tyX cs) 99 ad (enX ad cs) [.ref (ad 1), .int v1, .int v2, .int v3] σ r σ' := by
  refine u_met (Qf := uQi D vwCl 99 ad (enX ad cs) r σ') (cc := cX5_hasRun) (maxL := 4) (ret := (some .boolean)) (lv := [(0, .ref (ad 1)), (1, .int v1), (2, .int v2), (3, .int v3)]) J (by decide) rfl (Nat.le_of_ble_eq_true rfl) rfl rfl rfl ?_
  intro p e s m args below meth c ls hx hb C hr hlk G hl
  unfold f_X5_hasRun at h
  obtain ⟨H, eH⟩ : ∃ H, H = s.heap := ⟨_, rfl⟩
  obtain ⟨locs, eL⟩ : ∃ locs : List Loc, locs = [] := ⟨_, rfl⟩
  refine u_start eH eL G ?_
  clear G eH eL
  intro G
  refine lv_iload_n hx hb dX5_hasRun_0 rfl (lv_at hl 2 rfl) ?_
  refine lv_if_lt (tgt := 30) hx hb dX5_hasRun_1 (by decide) (fun q => ?_) (fun q => ?_)
  · have h := u_pos q h
    refine lv_iconst (v := 0) hx hb dX5_hasRun_30 (by decide) ?_
    obtain ⟨rfl, rfl⟩ := u_end h
    exact u_zret hx hb hr hlk G (by decide) dX5_hasRun_31
  · have h := u_neg q h
    refine lv_iload_n hx hb dX5_hasRun_4 rfl (lv_at hl 3 rfl) ?_
    refine lv_aload_n hx hb dX5_hasRun_5 rfl (lv_at hl 0 rfl) ?_
    refine u_get (v := .ref (ad 3)) C G obX_1 (ci := 5) (N := 2) (Cn := RX5) (T := TX5) rfl fi_X5_hasRun_5 1 (by decide) (by decide +kernel) rfl dX5_hasRun_6 ?_
    refine lv_iload_n hx hb dX5_hasRun_9 rfl (lv_at hl 1 rfl) ?_
    obtain ⟨g1, h⟩ := ui_of h
    refine u_iald C G arX_3 (t0 := 0) rfl g1 dX5_hasRun_10 ?_
    refine lv_icmp_gt (tgt := 30) hx hb dX5_hasRun_11 (by decide) (fun q => ?_) (fun q => ?_)
    · have h := u_pos q h
      refine lv_iconst (v := 0) hx hb dX5_hasRun_30 (by decide) ?_
      obtain ⟨rfl, rfl⟩ := u_end h
      exact u_zret hx hb hr hlk G (by decide) dX5_hasRun_31
    · have h := u_neg q h
      refine lv_iload_n hx hb dX5_hasRun_14 rfl (lv_at hl 2 rfl) ?_
      refine lv_aload_n hx hb dX5_hasRun_15 rfl (lv_at hl 0 rfl) ?_
      refine u_get (v := .ref (ad 3)) C G obX_1 (ci := 5) (N := 2) (Cn := RX5) (T := TX5) rfl fi_X5_hasRun_5 1 (by decide) (by decide +kernel) rfl dX5_hasRun_16 ?_
      refine lv_iload_n hx hb dX5_hasRun_19 rfl (lv_at hl 1 rfl) ?_
      obtain ⟨g2, h⟩ := ui_of h
      refine u_iald C G arX_3 (t0 := 0) rfl g2 dX5_hasRun_20 ?_
      refine lv_iload_n hx hb dX5_hasRun_21 rfl (lv_at hl 3 rfl) ?_
      refine lv_isub hx hb dX5_hasRun_22 ?_
      refine lv_icmp_gt (tgt := 30) hx hb dX5_hasRun_23 (by decide) (fun q => ?_) (fun q => ?_)
      · have h := u_pos q h
        refine lv_iconst (v := 0) hx hb dX5_hasRun_30 (by decide) ?_
        obtain ⟨rfl, rfl⟩ := u_end h
        exact u_zret hx hb hr hlk G (by decide) dX5_hasRun_31
      · have h := u_neg q h
        refine lv_iconst (v := 1) hx hb dX5_hasRun_26 (by decide) ?_
        refine lv_goto (tgt := 31) hx hb dX5_hasRun_27 (by decide) ?_
        obtain ⟨rfl, rfl⟩ := u_end h
        exact u_zret hx hb hr hlk G (by decide) dX5_hasRun_31
/-! J7_fill_031fb -/
def f_J7_fill_031fb_5 : Nat → St → Nat → Int32 → Int32 → Int32 → Option (Unit × St)
  | 0, _, _, _, _, _ => none
  | fuel + 1, σ, i0, v1, v2, v3 =>
    if v3 ≤ v2 then
      some ((), σ)
    else
      ui v2 10 <|
      ul (us σ (4 + i0) v2.toNatClampNeg (vp_nar .byte v1)) fun σ3 =>
      ul (v2 + 1) fun x4 =>
      f_J7_fill_031fb_5 fuel σ3 i0 v1 x4 v3
def f_J7_fill_031fb (σ : St) (i0 : Nat) (v1 : Int32) : Option (Unit × St) :=
  ul (Int32.ofNat 10) fun x1 =>
  f_J7_fill_031fb_5 fu σ i0 v1 0 x1
set_option maxHeartbeats 4000000 in
set_option maxRecDepth 100000 in
theorem w_J7_fill_031fb_5 {p : Program} {l : Launch} {e : Env} {s : State} {m : MethodId} {args : Array Value} {below : List Frame} {meth : Method} {c : Code} {D : va_G} {ad : Nat → Nat} {cs : Nat → ClassId} (C : uC p { frames := 0, cells := 0, slots := 0, locals := 0 } s m args c cJ7_fill_031fb 4 wsJ7_fill_031fb RJ7 D vwCl (tyX cs) 99 ad (uAd 99 ad s.heap.size) 0 0) (hr : meth.sig.returnType = none) (hlk : meth.locks = false) {σ' : St} :
    ∀ (n : Nat) (σ : St) (i0 : Nat) (v1 : Int32) (v2 : Int32) (v3 : Int32) (bi0 : i0 < 4), f_J7_fill_031fb_5 n σ i0 v1 v2 v3 = some ((), σ') → ∀ (H : Heap) (locs : List Loc) (ls : Array Slot), uG D vwCl 99 ad (enX ad cs) (uAd 99 ad s.heap.size) s σ H locs → lv_has ls 4 [(0, .ref (ad (4 + i0))), (1, .int v1), (2, .int v2), (3, .int v3)] → W p l e { frames := 0, cells := 0, slots := 0, locals := 0 } s m args below meth c H locs 0 0 (MQ below (uQv D vwCl 99 ad (enX ad cs) σ' s.heap.size) args s 0 0 (uAd 99 ad s.heap.size)) (F0 m 5 ls []) := by
  have hx := C.1.1
  have hb := C.1.2.1
  intro n
  induction n with
  | zero => intro σ i0 v1 v2 v3 bi0 h; exact absurd h (by simp [f_J7_fill_031fb_5])
  | succ fuel ih =>
    intro σ i0 v1 v2 v3 bi0 h H locs ls G hl
    rw [f_J7_fill_031fb_5] at h
    refine lv_iload_n hx hb dJ7_fill_031fb_5 rfl (lv_at hl 2 rfl) ?_
    refine lv_iload_n hx hb dJ7_fill_031fb_6 rfl (lv_at hl 3 rfl) ?_
    refine lv_icmp_ge (tgt := 20) hx hb dJ7_fill_031fb_7 (by decide) (fun q => ?_) (fun q => ?_)
    · have h := u_pos q h
      obtain ⟨-, rfl⟩ := u_end h
      exact u_vret hx hb hr hlk G dJ7_fill_031fb_20
    · have h := u_neg q h
      refine lv_aload_n hx hb dJ7_fill_031fb_10 rfl (lv_at hl 0 rfl) ?_
      refine lv_iload_n hx hb dJ7_fill_031fb_11 rfl (lv_at hl 2 rfl) ?_
      refine lv_iload_n hx hb dJ7_fill_031fb_12 rfl (lv_at hl 1 rfl) ?_
      obtain ⟨g2, h⟩ := ui_of h
      refine u_bast C G (arX_srow bi0) (t0 := 1) rfl g2 dJ7_fill_031fb_13 (fun H locs G => ?_)
      obtain ⟨σ3, eσ3, h⟩ := ul_of h
      replace G := uG_eq eσ3 G
      obtain ⟨x4, ex4, h⟩ := ul_of h
      refine lv_iinc (v := x4) (lv' := [(2, .int x4), (0, .ref (ad (4 + i0))), (1, .int v1), (3, .int v3)]) hx hb dJ7_fill_031fb_14 hl (k := 2) rfl (by rw [ex4]; rfl) (by decide) rfl (fun ls hl => ?_)
      refine lv_goto (tgt := 5) hx hb dJ7_fill_031fb_17 (by decide) ?_
      exact ih σ3 i0 v1 x4 v3 bi0 h H locs ls G (lv_sub hl [1, 2, 0, 3] rfl)
set_option maxHeartbeats 4000000 in
set_option maxRecDepth 100000 in
theorem c_J7_fill_031fb (l : Launch) (D : va_G) (ad : Nat → Nat) (cs : Nat → ClassId) (J : uJ 99 ad) (σ : St) (i0 : Nat) (v1 : Int32) (bi0 : i0 < 4) (r : Unit) (σ' : St) (h : f_J7_fill_031fb σ i0 v1 = some (r, σ')) : uMv l yJ7_fill_031fb wsJ7_fill_031fb { frames := 0, cells := 0, slots := 0, locals := 0 } D vwCl (tyX cs) 99 ad (enX ad cs) [.ref (ad (4 + i0)), .int v1] σ σ' := by
  refine u_met (Qf := uQv D vwCl 99 ad (enX ad cs) σ') (cc := cJ7_fill_031fb) (maxL := 4) (ret := none) (lv := [(0, .ref (ad (4 + i0))), (1, .int v1)]) J (by decide) rfl (Nat.le_of_ble_eq_true rfl) rfl rfl rfl ?_
  intro p e s m args below meth c ls hx hb C hr hlk G hl
  unfold f_J7_fill_031fb at h
  obtain ⟨H, eH⟩ : ∃ H, H = s.heap := ⟨_, rfl⟩
  obtain ⟨locs, eL⟩ : ∃ locs : List Loc, locs = [] := ⟨_, rfl⟩
  refine u_start eH eL G ?_
  clear G eH eL
  intro G
  refine lv_iconst (v := 0) hx hb dJ7_fill_031fb_0 (by decide) ?_
  refine lv_istore_n (lv' := [(2, .int 0), (0, .ref (ad (4 + i0))), (1, .int v1)]) hx hb dJ7_fill_031fb_1 rfl hl (by decide) rfl (fun ls hl => ?_)
  refine lv_aload_n hx hb dJ7_fill_031fb_2 rfl (lv_at hl 1 rfl) ?_
  refine u_alen C G (arX_srow bi0) (t0 := 1) rfl dJ7_fill_031fb_3 ?_
  obtain ⟨x1, ex1, h⟩ := ul_of h
  refine u_nmi ex1 ?_
  refine lv_istore_n (lv' := [(3, .int x1), (2, .int 0), (0, .ref (ad (4 + i0))), (1, .int v1)]) hx hb dJ7_fill_031fb_4 rfl hl (by decide) rfl (fun ls hl => ?_)
  exact w_J7_fill_031fb_5 C hr hlk fu σ i0 v1 0 x1 bi0 h H locs ls G (lv_sub hl [2, 3, 1, 0] rfl)
/-! X5_bring -/
def f_X5_bring (σ : St) (v1 : Int32) (v2 : Int32) : Option (Unit × St) :=
  ui v1 4 <|
  ub (f_J7_fill_031fb σ v1.toNatClampNeg (97 : Int32)) fun r3 σ4 =>
  ui v1 4 <|
  ul (us σ4 3 v1.toNatClampNeg v2) fun σ6 =>
  some ((), σ6)
theorem fi_X5_bring_5 : ∀ w ∈ u_ws RX5 TX5 2, w ∈ wsX5_bring := by decide +kernel
set_option maxHeartbeats 4000000 in
set_option maxRecDepth 100000 in
theorem c_X5_bring (l : Launch) (D : va_G) (ad : Nat → Nat) (cs : Nat → ClassId) (J : uJ 99 ad) (σ : St) (v1 : Int32) (v2 : Int32) (r : Unit) (σ' : St) (h : f_X5_bring σ v1 v2 = some (r, σ')) : uMv l yX5_bring wsX5_bring { frames := 1, cells := 0, slots := 0, locals := 23 } D vwCl (tyX cs) 99 ad (enX ad cs) [.ref (ad 1), .int v1, .int v2] σ σ' := by
  refine u_met (Qf := uQv D vwCl 99 ad (enX ad cs) σ') (cc := cX5_bring) (maxL := 3) (ret := none) (lv := [(0, .ref (ad 1)), (1, .int v1), (2, .int v2)]) J (by decide) rfl (Nat.le_of_ble_eq_true rfl) rfl rfl rfl ?_
  intro p e s m args below meth c ls hx hb C hr hlk G hl
  unfold f_X5_bring at h
  obtain ⟨H, eH⟩ : ∃ H, H = s.heap := ⟨_, rfl⟩
  obtain ⟨locs, eL⟩ : ∃ locs : List Loc, locs = [] := ⟨_, rfl⟩
  refine u_start eH eL G ?_
  clear G eH eL
  intro G
  refine lv_aload_n hx hb dX5_bring_0 rfl (lv_at hl 0 rfl) ?_
  refine u_get (v := .ref (ad 2)) C G obX_1 (ci := 5) (N := 2) (Cn := RX5) (T := TX5) rfl fi_X5_bring_5 0 (by decide) (by decide +kernel) rfl dX5_bring_1 ?_
  refine lv_iload_n hx hb dX5_bring_4 rfl (lv_at hl 1 rfl) ?_
  obtain ⟨g1, h⟩ := ui_of h
  refine u_aald C G rrX_2 (t0 := 4) rfl rfl g1 dX5_bring_5 (fun b2 => ?_)
  refine lv_bipush (v := 97) hx hb dX5_bring_6 (by decide) ?_
  obtain ⟨r3, σ4, er3, h⟩ := ub_of h
  refine u_callSv (As := [.ref (ad (4 + v1.toNatClampNeg)), .int 97]) (rest := []) C G (c_J7_fill_031fb l D ad cs C.2.2.1 σ v1.toNatClampNeg (97 : Int32) b2 r3 σ4 er3) (va_cwS 2 C.1.2.2.2.2 gX5_bring_J7_fill_031fb rfl rfl rfl (by decide +kernel) ⟨Nat.le_of_ble_eq_true rfl, Nat.le_of_ble_eq_true rfl⟩) rfl hl rfl (Nat.le_of_ble_eq_true rfl) dX5_bring_8 (fun H locs G => ?_)
  refine lv_aload_n hx hb dX5_bring_11 rfl (lv_at hl 0 rfl) ?_
  refine u_get (v := .ref (ad 3)) C G obX_1 (ci := 5) (N := 2) (Cn := RX5) (T := TX5) rfl fi_X5_bring_5 1 (by decide) (by decide +kernel) rfl dX5_bring_12 ?_
  refine lv_iload_n hx hb dX5_bring_15 rfl (lv_at hl 1 rfl) ?_
  refine lv_iload_n hx hb dX5_bring_16 rfl (lv_at hl 2 rfl) ?_
  obtain ⟨g5, h⟩ := ui_of h
  refine u_iast C G arX_3 (t0 := 0) rfl g5 dX5_bring_17 (fun H locs G => ?_)
  obtain ⟨σ6, eσ6, h⟩ := ul_of h
  replace G := uG_eq eσ6 G
  obtain ⟨-, rfl⟩ := u_end h
  exact u_vret hx hb hr hlk G dX5_bring_18
/-! X5_remove -/
def f_X5_remove (σ : St) (v1 : Int32) : Option (Unit × St) :=
  ui v1 4 <|
  ul (us σ 3 v1.toNatClampNeg (-1)) fun σ2 =>
  some ((), σ2)
theorem fi_X5_remove_5 : ∀ w ∈ u_ws RX5 TX5 2, w ∈ wsX5_remove := by decide +kernel
set_option maxHeartbeats 4000000 in
set_option maxRecDepth 100000 in
theorem c_X5_remove (l : Launch) (D : va_G) (ad : Nat → Nat) (cs : Nat → ClassId) (J : uJ 99 ad) (σ : St) (v1 : Int32) (r : Unit) (σ' : St) (h : f_X5_remove σ v1 = some (r, σ')) : uMv l yX5_remove wsX5_remove { frames := 0, cells := 0, slots := 0, locals := 0 } D vwCl (tyX cs) 99 ad (enX ad cs) [.ref (ad 1), .int v1] σ σ' := by
  refine u_met (Qf := uQv D vwCl 99 ad (enX ad cs) σ') (cc := cX5_remove) (maxL := 2) (ret := none) (lv := [(0, .ref (ad 1)), (1, .int v1)]) J (by decide) rfl (Nat.le_of_ble_eq_true rfl) rfl rfl rfl ?_
  intro p e s m args below meth c ls hx hb C hr hlk G hl
  unfold f_X5_remove at h
  obtain ⟨H, eH⟩ : ∃ H, H = s.heap := ⟨_, rfl⟩
  obtain ⟨locs, eL⟩ : ∃ locs : List Loc, locs = [] := ⟨_, rfl⟩
  refine u_start eH eL G ?_
  clear G eH eL
  intro G
  refine lv_aload_n hx hb dX5_remove_0 rfl (lv_at hl 0 rfl) ?_
  refine u_get (v := .ref (ad 3)) C G obX_1 (ci := 5) (N := 2) (Cn := RX5) (T := TX5) rfl fi_X5_remove_5 1 (by decide) (by decide +kernel) rfl dX5_remove_1 ?_
  refine lv_iload_n hx hb dX5_remove_4 rfl (lv_at hl 1 rfl) ?_
  refine lv_iconst (v := (-1)) hx hb dX5_remove_5 (by decide) ?_
  obtain ⟨g1, h⟩ := ui_of h
  refine u_iast C G arX_3 (t0 := 0) rfl g1 dX5_remove_6 (fun H locs G => ?_)
  obtain ⟨σ2, eσ2, h⟩ := ul_of h
  replace G := uG_eq eσ2 G
  obtain ⟨-, rfl⟩ := u_end h
  exact u_vret hx hb hr hlk G dX5_remove_7
/-! X5_changeByte -/
def f_X5_changeByte (σ : St) (v1 : Int32) (v2 : Int32) (v3 : Int32) : Option (Int32 × St) :=
  ui v1 4 <|
  ui v2 10 <|
  ul (σ (4 + v1.toNatClampNeg) v2.toNatClampNeg) fun x4 =>
  ui v1 4 <|
  ui v2 10 <|
  ul (us σ (4 + v1.toNatClampNeg) v2.toNatClampNeg (vp_nar .byte v3.toInt8.toInt32)) fun σ8 =>
  some (x4, σ8)
theorem fi_X5_changeByte_5 : ∀ w ∈ u_ws RX5 TX5 2, w ∈ wsX5_changeByte := by decide +kernel
set_option maxHeartbeats 4000000 in
set_option maxRecDepth 100000 in
theorem c_X5_changeByte (l : Launch) (D : va_G) (ad : Nat → Nat) (cs : Nat → ClassId) (J : uJ 99 ad) (σ : St) (v1 : Int32) (v2 : Int32) (v3 : Int32) (r : Int32) (σ' : St) (h : f_X5_changeByte σ v1 v2 v3 = some (r, σ')) : uMi l yX5_changeByte wsX5_changeByte { frames := 0, cells := 0, slots := 0, locals := 0 } D vwCl (tyX cs) 99 ad (enX ad cs) [.ref (ad 1), .int v1, .int v2, .int v3] σ r σ' := by
  refine u_met (Qf := uQi D vwCl 99 ad (enX ad cs) r σ') (cc := cX5_changeByte) (maxL := 5) (ret := (some .int)) (lv := [(0, .ref (ad 1)), (1, .int v1), (2, .int v2), (3, .int v3)]) J (by decide) rfl (Nat.le_of_ble_eq_true rfl) rfl rfl rfl ?_
  intro p e s m args below meth c ls hx hb C hr hlk G hl
  unfold f_X5_changeByte at h
  obtain ⟨H, eH⟩ : ∃ H, H = s.heap := ⟨_, rfl⟩
  obtain ⟨locs, eL⟩ : ∃ locs : List Loc, locs = [] := ⟨_, rfl⟩
  refine u_start eH eL G ?_
  clear G eH eL
  intro G
  refine lv_aload_n hx hb dX5_changeByte_0 rfl (lv_at hl 0 rfl) ?_
  refine u_get (v := .ref (ad 2)) C G obX_1 (ci := 5) (N := 2) (Cn := RX5) (T := TX5) rfl fi_X5_changeByte_5 0 (by decide) (by decide +kernel) rfl dX5_changeByte_1 ?_
  refine lv_iload_n hx hb dX5_changeByte_4 rfl (lv_at hl 1 rfl) ?_
  obtain ⟨g1, h⟩ := ui_of h
  refine u_aald C G rrX_2 (t0 := 4) rfl rfl g1 dX5_changeByte_5 (fun b2 => ?_)
  refine lv_iload_n hx hb dX5_changeByte_6 rfl (lv_at hl 2 rfl) ?_
  obtain ⟨g3, h⟩ := ui_of h
  refine u_bald C G (arX_srow b2) (t0 := 1) rfl g3 dX5_changeByte_7 ?_
  obtain ⟨x4, ex4, h⟩ := ul_of h
  refine u_nmi ex4 ?_
  refine lv_istore (lv' := [(4, .int x4), (0, .ref (ad 1)), (1, .int v1), (2, .int v2), (3, .int v3)]) hx hb dX5_changeByte_8 hl (by decide) rfl (fun ls hl => ?_)
  refine lv_aload_n hx hb dX5_changeByte_10 rfl (lv_at hl 1 rfl) ?_
  refine u_get (v := .ref (ad 2)) C G obX_1 (ci := 5) (N := 2) (Cn := RX5) (T := TX5) rfl fi_X5_changeByte_5 0 (by decide) (by decide +kernel) rfl dX5_changeByte_11 ?_
  refine lv_iload_n hx hb dX5_changeByte_14 rfl (lv_at hl 2 rfl) ?_
  obtain ⟨g5, h⟩ := ui_of h
  refine u_aald C G rrX_2 (t0 := 4) rfl rfl g5 dX5_changeByte_15 (fun b6 => ?_)
  refine lv_iload_n hx hb dX5_changeByte_16 rfl (lv_at hl 3 rfl) ?_
  refine lv_iload_n hx hb dX5_changeByte_17 rfl (lv_at hl 4 rfl) ?_
  refine lv_i2b hx hb dX5_changeByte_18 rfl ?_
  obtain ⟨g7, h⟩ := ui_of h
  refine u_bast C G (arX_srow b6) (t0 := 1) rfl g7 dX5_changeByte_19 (fun H locs G => ?_)
  obtain ⟨σ8, eσ8, h⟩ := ul_of h
  replace G := uG_eq eσ8 G
  refine lv_iload hx hb dX5_changeByte_20 (lv_at hl 0 rfl) ?_
  obtain ⟨rfl, rfl⟩ := u_end h
  exact u_iret hx hb hr hlk G dX5_changeByte_22
/-! X5_carry -/
def f_X5_carry (σ : St) (v1 : Int32) (v2 : Int32) (v3 : Int32) (v4 : Int32) (v5 : Int32) : Option (Unit × St) :=
  ui v1 4 <|
  ui v3 4 <|
  ug (decide (¬ v2 < 0 ∧ ¬ v4 < 0 ∧ ¬ v5 < 0 ∧ v2.toNatClampNeg + v5.toNatClampNeg ≤ 10 ∧ v4.toNatClampNeg + v5.toNatClampNeg ≤ 10) && ucp (σ (4 + v1.toNatClampNeg)) v2.toNatClampNeg v5.toNatClampNeg) <|
  ul (uf σ (4 + v3.toNatClampNeg) (va_cpy (σ (4 + v1.toNatClampNeg)) (σ (4 + v3.toNatClampNeg)) v2.toNatClampNeg v4.toNatClampNeg v5.toNatClampNeg)) fun σ5 =>
  some ((), σ5)
theorem fi_X5_carry_5 : ∀ w ∈ u_ws RX5 TX5 2, w ∈ wsX5_carry := by decide +kernel
set_option maxHeartbeats 4000000 in
set_option maxRecDepth 100000 in
theorem c_X5_carry (l : Launch) (D : va_G) (ad : Nat → Nat) (cs : Nat → ClassId) (J : uJ 99 ad) (σ : St) (v1 : Int32) (v2 : Int32) (v3 : Int32) (v4 : Int32) (v5 : Int32) (r : Unit) (σ' : St) (h : f_X5_carry σ v1 v2 v3 v4 v5 = some (r, σ')) : uMv l yX5_carry wsX5_carry { frames := 1, cells := 0, slots := 0, locals := 60 } D vwCl (tyX cs) 99 ad (enX ad cs) [.ref (ad 1), .int v1, .int v2, .int v3, .int v4, .int v5] σ σ' := by
  refine u_met (Qf := uQv D vwCl 99 ad (enX ad cs) σ') (cc := cX5_carry) (maxL := 6) (ret := none) (lv := [(0, .ref (ad 1)), (1, .int v1), (2, .int v2), (3, .int v3), (4, .int v4), (5, .int v5)]) J (by decide) rfl (Nat.le_of_ble_eq_true rfl) rfl rfl rfl ?_
  intro p e s m args below meth c ls hx hb C hr hlk G hl
  unfold f_X5_carry at h
  obtain ⟨H, eH⟩ : ∃ H, H = s.heap := ⟨_, rfl⟩
  obtain ⟨locs, eL⟩ : ∃ locs : List Loc, locs = [] := ⟨_, rfl⟩
  refine u_start eH eL G ?_
  clear G eH eL
  intro G
  refine lv_aload_n hx hb dX5_carry_0 rfl (lv_at hl 0 rfl) ?_
  refine u_get (v := .ref (ad 2)) C G obX_1 (ci := 5) (N := 2) (Cn := RX5) (T := TX5) rfl fi_X5_carry_5 0 (by decide) (by decide +kernel) rfl dX5_carry_1 ?_
  refine lv_iload_n hx hb dX5_carry_4 rfl (lv_at hl 1 rfl) ?_
  obtain ⟨g1, h⟩ := ui_of h
  refine u_aald C G rrX_2 (t0 := 4) rfl rfl g1 dX5_carry_5 (fun b2 => ?_)
  refine lv_iload_n hx hb dX5_carry_6 rfl (lv_at hl 2 rfl) ?_
  refine lv_aload_n hx hb dX5_carry_7 rfl (lv_at hl 0 rfl) ?_
  refine u_get (v := .ref (ad 2)) C G obX_1 (ci := 5) (N := 2) (Cn := RX5) (T := TX5) rfl fi_X5_carry_5 0 (by decide) (by decide +kernel) rfl dX5_carry_8 ?_
  refine lv_iload_n hx hb dX5_carry_11 rfl (lv_at hl 3 rfl) ?_
  obtain ⟨g3, h⟩ := ui_of h
  refine u_aald C G rrX_2 (t0 := 4) rfl rfl g3 dX5_carry_12 (fun b4 => ?_)
  refine lv_iload hx hb dX5_carry_13 (lv_at hl 4 rfl) ?_
  refine lv_iload hx hb dX5_carry_15 (lv_at hl 5 rfl) ?_
  obtain ⟨gz, h⟩ := ug_of h
  refine u_copyb C G (by rw [C.1.2.2.1, hl.1]) (arX_srow b2) (arX_srow b4) (t0 := 1) rfl (by decide +kernel) (by decide +kernel) (by decide +kernel) (by decide +kernel) gz (Nat.le_of_ble_eq_true rfl) (by decide) dX5_carry_17 (fun H locs G => ?_)
  obtain ⟨σ5, eσ5, h⟩ := ul_of h
  replace G := uG_eq eσ5 G
  obtain ⟨-, rfl⟩ := u_end h
  exact u_vret hx hb hr hlk G dX5_carry_20
/-! X5_digestFrom -/
def f_X5_digestFrom_29 (k5 : St → Int64 → Int32 → Option (Int64 × St)) : Nat → St → Int64 → Int32 → Int32 → Option (Int64 × St)
  | 0, _, _, _, _ => none
  | fuel + 1, σ, v3, v5, v6 =>
    ui v5 4 <|
    if (σ 3 v5.toNatClampNeg) ≤ v6 then
      ul (v5 + 1) fun x4 =>
      k5 σ v3 x4
    else
      ui v5 4 <|
      ui v6 10 <|
      ul ((31 * v3) + (σ (4 + v5.toNatClampNeg) v6.toNatClampNeg).toInt64) fun x8 =>
      ul (v6 + 1) fun x9 =>
      f_X5_digestFrom_29 k5 fuel σ x8 v5 x9
def f_X5_digestFrom_5 : Nat → St → Int64 → Int32 → Option (Int64 × St)
  | 0, _, _, _ => none
  | fuel + 1, σ, v3, v5 =>
    if 4 ≤ v5 then
      some (v3, σ)
    else
      ui v5 4 <|
      ul ((31 * v3) + (σ 3 v5.toNatClampNeg).toInt64) fun x2 =>
      f_X5_digestFrom_29 (f_X5_digestFrom_5 fuel) fu σ x2 v5 0
def f_X5_digestFrom (σ : St) (v1 : Int64) : Option (Int64 × St) :=
  f_X5_digestFrom_5 fu σ v1 0
theorem fi_X5_digestFrom_5 : ∀ w ∈ u_ws RX5 TX5 2, w ∈ wsX5_digestFrom := by decide +kernel
set_option maxHeartbeats 4000000 in
set_option maxRecDepth 100000 in
theorem w_X5_digestFrom_29 {p : Program} {l : Launch} {e : Env} {s : State} {m : MethodId} {args : Array Value} {below : List Frame} {meth : Method} {c : Code} {D : va_G} {ad : Nat → Nat} {cs : Nat → ClassId} (C : uC p { frames := 0, cells := 0, slots := 0, locals := 0 } s m args c cX5_digestFrom 7 wsX5_digestFrom RX5 D vwCl (tyX cs) 99 ad (uAd 99 ad s.heap.size) 0 0) (hr : meth.sig.returnType = (some .long)) (hlk : meth.locks = false) {r : Int64} {σ' : St} {k5 : St → Int64 → Int32 → Option (Int64 × St)} (hk5 : ∀ (σ : St) (v3 : Int64) (v5 : Int32), k5 σ v3 v5 = some (r, σ') → ∀ (H : Heap) (locs : List Loc) (ls : Array Slot), uG D vwCl 99 ad (enX ad cs) (uAd 99 ad s.heap.size) s σ H locs → lv_has ls 7 [(0, .ref (ad 1)), (3, .long v3), (5, .int v5)] → W p l e { frames := 0, cells := 0, slots := 0, locals := 0 } s m args below meth c H locs 0 0 (MQ below (uQl D vwCl 99 ad (enX ad cs) r σ' s.heap.size) args s 0 0 (uAd 99 ad s.heap.size)) (F0 m 5 ls [])) :
    ∀ (n : Nat) (σ : St) (v3 : Int64) (v5 : Int32) (v6 : Int32), f_X5_digestFrom_29 k5 n σ v3 v5 v6 = some (r, σ') → ∀ (H : Heap) (locs : List Loc) (ls : Array Slot), uG D vwCl 99 ad (enX ad cs) (uAd 99 ad s.heap.size) s σ H locs → lv_has ls 7 [(0, .ref (ad 1)), (3, .long v3), (5, .int v5), (6, .int v6)] → W p l e { frames := 0, cells := 0, slots := 0, locals := 0 } s m args below meth c H locs 0 0 (MQ below (uQl D vwCl 99 ad (enX ad cs) r σ' s.heap.size) args s 0 0 (uAd 99 ad s.heap.size)) (F0 m 29 ls []) := by
  have hx := C.1.1
  have hb := C.1.2.1
  intro n
  induction n with
  | zero => intro σ v3 v5 v6  h; exact absurd h (by simp [f_X5_digestFrom_29])
  | succ fuel ih =>
    intro σ v3 v5 v6  h H locs ls G hl
    rw [f_X5_digestFrom_29] at h
    refine lv_iload hx hb dX5_digestFrom_29 (lv_at hl 3 rfl) ?_
    refine lv_aload_n hx hb dX5_digestFrom_31 rfl (lv_at hl 0 rfl) ?_
    refine u_get (v := .ref (ad 3)) C G obX_1 (ci := 5) (N := 2) (Cn := RX5) (T := TX5) rfl fi_X5_digestFrom_5 1 (by decide) (by decide +kernel) rfl dX5_digestFrom_32 ?_
    refine lv_iload hx hb dX5_digestFrom_35 (lv_at hl 2 rfl) ?_
    obtain ⟨g3, h⟩ := ui_of h
    refine u_iald C G arX_3 (t0 := 0) rfl g3 dX5_digestFrom_37 ?_
    refine lv_icmp_ge (tgt := 65) hx hb dX5_digestFrom_38 (by decide) (fun q => ?_) (fun q => ?_)
    · have h := u_pos q h
      obtain ⟨x4, ex4, h⟩ := ul_of h
      refine lv_iinc (v := x4) (lv' := [(5, .int x4), (0, .ref (ad 1)), (3, .long v3), (6, .int v6)]) hx hb dX5_digestFrom_65 hl (k := 2) rfl (by rw [ex4]; rfl) (by decide) rfl (fun ls hl => ?_)
      refine lv_goto (tgt := 5) hx hb dX5_digestFrom_68 (by decide) ?_
      exact hk5 σ v3 x4 h H locs ls G (lv_sub hl [1, 2, 0] rfl)
    · have h := u_neg q h
      refine lv_ldc2 (v := 31) hx hb C.1.2.2.2.1 (C.1.2.2.2.2 (.constantLong RX5 33 31) (by decide +kernel)) dX5_digestFrom_41 ?_
      refine lv_lload_n hx hb dX5_digestFrom_44 rfl (lv_at hl 1 rfl) ?_
      refine lv_lmul hx hb dX5_digestFrom_45 ?_
      refine lv_aload_n hx hb dX5_digestFrom_46 rfl (lv_at hl 0 rfl) ?_
      refine u_get (v := .ref (ad 2)) C G obX_1 (ci := 5) (N := 2) (Cn := RX5) (T := TX5) rfl fi_X5_digestFrom_5 0 (by decide) (by decide +kernel) rfl dX5_digestFrom_47 ?_
      refine lv_iload hx hb dX5_digestFrom_50 (lv_at hl 2 rfl) ?_
      obtain ⟨g5, h⟩ := ui_of h
      refine u_aald C G rrX_2 (t0 := 4) rfl rfl g5 dX5_digestFrom_52 (fun b6 => ?_)
      refine lv_iload hx hb dX5_digestFrom_53 (lv_at hl 3 rfl) ?_
      obtain ⟨g7, h⟩ := ui_of h
      refine u_bald C G (arX_srow b6) (t0 := 1) rfl g7 dX5_digestFrom_55 ?_
      refine lv_i2l hx hb dX5_digestFrom_56 rfl ?_
      refine lv_ladd hx hb dX5_digestFrom_57 ?_
      obtain ⟨x8, ex8, h⟩ := ul_of h
      refine u_nml ex8 ?_
      refine lv_lstore_n (lv' := [(3, .long x8), (0, .ref (ad 1)), (5, .int v5), (6, .int v6)]) hx hb dX5_digestFrom_58 rfl hl (by decide) rfl (fun ls hl => ?_)
      obtain ⟨x9, ex9, h⟩ := ul_of h
      refine lv_iinc (v := x9) (lv' := [(6, .int x9), (3, .long x8), (0, .ref (ad 1)), (5, .int v5)]) hx hb dX5_digestFrom_59 hl (k := 3) rfl (by rw [ex9]; rfl) (by decide) rfl (fun ls hl => ?_)
      refine lv_goto (tgt := 29) hx hb dX5_digestFrom_62 (by decide) ?_
      exact ih σ x8 v5 x9 h H locs ls G (lv_sub hl [2, 1, 3, 0] rfl)
set_option maxHeartbeats 4000000 in
set_option maxRecDepth 100000 in
theorem w_X5_digestFrom_5 {p : Program} {l : Launch} {e : Env} {s : State} {m : MethodId} {args : Array Value} {below : List Frame} {meth : Method} {c : Code} {D : va_G} {ad : Nat → Nat} {cs : Nat → ClassId} (C : uC p { frames := 0, cells := 0, slots := 0, locals := 0 } s m args c cX5_digestFrom 7 wsX5_digestFrom RX5 D vwCl (tyX cs) 99 ad (uAd 99 ad s.heap.size) 0 0) (hr : meth.sig.returnType = (some .long)) (hlk : meth.locks = false) {r : Int64} {σ' : St} :
    ∀ (n : Nat) (σ : St) (v3 : Int64) (v5 : Int32), f_X5_digestFrom_5 n σ v3 v5 = some (r, σ') → ∀ (H : Heap) (locs : List Loc) (ls : Array Slot), uG D vwCl 99 ad (enX ad cs) (uAd 99 ad s.heap.size) s σ H locs → lv_has ls 7 [(0, .ref (ad 1)), (3, .long v3), (5, .int v5)] → W p l e { frames := 0, cells := 0, slots := 0, locals := 0 } s m args below meth c H locs 0 0 (MQ below (uQl D vwCl 99 ad (enX ad cs) r σ' s.heap.size) args s 0 0 (uAd 99 ad s.heap.size)) (F0 m 5 ls []) := by
  have hx := C.1.1
  have hb := C.1.2.1
  intro n
  induction n with
  | zero => intro σ v3 v5  h; exact absurd h (by simp [f_X5_digestFrom_5])
  | succ fuel ih =>
    intro σ v3 v5  h H locs ls G hl
    rw [f_X5_digestFrom_5] at h
    refine lv_iload hx hb dX5_digestFrom_5 (lv_at hl 2 rfl) ?_
    refine lv_iconst (v := 4) hx hb dX5_digestFrom_7 (by decide) ?_
    refine lv_icmp_ge (tgt := 71) hx hb dX5_digestFrom_8 (by decide) (fun q => ?_) (fun q => ?_)
    · have h := u_pos q h
      refine lv_lload_n hx hb dX5_digestFrom_71 rfl (lv_at hl 1 rfl) ?_
      obtain ⟨rfl, rfl⟩ := u_end h
      exact u_lret hx hb hr hlk G dX5_digestFrom_72
    · have h := u_neg q h
      refine lv_ldc2 (v := 31) hx hb C.1.2.2.2.1 (C.1.2.2.2.2 (.constantLong RX5 33 31) (by decide +kernel)) dX5_digestFrom_11 ?_
      refine lv_lload_n hx hb dX5_digestFrom_14 rfl (lv_at hl 1 rfl) ?_
      refine lv_lmul hx hb dX5_digestFrom_15 ?_
      refine lv_aload_n hx hb dX5_digestFrom_16 rfl (lv_at hl 0 rfl) ?_
      refine u_get (v := .ref (ad 3)) C G obX_1 (ci := 5) (N := 2) (Cn := RX5) (T := TX5) rfl fi_X5_digestFrom_5 1 (by decide) (by decide +kernel) rfl dX5_digestFrom_17 ?_
      refine lv_iload hx hb dX5_digestFrom_20 (lv_at hl 2 rfl) ?_
      obtain ⟨g1, h⟩ := ui_of h
      refine u_iald C G arX_3 (t0 := 0) rfl g1 dX5_digestFrom_22 ?_
      refine lv_i2l hx hb dX5_digestFrom_23 rfl ?_
      refine lv_ladd hx hb dX5_digestFrom_24 ?_
      obtain ⟨x2, ex2, h⟩ := ul_of h
      refine u_nml ex2 ?_
      refine lv_lstore_n (lv' := [(3, .long x2), (0, .ref (ad 1)), (5, .int v5)]) hx hb dX5_digestFrom_25 rfl hl (by decide) rfl (fun ls hl => ?_)
      refine lv_iconst (v := 0) hx hb dX5_digestFrom_26 (by decide) ?_
      refine lv_istore (lv' := [(6, .int 0), (3, .long x2), (0, .ref (ad 1)), (5, .int v5)]) hx hb dX5_digestFrom_27 hl (by decide) rfl (fun ls hl => ?_)
      exact w_X5_digestFrom_29 C hr hlk ih fu σ x2 v5 0 h H locs ls G (lv_sub hl [2, 1, 3, 0] rfl)
set_option maxHeartbeats 4000000 in
set_option maxRecDepth 100000 in
theorem c_X5_digestFrom (l : Launch) (D : va_G) (ad : Nat → Nat) (cs : Nat → ClassId) (J : uJ 99 ad) (σ : St) (v1 : Int64) (r : Int64) (σ' : St) (h : f_X5_digestFrom σ v1 = some (r, σ')) : uMl l yX5_digestFrom wsX5_digestFrom { frames := 0, cells := 0, slots := 0, locals := 0 } D vwCl (tyX cs) 99 ad (enX ad cs) [.ref (ad 1), .long v1] σ r σ' := by
  refine u_met (Qf := uQl D vwCl 99 ad (enX ad cs) r σ') (cc := cX5_digestFrom) (maxL := 7) (ret := (some .long)) (lv := [(0, .ref (ad 1)), (1, .long v1)]) J (by decide) rfl (Nat.le_of_ble_eq_true rfl) rfl rfl rfl ?_
  intro p e s m args below meth c ls hx hb C hr hlk G hl
  unfold f_X5_digestFrom at h
  obtain ⟨H, eH⟩ : ∃ H, H = s.heap := ⟨_, rfl⟩
  obtain ⟨locs, eL⟩ : ∃ locs : List Loc, locs = [] := ⟨_, rfl⟩
  refine u_start eH eL G ?_
  clear G eH eL
  intro G
  refine lv_lload_n hx hb dX5_digestFrom_0 rfl (lv_at hl 1 rfl) ?_
  refine lv_lstore_n (lv' := [(3, .long v1), (0, .ref (ad 1)), (1, .long v1)]) hx hb dX5_digestFrom_1 rfl hl (by decide) rfl (fun ls hl => ?_)
  refine lv_iconst (v := 0) hx hb dX5_digestFrom_2 (by decide) ?_
  refine lv_istore (lv' := [(5, .int 0), (3, .long v1), (0, .ref (ad 1)), (1, .long v1)]) hx hb dX5_digestFrom_3 hl (by decide) rfl (fun ls hl => ?_)
  exact w_X5_digestFrom_5 C hr hlk fu σ v1 0 h H locs ls G (lv_sub hl [2, 1, 0] rfl)
/-! X6_isNumber -/
def f_X6_isNumber (σ : St) (v0 : Int32) : Option (Int32 × St) :=
  if v0 < 1 then
    some ((0 : Int32), σ)
  else
    if 200 < v0 then
      some ((0 : Int32), σ)
    else
      some ((1 : Int32), σ)
set_option maxHeartbeats 4000000 in
set_option maxRecDepth 100000 in
theorem c_X6_isNumber (l : Launch) (D : va_G) (ad : Nat → Nat) (cs : Nat → ClassId) (J : uJ 99 ad) (σ : St) (v0 : Int32) (r : Int32) (σ' : St) (h : f_X6_isNumber σ v0 = some (r, σ')) : uMi l yX6_isNumber wsX6_isNumber { frames := 0, cells := 0, slots := 0, locals := 0 } D vwCl (tyX cs) 99 ad (enX ad cs) [.int v0] σ r σ' := by
  refine u_met (Qf := uQi D vwCl 99 ad (enX ad cs) r σ') (cc := cX6_isNumber) (maxL := 1) (ret := (some .boolean)) (lv := [(0, .int v0)]) J (by decide) rfl (Nat.le_of_ble_eq_true rfl) rfl rfl rfl ?_
  intro p e s m args below meth c ls hx hb C hr hlk G hl
  unfold f_X6_isNumber at h
  obtain ⟨H, eH⟩ : ∃ H, H = s.heap := ⟨_, rfl⟩
  obtain ⟨locs, eL⟩ : ∃ locs : List Loc, locs = [] := ⟨_, rfl⟩
  refine u_start eH eL G ?_
  clear G eH eL
  intro G
  refine lv_iload_n hx hb dX6_isNumber_0 rfl (lv_at hl 0 rfl) ?_
  refine lv_iconst (v := 1) hx hb dX6_isNumber_1 (by decide) ?_
  refine lv_icmp_lt (tgt := 16) hx hb dX6_isNumber_2 (by decide) (fun q => ?_) (fun q => ?_)
  · have h := u_pos q h
    refine lv_iconst (v := 0) hx hb dX6_isNumber_16 (by decide) ?_
    obtain ⟨rfl, rfl⟩ := u_end h
    exact u_zret hx hb hr hlk G (by decide) dX6_isNumber_17
  · have h := u_neg q h
    refine lv_iload_n hx hb dX6_isNumber_5 rfl (lv_at hl 0 rfl) ?_
    refine lv_sipush (v := 200) hx hb dX6_isNumber_6 (by decide) ?_
    refine lv_icmp_gt (tgt := 16) hx hb dX6_isNumber_9 (by decide) (fun q => ?_) (fun q => ?_)
    · have h := u_pos q h
      refine lv_iconst (v := 0) hx hb dX6_isNumber_16 (by decide) ?_
      obtain ⟨rfl, rfl⟩ := u_end h
      exact u_zret hx hb hr hlk G (by decide) dX6_isNumber_17
    · have h := u_neg q h
      refine lv_iconst (v := 1) hx hb dX6_isNumber_12 (by decide) ?_
      refine lv_goto (tgt := 17) hx hb dX6_isNumber_13 (by decide) ?_
      obtain ⟨rfl, rfl⟩ := u_end h
      exact u_zret hx hb hr hlk G (by decide) dX6_isNumber_17
