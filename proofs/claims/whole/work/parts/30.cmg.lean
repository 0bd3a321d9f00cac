/-! X10_keep -/
def f_X10_keep_112 (k23 : St → Int32 → Int32 → Int32 → Int32 → Int32 → Option (Int32 × St)) (k46 : St → Int32 → Int32 → Int32 → Int32 → Int32 → Int32 → Int32 → Int32 → Int32 → Option (Int32 × St)) (σ : St) (v1 : Int32) (v2 : Int32) (v3 : Int32) (v4 : Int32) (v5 : Int32) (v6 : Int32) (v8 : Int32) (v9 : Int32) (v10 : Int32) (vs0 : Int32) (vs1 : Int32) : Option (Int32 × St) :=
  ul (vs1 + vs0) fun x15 =>
  if v8 = 0 then
    ul (v9 + 1) fun x16 =>
    k46 σ v1 v2 v3 v4 v5 v6 x15 0 x16
  else
    if v10 = 0 then
      ul (v9 + 1) fun x17 =>
      k46 σ v1 v2 v3 v4 v5 v6 x15 1 x17
    else
      ui v9 12 <|
      if (σ 33 v9.toNatClampNeg) = 0 then
        ul (v9 + 1) fun x19 =>
        k46 σ v1 v2 v3 v4 v5 v6 x15 0 x19
      else
        ul (v9 + 1) fun x20 =>
        k46 σ v1 v2 v3 v4 v5 v6 x15 1 x20
def f_X10_keep_71 (k23 : St → Int32 → Int32 → Int32 → Int32 → Int32 → Option (Int32 × St)) (k46 : St → Int32 → Int32 → Int32 → Int32 → Int32 → Int32 → Int32 → Int32 → Int32 → Option (Int32 × St)) (σ : St) (v1 : Int32) (v2 : Int32) (v3 : Int32) (v4 : Int32) (v5 : Int32) (v6 : Int32) (v7 : Int32) (v8 : Int32) (v9 : Int32) (vs0 : Int32) : Option (Int32 × St) :=
  if vs0 = 0 then
    ul (v6 + 0) fun x10 =>
    if vs0 = 0 then
      f_X10_keep_112 k23 k46 σ v1 v2 v3 v4 v5 x10 v8 v9 vs0 0 v7
    else
      ui v9 12 <|
      f_X10_keep_112 k23 k46 σ v1 v2 v3 v4 v5 x10 v8 v9 vs0 (σ 32 v9.toNatClampNeg) v7
  else
    ui v9 12 <|
    ul (v6 + (σ 31 v9.toNatClampNeg)) fun x13 =>
    if vs0 = 0 then
      f_X10_keep_112 k23 k46 σ v1 v2 v3 v4 v5 x13 v8 v9 vs0 0 v7
    else
      ui v9 12 <|
      f_X10_keep_112 k23 k46 σ v1 v2 v3 v4 v5 x13 v8 v9 vs0 (σ 32 v9.toNatClampNeg) v7
def f_X10_keep_46 (k23 : St → Int32 → Int32 → Int32 → Int32 → Int32 → Option (Int32 × St)) : Nat → St → Int32 → Int32 → Int32 → Int32 → Int32 → Int32 → Int32 → Int32 → Int32 → Option (Int32 × St)
  | 0, _, _, _, _, _, _, _, _, _, _ => none
  | fuel + 1, σ, v1, v2, v3, v4, v5, v6, v7, v8, v9 =>
    if (σ 0 40) ≤ v9 then
      if v8 = 0 then
        ul (v5 + 1) fun x4 =>
        k23 σ v1 v2 v3 v4 x4
      else
        if v1 < v7 then
          ul (v5 + 1) fun x5 =>
          k23 σ v1 v2 v3 v4 x5
        else
          if v3 < v6 then
            ul (v5 + 1) fun x6 =>
            k23 σ v1 v5 v6 v7 x6
          else
            if v6 = v3 then
              if v4 ≤ v7 then
                ul (v5 + 1) fun x8 =>
                k23 σ v1 v2 v3 v4 x8
              else
                ul (v5 + 1) fun x9 =>
                k23 σ v1 v5 v6 v7 x9
            else
              ul (v5 + 1) fun x7 =>
              k23 σ v1 v2 v3 v4 x7
    else
      if ((v5 >>> (v9 &&& 31)) &&& 1) = 1 then
        f_X10_keep_71 k23 (f_X10_keep_46 k23 fuel) σ v1 v2 v3 v4 v5 v6 v7 v8 v9 1
      else
        f_X10_keep_71 k23 (f_X10_keep_46 k23 fuel) σ v1 v2 v3 v4 v5 v6 v7 v8 v9 0
def f_X10_keep_23 : Nat → St → Int32 → Int32 → Int32 → Int32 → Int32 → Option (Int32 × St)
  | 0, _, _, _, _, _, _ => none
  | fuel + 1, σ, v1, v2, v3, v4, v5 =>
    if (1 <<< ((σ 0 40) &&& 31)) ≤ v5 then
      ul (us σ 0 2 v2) fun σ3 =>
      some (v3, σ3)
    else
      f_X10_keep_46 (f_X10_keep_23 fuel) fu σ v1 v2 v3 v4 v5 0 0 1 0
def f_X10_keep (σ : St) (v1 : Int32) : Option (Int32 × St) :=
  ub (f_X10_in σ v1 (0 : Int32) (12000 : Int32)) fun r1 σ2 =>
  if r1 = 0 then
    some (((-1) : Int32), σ2)
  else
    f_X10_keep_23 fu σ2 v1 0 0 0 1
theorem fi_X10_keep_10 : ∀ w ∈ u_ws RX10 TX10 44, w ∈ wsX10_keep := by decide +kernel
set_option maxHeartbeats 4000000 in
set_option maxRecDepth 100000 in
theorem w_X10_keep_112 {p : Program} {l : Launch} {e : Env} {s : State} {m : MethodId} {args : Array Value} {below : List Frame} {meth : Method} {c : Code} {D : va_G} {ad : Nat → Nat} {cs : Nat → ClassId} (C : uC p { frames := 1, cells := 0, slots := 0, locals := 22 } s m args c cX10_keep 11 wsX10_keep RX10 D vwCl (tyM cs) 34 ad (uAd 34 ad s.heap.size) 0 0) (hr : meth.sig.returnType = (some .int)) (hlk : meth.locks = false) {r : Int32} {σ' : St} {k23 : St → Int32 → Int32 → Int32 → Int32 → Int32 → Option (Int32 × St)} {k46 : St → Int32 → Int32 → Int32 → Int32 → Int32 → Int32 → Int32 → Int32 → Int32 → Option (Int32 × St)} (hk23 : ∀ (σ : St) (v1 : Int32) (v2 : Int32) (v3 : Int32) (v4 : Int32) (v5 : Int32), k23 σ v1 v2 v3 v4 v5 = some (r, σ') → ∀ (H : Heap) (locs : List Loc) (ls : Array Slot), uG D vwCl 34 ad (enM ad cs) (uAd 34 ad s.heap.size) s σ H locs → lv_has ls 11 [(0, .ref (ad 0)), (1, .int v1), (2, .int v2), (3, .int v3), (4, .int v4), (5, .int v5)] → W p l e { frames := 1, cells := 0, slots := 0, locals := 22 } s m args below meth c H locs 0 0 (MQ below (uQi D vwCl 34 ad (enM ad cs) r σ' s.heap.size) args s 0 0 (uAd 34 ad s.heap.size)) (F0 m 23 ls [])) (hk46 : ∀ (σ : St) (v1 : Int32) (v2 : Int32) (v3 : Int32) (v4 : Int32) (v5 : Int32) (v6 : Int32) (v7 : Int32) (v8 : Int32) (v9 : Int32), k46 σ v1 v2 v3 v4 v5 v6 v7 v8 v9 = some (r, σ') → ∀ (H : Heap) (locs : List Loc) (ls : Array Slot), uG D vwCl 34 ad (enM ad cs) (uAd 34 ad s.heap.size) s σ H locs → lv_has ls 11 [(0, .ref (ad 0)), (1, .int v1), (2, .int v2), (3, .int v3), (4, .int v4), (5, .int v5), (6, .int v6), (7, .int v7), (8, .int v8), (9, .int v9)] → W p l e { frames := 1, cells := 0, slots := 0, locals := 22 } s m args below meth c H locs 0 0 (MQ below (uQi D vwCl 34 ad (enM ad cs) r σ' s.heap.size) args s 0 0 (uAd 34 ad s.heap.size)) (F0 m 46 ls [])) :
    ∀ (σ : St) (v1 : Int32) (v2 : Int32) (v3 : Int32) (v4 : Int32) (v5 : Int32) (v6 : Int32) (v8 : Int32) (v9 : Int32) (v10 : Int32) (vs0 : Int32) (vs1 : Int32), f_X10_keep_112 k23 k46 σ v1 v2 v3 v4 v5 v6 v8 v9 v10 vs0 vs1 = some (r, σ') → ∀ (H : Heap) (locs : List Loc) (ls : Array Slot), uG D vwCl 34 ad (enM ad cs) (uAd 34 ad s.heap.size) s σ H locs → lv_has ls 11 [(0, .ref (ad 0)), (1, .int v1), (2, .int v2), (3, .int v3), (4, .int v4), (5, .int v5), (6, .int v6), (8, .int v8), (9, .int v9), (10, .int v10)] → W p l e { frames := 1, cells := 0, slots := 0, locals := 22 } s m args below meth c H locs 0 0 (MQ below (uQi D vwCl 34 ad (enM ad cs) r σ' s.heap.size) args s 0 0 (uAd 34 ad s.heap.size)) (F0 m 112 ls [.int vs0, .int vs1]) := by
  have hx := C.1.1
  have hb := C.1.2.1
  intro σ v1 v2 v3 v4 v5 v6 v8 v9 v10 vs0 vs1  h H locs ls G hl
  unfold f_X10_keep_112 at h
  refine lv_iadd hx hb dX10_keep_112 ?_
  obtain ⟨x15, ex15, h⟩ := ul_of h
  refine u_nmi ex15 ?_
  refine lv_istore (lv' := [(7, .int x15), (0, .ref (ad 0)), (1, .int v1), (2, .int v2), (3, .int v3), (4, .int v4), (5, .int v5), (6, .int v6), (8, .int v8), (9, .int v9), (10, .int v10)]) hx hb dX10_keep_113 hl (by decide) rfl (fun ls hl => ?_)
  refine lv_iload hx hb dX10_keep_115 (lv_at hl 8 rfl) ?_
  refine lv_if_eq (tgt := 139) hx hb dX10_keep_117 (by decide) (fun q => ?_) (fun q => ?_)
  · have h := u_pos q h
    refine lv_iconst (v := 0) hx hb dX10_keep_139 (by decide) ?_
    refine lv_istore (lv' := [(8, .int 0), (7, .int x15), (0, .ref (ad 0)), (1, .int v1), (2, .int v2), (3, .int v3), (4, .int v4), (5, .int v5), (6, .int v6), (9, .int v9), (10, .int v10)]) hx hb dX10_keep_140 hl (by decide) rfl (fun ls hl => ?_)
    obtain ⟨x16, ex16, h⟩ := ul_of h
    refine lv_iinc (v := x16) (lv' := [(9, .int x16), (8, .int 0), (7, .int x15), (0, .ref (ad 0)), (1, .int v1), (2, .int v2), (3, .int v3), (4, .int v4), (5, .int v5), (6, .int v6), (10, .int v10)]) hx hb dX10_keep_142 hl (k := 9) rfl (by rw [ex16]; rfl) (by decide) rfl (fun ls hl => ?_)
    refine lv_goto (tgt := 46) hx hb dX10_keep_145 (by decide) ?_
    exact hk46 σ v1 v2 v3 v4 v5 v6 x15 0 x16 h H locs ls G (lv_sub hl [3, 4, 5, 6, 7, 8, 9, 2, 1, 0] rfl)
  · have h := u_neg q h
    refine lv_iload hx hb dX10_keep_120 (lv_at hl 10 rfl) ?_
    refine lv_if_eq (tgt := 135) hx hb dX10_keep_122 (by decide) (fun q => ?_) (fun q => ?_)
    · have h := u_pos q h
      refine lv_iconst (v := 1) hx hb dX10_keep_135 (by decide) ?_
      refine lv_goto (tgt := 140) hx hb dX10_keep_136 (by decide) ?_
      refine lv_istore (lv' := [(8, .int 1), (7, .int x15), (0, .ref (ad 0)), (1, .int v1), (2, .int v2), (3, .int v3), (4, .int v4), (5, .int v5), (6, .int v6), (9, .int v9), (10, .int v10)]) hx hb dX10_keep_140 hl (by decide) rfl (fun ls hl => ?_)
      obtain ⟨x17, ex17, h⟩ := ul_of h
      refine lv_iinc (v := x17) (lv' := [(9, .int x17), (8, .int 1), (7, .int x15), (0, .ref (ad 0)), (1, .int v1), (2, .int v2), (3, .int v3), (4, .int v4), (5, .int v5), (6, .int v6), (10, .int v10)]) hx hb dX10_keep_142 hl (k := 9) rfl (by rw [ex17]; rfl) (by decide) rfl (fun ls hl => ?_)
      refine lv_goto (tgt := 46) hx hb dX10_keep_145 (by decide) ?_
      exact hk46 σ v1 v2 v3 v4 v5 v6 x15 1 x17 h H locs ls G (lv_sub hl [3, 4, 5, 6, 7, 8, 9, 2, 1, 0] rfl)
    · have h := u_neg q h
      refine lv_aload_n hx hb dX10_keep_125 rfl (lv_at hl 1 rfl) ?_
      refine u_get (v := .ref (ad 33)) C G obM_0 (ci := 10) (N := 44) (Cn := RX10) (T := TX10) rfl fi_X10_keep_10 43 (by decide) (by decide +kernel) rfl dX10_keep_126 ?_
      refine lv_iload hx hb dX10_keep_129 (lv_at hl 9 rfl) ?_
      obtain ⟨g18, h⟩ := ui_of h
      refine u_zald C G arM_33 (t0 := 2) rfl g18 dX10_keep_131 ?_
      refine lv_if_eq (tgt := 139) hx hb dX10_keep_132 (by decide) (fun q => ?_) (fun q => ?_)
      · have h := u_pos q h
        refine lv_iconst (v := 0) hx hb dX10_keep_139 (by decide) ?_
        refine lv_istore (lv' := [(8, .int 0), (7, .int x15), (0, .ref (ad 0)), (1, .int v1), (2, .int v2), (3, .int v3), (4, .int v4), (5, .int v5), (6, .int v6), (9, .int v9), (10, .int v10)]) hx hb dX10_keep_140 hl (by decide) rfl (fun ls hl => ?_)
        obtain ⟨x19, ex19, h⟩ := ul_of h
        refine lv_iinc (v := x19) (lv' := [(9, .int x19), (8, .int 0), (7, .int x15), (0, .ref (ad 0)), (1, .int v1), (2, .int v2), (3, .int v3), (4, .int v4), (5, .int v5), (6, .int v6), (10, .int v10)]) hx hb dX10_keep_142 hl (k := 9) rfl (by rw [ex19]; rfl) (by decide) rfl (fun ls hl => ?_)
        refine lv_goto (tgt := 46) hx hb dX10_keep_145 (by decide) ?_
        exact hk46 σ v1 v2 v3 v4 v5 v6 x15 0 x19 h H locs ls G (lv_sub hl [3, 4, 5, 6, 7, 8, 9, 2, 1, 0] rfl)
      · have h := u_neg q h
        refine lv_iconst (v := 1) hx hb dX10_keep_135 (by decide) ?_
        refine lv_goto (tgt := 140) hx hb dX10_keep_136 (by decide) ?_
        refine lv_istore (lv' := [(8, .int 1), (7, .int x15), (0, .ref (ad 0)), (1, .int v1), (2, .int v2), (3, .int v3), (4, .int v4), (5, .int v5), (6, .int v6), (9, .int v9), (10, .int v10)]) hx hb dX10_keep_140 hl (by decide) rfl (fun ls hl => ?_)
        obtain ⟨x20, ex20, h⟩ := ul_of h
        refine lv_iinc (v := x20) (lv' := [(9, .int x20), (8, .int 1), (7, .int x15), (0, .ref (ad 0)), (1, .int v1), (2, .int v2), (3, .int v3), (4, .int v4), (5, .int v5), (6, .int v6), (10, .int v10)]) hx hb dX10_keep_142 hl (k := 9) rfl (by rw [ex20]; rfl) (by decide) rfl (fun ls hl => ?_)
        refine lv_goto (tgt := 46) hx hb dX10_keep_145 (by decide) ?_
        exact hk46 σ v1 v2 v3 v4 v5 v6 x15 1 x20 h H locs ls G (lv_sub hl [3, 4, 5, 6, 7, 8, 9, 2, 1, 0] rfl)
set_option maxHeartbeats 4000000 in
set_option maxRecDepth 100000 in
theorem w_X10_keep_71 {p : Program} {l : Launch} {e : Env} {s : State} {m : MethodId} {args : Array Value} {below : List Frame} {meth : Method} {c : Code} {D : va_G} {ad : Nat → Nat} {cs : Nat → ClassId} (C : uC p { frames := 1, cells := 0, slots := 0, locals := 22 } s m args c cX10_keep 11 wsX10_keep RX10 D vwCl (tyM cs) 34 ad (uAd 34 ad s.heap.size) 0 0) (hr : meth.sig.returnType = (some .int)) (hlk : meth.locks = false) {r : Int32} {σ' : St} {k23 : St → Int32 → Int32 → Int32 → Int32 → Int32 → Option (Int32 × St)} {k46 : St → Int32 → Int32 → Int32 → Int32 → Int32 → Int32 → Int32 → Int32 → Int32 → Option (Int32 × St)} (hk23 : ∀ (σ : St) (v1 : Int32) (v2 : Int32) (v3 : Int32) (v4 : Int32) (v5 : Int32), k23 σ v1 v2 v3 v4 v5 = some (r, σ') → ∀ (H : Heap) (locs : List Loc) (ls : Array Slot), uG D vwCl 34 ad (enM ad cs) (uAd 34 ad s.heap.size) s σ H locs → lv_has ls 11 [(0, .ref (ad 0)), (1, .int v1), (2, .int v2), (3, .int v3), (4, .int v4), (5, .int v5)] → W p l e { frames := 1, cells := 0, slots := 0, locals := 22 } s m args below meth c H locs 0 0 (MQ below (uQi D vwCl 34 ad (enM ad cs) r σ' s.heap.size) args s 0 0 (uAd 34 ad s.heap.size)) (F0 m 23 ls [])) (hk46 : ∀ (σ : St) (v1 : Int32) (v2 : Int32) (v3 : Int32) (v4 : Int32) (v5 : Int32) (v6 : Int32) (v7 : Int32) (v8 : Int32) (v9 : Int32), k46 σ v1 v2 v3 v4 v5 v6 v7 v8 v9 = some (r, σ') → ∀ (H : Heap) (locs : List Loc) (ls : Array Slot), uG D vwCl 34 ad (enM ad cs) (uAd 34 ad s.heap.size) s σ H locs → lv_has ls 11 [(0, .ref (ad 0)), (1, .int v1), (2, .int v2), (3, .int v3), (4, .int v4), (5, .int v5), (6, .int v6), (7, .int v7), (8, .int v8), (9, .int v9)] → W p l e { frames := 1, cells := 0, slots := 0, locals := 22 } s m args below meth c H locs 0 0 (MQ below (uQi D vwCl 34 ad (enM ad cs) r σ' s.heap.size) args s 0 0 (uAd 34 ad s.heap.size)) (F0 m 46 ls [])) :
    ∀ (σ : St) (v1 : Int32) (v2 : Int32) (v3 : Int32) (v4 : Int32) (v5 : Int32) (v6 : Int32) (v7 : Int32) (v8 : Int32) (v9 : Int32) (vs0 : Int32), f_X10_keep_71 k23 k46 σ v1 v2 v3 v4 v5 v6 v7 v8 v9 vs0 = some (r, σ') → ∀ (H : Heap) (locs : List Loc) (ls : Array Slot), uG D vwCl 34 ad (enM ad cs) (uAd 34 ad s.heap.size) s σ H locs → lv_has ls 11 [(0, .ref (ad 0)), (1, .int v1), (2, .int v2), (3, .int v3), (4, .int v4), (5, .int v5), (6, .int v6), (7, .int v7), (8, .int v8), (9, .int v9)] → W p l e { frames := 1, cells := 0, slots := 0, locals := 22 } s m args below meth c H locs 0 0 (MQ below (uQi D vwCl 34 ad (enM ad cs) r σ' s.heap.size) args s 0 0 (uAd 34 ad s.heap.size)) (F0 m 71 ls [.int vs0]) := by
  have hx := C.1.1
  have hb := C.1.2.1
  intro σ v1 v2 v3 v4 v5 v6 v7 v8 v9 vs0  h H locs ls G hl
  unfold f_X10_keep_71 at h
  refine lv_istore (lv' := [(10, .int vs0), (0, .ref (ad 0)), (1, .int v1), (2, .int v2), (3, .int v3), (4, .int v4), (5, .int v5), (6, .int v6), (7, .int v7), (8, .int v8), (9, .int v9)]) hx hb dX10_keep_71 hl (by decide) rfl (fun ls hl => ?_)
  refine lv_iload hx hb dX10_keep_73 (lv_at hl 7 rfl) ?_
  refine lv_iload hx hb dX10_keep_75 (lv_at hl 0 rfl) ?_
  refine lv_if_eq (tgt := 90) hx hb dX10_keep_77 (by decide) (fun q => ?_) (fun q => ?_)
  · have h := u_pos q h
    refine lv_iconst (v := 0) hx hb dX10_keep_90 (by decide) ?_
    refine lv_iadd hx hb dX10_keep_91 ?_
    obtain ⟨x10, ex10, h⟩ := ul_of h
    refine u_nmi ex10 ?_
    refine lv_istore (lv' := [(6, .int x10), (10, .int vs0), (0, .ref (ad 0)), (1, .int v1), (2, .int v2), (3, .int v3), (4, .int v4), (5, .int v5), (7, .int v7), (8, .int v8), (9, .int v9)]) hx hb dX10_keep_92 hl (by decide) rfl (fun ls hl => ?_)
    refine lv_iload hx hb dX10_keep_94 (lv_at hl 8 rfl) ?_
    refine lv_iload hx hb dX10_keep_96 (lv_at hl 1 rfl) ?_
    refine lv_if_eq (tgt := 111) hx hb dX10_keep_98 (by decide) (fun q => ?_) (fun q => ?_)
    · have h := u_pos q h
      refine lv_iconst (v := 0) hx hb dX10_keep_111 (by decide) ?_
      exact w_X10_keep_112 C hr hlk hk23 hk46 σ v1 v2 v3 v4 v5 x10 v8 v9 vs0 0 v7 h H locs ls G (lv_sub hl [2, 3, 4, 5, 6, 7, 0, 9, 10, 1] rfl)
    · have h := u_neg q h
      refine lv_aload_n hx hb dX10_keep_101 rfl (lv_at hl 2 rfl) ?_
      refine u_get (v := .ref (ad 32)) C G obM_0 (ci := 10) (N := 44) (Cn := RX10) (T := TX10) rfl fi_X10_keep_10 42 (by decide) (by decide +kernel) rfl dX10_keep_102 ?_
      refine lv_iload hx hb dX10_keep_105 (lv_at hl 10 rfl) ?_
      obtain ⟨g11, h⟩ := ui_of h
      refine u_iald C G arM_32 (t0 := 0) rfl g11 dX10_keep_107 ?_
      refine lv_goto (tgt := 112) hx hb dX10_keep_108 (by decide) ?_
      exact w_X10_keep_112 C hr hlk hk23 hk46 σ v1 v2 v3 v4 v5 x10 v8 v9 vs0 (σ 32 v9.toNatClampNeg) v7 h H locs ls G (lv_sub hl [2, 3, 4, 5, 6, 7, 0, 9, 10, 1] rfl)
  · have h := u_neg q h
    refine lv_aload_n hx hb dX10_keep_80 rfl (lv_at hl 1 rfl) ?_
    refine u_get (v := .ref (ad 31)) C G obM_0 (ci := 10) (N := 44) (Cn := RX10) (T := TX10) rfl fi_X10_keep_10 41 (by decide) (by decide +kernel) rfl dX10_keep_81 ?_
    refine lv_iload hx hb dX10_keep_84 (lv_at hl 10 rfl) ?_
    obtain ⟨g12, h⟩ := ui_of h
    refine u_iald C G arM_31 (t0 := 0) rfl g12 dX10_keep_86 ?_
    refine lv_goto (tgt := 91) hx hb dX10_keep_87 (by decide) ?_
    refine lv_iadd hx hb dX10_keep_91 ?_
    obtain ⟨x13, ex13, h⟩ := ul_of h
    refine u_nmi ex13 ?_
    refine lv_istore (lv' := [(6, .int x13), (10, .int vs0), (0, .ref (ad 0)), (1, .int v1), (2, .int v2), (3, .int v3), (4, .int v4), (5, .int v5), (7, .int v7), (8, .int v8), (9, .int v9)]) hx hb dX10_keep_92 hl (by decide) rfl (fun ls hl => ?_)
    refine lv_iload hx hb dX10_keep_94 (lv_at hl 8 rfl) ?_
    refine lv_iload hx hb dX10_keep_96 (lv_at hl 1 rfl) ?_
    refine lv_if_eq (tgt := 111) hx hb dX10_keep_98 (by decide) (fun q => ?_) (fun q => ?_)
    · have h := u_pos q h
      refine lv_iconst (v := 0) hx hb dX10_keep_111 (by decide) ?_
      exact w_X10_keep_112 C hr hlk hk23 hk46 σ v1 v2 v3 v4 v5 x13 v8 v9 vs0 0 v7 h H locs ls G (lv_sub hl [2, 3, 4, 5, 6, 7, 0, 9, 10, 1] rfl)
    · have h := u_neg q h
      refine lv_aload_n hx hb dX10_keep_101 rfl (lv_at hl 2 rfl) ?_
      refine u_get (v := .ref (ad 32)) C G obM_0 (ci := 10) (N := 44) (Cn := RX10) (T := TX10) rfl fi_X10_keep_10 42 (by decide) (by decide +kernel) rfl dX10_keep_102 ?_
      refine lv_iload hx hb dX10_keep_105 (lv_at hl 10 rfl) ?_
      obtain ⟨g14, h⟩ := ui_of h
      refine u_iald C G arM_32 (t0 := 0) rfl g14 dX10_keep_107 ?_
      refine lv_goto (tgt := 112) hx hb dX10_keep_108 (by decide) ?_
      exact w_X10_keep_112 C hr hlk hk23 hk46 σ v1 v2 v3 v4 v5 x13 v8 v9 vs0 (σ 32 v9.toNatClampNeg) v7 h H locs ls G (lv_sub hl [2, 3, 4, 5, 6, 7, 0, 9, 10, 1] rfl)
set_option maxHeartbeats 4000000 in
set_option maxRecDepth 100000 in
theorem w_X10_keep_46 {p : Program} {l : Launch} {e : Env} {s : State} {m : MethodId} {args : Array Value} {below : List Frame} {meth : Method} {c : Code} {D : va_G} {ad : Nat → Nat} {cs : Nat → ClassId} (C : uC p { frames := 1, cells := 0, slots := 0, locals := 22 } s m args c cX10_keep 11 wsX10_keep RX10 D vwCl (tyM cs) 34 ad (uAd 34 ad s.heap.size) 0 0) (hr : meth.sig.returnType = (some .int)) (hlk : meth.locks = false) {r : Int32} {σ' : St} {k23 : St → Int32 → Int32 → Int32 → Int32 → Int32 → Option (Int32 × St)} (hk23 : ∀ (σ : St) (v1 : Int32) (v2 : Int32) (v3 : Int32) (v4 : Int32) (v5 : Int32), k23 σ v1 v2 v3 v4 v5 = some (r, σ') → ∀ (H : Heap) (locs : List Loc) (ls : Array Slot), uG D vwCl 34 ad (enM ad cs) (uAd 34 ad s.heap.size) s σ H locs → lv_has ls 11 [(0, .ref (ad 0)), (1, .int v1), (2, .int v2), (3, .int v3), (4, .int v4), (5, .int v5)] → W p l e { frames := 1, cells := 0, slots := 0, locals := 22 } s m args below meth c H locs 0 0 (MQ below (uQi D vwCl 34 ad (enM ad cs) r σ' s.heap.size) args s 0 0 (uAd 34 ad s.heap.size)) (F0 m 23 ls [])) :
    ∀ (n : Nat) (σ : St) (v1 : Int32) (v2 : Int32) (v3 : Int32) (v4 : Int32) (v5 : Int32) (v6 : Int32) (v7 : Int32) (v8 : Int32) (v9 : Int32), f_X10_keep_46 k23 n σ v1 v2 v3 v4 v5 v6 v7 v8 v9 = some (r, σ') → ∀ (H : Heap) (locs : List Loc) (ls : Array Slot), uG D vwCl 34 ad (enM ad cs) (uAd 34 ad s.heap.size) s σ H locs → lv_has ls 11 [(0, .ref (ad 0)), (1, .int v1), (2, .int v2), (3, .int v3), (4, .int v4), (5, .int v5), (6, .int v6), (7, .int v7), (8, .int v8), (9, .int v9)] → W p l e { frames := 1, cells := 0, slots := 0, locals := 22 } s m args below meth c H locs 0 0 (MQ below (uQi D vwCl 34 ad (enM ad cs) r σ' s.heap.size) args s 0 0 (uAd 34 ad s.heap.size)) (F0 m 46 ls []) := by
  have hx := C.1.1
  have hb := C.1.2.1
  intro n
  induction n with
  | zero => intro σ v1 v2 v3 v4 v5 v6 v7 v8 v9  h; exact absurd h (by simp [f_X10_keep_46])
  | succ fuel ih =>
    intro σ v1 v2 v3 v4 v5 v6 v7 v8 v9  h H locs ls G hl
    rw [f_X10_keep_46] at h
    refine lv_iload hx hb dX10_keep_46 (lv_at hl 9 rfl) ?_
    refine lv_aload_n hx hb dX10_keep_48 rfl (lv_at hl 0 rfl) ?_
    refine u_get (v := .int (σ 0 40)) C G obM_0 (ci := 10) (N := 44) (Cn := RX10) (T := TX10) rfl fi_X10_keep_10 40 (by decide) (by decide +kernel) rfl dX10_keep_49 ?_
    refine lv_icmp_ge (tgt := 148) hx hb dX10_keep_52 (by decide) (fun q => ?_) (fun q => ?_)
    · have h := u_pos q h
      refine lv_iload hx hb dX10_keep_148 (lv_at hl 8 rfl) ?_
      refine lv_if_eq (tgt := 188) hx hb dX10_keep_150 (by decide) (fun q => ?_) (fun q => ?_)
      · have h := u_pos q h
        obtain ⟨x4, ex4, h⟩ := ul_of h
        refine lv_iinc (v := x4) (lv' := [(5, .int x4), (0, .ref (ad 0)), (1, .int v1), (2, .int v2), (3, .int v3), (4, .int v4), (6, .int v6), (7, .int v7), (8, .int v8), (9, .int v9)]) hx hb dX10_keep_188 hl (k := 5) rfl (by rw [ex4]; rfl) (by decide) rfl (fun ls hl => ?_)
        refine lv_goto (tgt := 23) hx hb dX10_keep_191 (by decide) ?_
        exact hk23 σ v1 v2 v3 v4 x4 h H locs ls G (lv_sub hl [1, 2, 3, 4, 5, 0] rfl)
      · have h := u_neg q h
        refine lv_iload hx hb dX10_keep_153 (lv_at hl 7 rfl) ?_
        refine lv_iload_n hx hb dX10_keep_155 rfl (lv_at hl 1 rfl) ?_
        refine lv_icmp_gt (tgt := 188) hx hb dX10_keep_156 (by decide) (fun q => ?_) (fun q => ?_)
        · have h := u_pos q h
          obtain ⟨x5, ex5, h⟩ := ul_of h
          refine lv_iinc (v := x5) (lv' := [(5, .int x5), (0, .ref (ad 0)), (1, .int v1), (2, .int v2), (3, .int v3), (4, .int v4), (6, .int v6), (7, .int v7), (8, .int v8), (9, .int v9)]) hx hb dX10_keep_188 hl (k := 5) rfl (by rw [ex5]; rfl) (by decide) rfl (fun ls hl => ?_)
          refine lv_goto (tgt := 23) hx hb dX10_keep_191 (by decide) ?_
          exact hk23 σ v1 v2 v3 v4 x5 h H locs ls G (lv_sub hl [1, 2, 3, 4, 5, 0] rfl)
        · have h := u_neg q h
          refine lv_iload hx hb dX10_keep_159 (lv_at hl 6 rfl) ?_
          refine lv_iload_n hx hb dX10_keep_161 rfl (lv_at hl 3 rfl) ?_
          refine lv_icmp_gt (tgt := 178) hx hb dX10_keep_162 (by decide) (fun q => ?_) (fun q => ?_)
          · have h := u_pos q h
            refine lv_iload hx hb dX10_keep_178 (lv_at hl 5 rfl) ?_
            refine lv_istore_n (lv' := [(2, .int v5), (0, .ref (ad 0)), (1, .int v1), (3, .int v3), (4, .int v4), (5, .int v5), (6, .int v6), (7, .int v7), (8, .int v8), (9, .int v9)]) hx hb dX10_keep_180 rfl hl (by decide) rfl (fun ls hl => ?_)
            refine lv_iload hx hb dX10_keep_181 (lv_at hl 6 rfl) ?_
            refine lv_istore_n (lv' := [(3, .int v6), (2, .int v5), (0, .ref (ad 0)), (1, .int v1), (4, .int v4), (5, .int v5), (6, .int v6), (7, .int v7), (8, .int v8), (9, .int v9)]) hx hb dX10_keep_183 rfl hl (by decide) rfl (fun ls hl => ?_)
            refine lv_iload hx hb dX10_keep_184 (lv_at hl 7 rfl) ?_
            refine lv_istore (lv' := [(4, .int v7), (3, .int v6), (2, .int v5), (0, .ref (ad 0)), (1, .int v1), (5, .int v5), (6, .int v6), (7, .int v7), (8, .int v8), (9, .int v9)]) hx hb dX10_keep_186 hl (by decide) rfl (fun ls hl => ?_)
            obtain ⟨x6, ex6, h⟩ := ul_of h
            refine lv_iinc (v := x6) (lv' := [(5, .int x6), (4, .int v7), (3, .int v6), (2, .int v5), (0, .ref (ad 0)), (1, .int v1), (6, .int v6), (7, .int v7), (8, .int v8), (9, .int v9)]) hx hb dX10_keep_188 hl (k := 5) rfl (by rw [ex6]; rfl) (by decide) rfl (fun ls hl => ?_)
            refine lv_goto (tgt := 23) hx hb dX10_keep_191 (by decide) ?_
            exact hk23 σ v1 v5 v6 v7 x6 h H locs ls G (lv_sub hl [4, 5, 3, 2, 1, 0] rfl)
          · have h := u_neg q h
            refine lv_iload hx hb dX10_keep_165 (lv_at hl 6 rfl) ?_
            refine lv_iload_n hx hb dX10_keep_167 rfl (lv_at hl 3 rfl) ?_
            refine lv_icmp_ne (tgt := 188) hx hb dX10_keep_168 (by decide) (fun q => ?_) (fun q => ?_)
            · have h := u_neg q h
              obtain ⟨x7, ex7, h⟩ := ul_of h
              refine lv_iinc (v := x7) (lv' := [(5, .int x7), (0, .ref (ad 0)), (1, .int v1), (2, .int v2), (3, .int v3), (4, .int v4), (6, .int v6), (7, .int v7), (8, .int v8), (9, .int v9)]) hx hb dX10_keep_188 hl (k := 5) rfl (by rw [ex7]; rfl) (by decide) rfl (fun ls hl => ?_)
              refine lv_goto (tgt := 23) hx hb dX10_keep_191 (by decide) ?_
              exact hk23 σ v1 v2 v3 v4 x7 h H locs ls G (lv_sub hl [1, 2, 3, 4, 5, 0] rfl)
            · have h := u_pos q h
              refine lv_iload hx hb dX10_keep_171 (lv_at hl 7 rfl) ?_
              refine lv_iload hx hb dX10_keep_173 (lv_at hl 4 rfl) ?_
              refine lv_icmp_ge (tgt := 188) hx hb dX10_keep_175 (by decide) (fun q => ?_) (fun q => ?_)
              · have h := u_pos q h
                obtain ⟨x8, ex8, h⟩ := ul_of h
                refine lv_iinc (v := x8) (lv' := [(5, .int x8), (0, .ref (ad 0)), (1, .int v1), (2, .int v2), (3, .int v3), (4, .int v4), (6, .int v6), (7, .int v7), (8, .int v8), (9, .int v9)]) hx hb dX10_keep_188 hl (k := 5) rfl (by rw [ex8]; rfl) (by decide) rfl (fun ls hl => ?_)
                refine lv_goto (tgt := 23) hx hb dX10_keep_191 (by decide) ?_
                exact hk23 σ v1 v2 v3 v4 x8 h H locs ls G (lv_sub hl [1, 2, 3, 4, 5, 0] rfl)
              · have h := u_neg q h
                refine lv_iload hx hb dX10_keep_178 (lv_at hl 5 rfl) ?_
                refine lv_istore_n (lv' := [(2, .int v5), (0, .ref (ad 0)), (1, .int v1), (3, .int v3), (4, .int v4), (5, .int v5), (6, .int v6), (7, .int v7), (8, .int v8), (9, .int v9)]) hx hb dX10_keep_180 rfl hl (by decide) rfl (fun ls hl => ?_)
                refine lv_iload hx hb dX10_keep_181 (lv_at hl 6 rfl) ?_
                refine lv_istore_n (lv' := [(3, .int v6), (2, .int v5), (0, .ref (ad 0)), (1, .int v1), (4, .int v4), (5, .int v5), (6, .int v6), (7, .int v7), (8, .int v8), (9, .int v9)]) hx hb dX10_keep_183 rfl hl (by decide) rfl (fun ls hl => ?_)
                refine lv_iload hx hb dX10_keep_184 (lv_at hl 7 rfl) ?_
                refine lv_istore (lv' := [(4, .int v7), (3, .int v6), (2, .int v5), (0, .ref (ad 0)), (1, .int v1), (5, .int v5), (6, .int v6), (7, .int v7), (8, .int v8), (9, .int v9)]) hx hb dX10_keep_186 hl (by decide) rfl (fun ls hl => ?_)
                obtain ⟨x9, ex9, h⟩ := ul_of h
                refine lv_iinc (v := x9) (lv' := [(5, .int x9), (4, .int v7), (3, .int v6), (2, .int v5), (0, .ref (ad 0)), (1, .int v1), (6, .int v6), (7, .int v7), (8, .int v8), (9, .int v9)]) hx hb dX10_keep_188 hl (k := 5) rfl (by rw [ex9]; rfl) (by decide) rfl (fun ls hl => ?_)
                refine lv_goto (tgt := 23) hx hb dX10_keep_191 (by decide) ?_
                exact hk23 σ v1 v5 v6 v7 x9 h H locs ls G (lv_sub hl [4, 5, 3, 2, 1, 0] rfl)
    · have h := u_neg q h
      refine lv_iload hx hb dX10_keep_55 (lv_at hl 5 rfl) ?_
      refine lv_iload hx hb dX10_keep_57 (lv_at hl 9 rfl) ?_
      refine lv_ishr hx hb dX10_keep_59 ?_
      refine lv_iconst (v := 1) hx hb dX10_keep_60 (by decide) ?_
      refine lv_iand hx hb dX10_keep_61 ?_
      refine lv_iconst (v := 1) hx hb dX10_keep_62 (by decide) ?_
      refine lv_icmp_ne (tgt := 70) hx hb dX10_keep_63 (by decide) (fun q => ?_) (fun q => ?_)
      · have h := u_neg q h
        refine lv_iconst (v := 0) hx hb dX10_keep_70 (by decide) ?_
        exact w_X10_keep_71 C hr hlk hk23 ih σ v1 v2 v3 v4 v5 v6 v7 v8 v9 0 h H locs ls G (lv_sub hl [0, 1, 2, 3, 4, 5, 6, 7, 8, 9] rfl)
      · have h := u_pos q h
        refine lv_iconst (v := 1) hx hb dX10_keep_66 (by decide) ?_
        refine lv_goto (tgt := 71) hx hb dX10_keep_67 (by decide) ?_
        exact w_X10_keep_71 C hr hlk hk23 ih σ v1 v2 v3 v4 v5 v6 v7 v8 v9 1 h H locs ls G (lv_sub hl [0, 1, 2, 3, 4, 5, 6, 7, 8, 9] rfl)
set_option maxHeartbeats 4000000 in
set_option maxRecDepth 100000 in
theorem w_X10_keep_23 {p : Program} {l : Launch} {e : Env} {s : State} {m : MethodId} {args : Array Value} {below : List Frame} {meth : Method} {c : Code} {D : va_G} {ad : Nat → Nat} {cs : Nat → ClassId} (C : uC p { frames := 1, cells := 0, slots := 0, locals := 22 } s m args c cX10_keep 11 wsX10_keep RX10 D vwCl (tyM cs) 34 ad (uAd 34 ad s.heap.size) 0 0) (hr : meth.sig.returnType = (some .int)) (hlk : meth.locks = false) {r : Int32} {σ' : St} :
    ∀ (n : Nat) (σ : St) (v1 : Int32) (v2 : Int32) (v3 : Int32) (v4 : Int32) (v5 : Int32), f_X10_keep_23 n σ v1 v2 v3 v4 v5 = some (r, σ') → ∀ (H : Heap) (locs : List Loc) (ls : Array Slot), uG D vwCl 34 ad (enM ad cs) (uAd 34 ad s.heap.size) s σ H locs → lv_has ls 11 [(0, .ref (ad 0)), (1, .int v1), (2, .int v2), (3, .int v3), (4, .int v4), (5, .int v5)] → W p l e { frames := 1, cells := 0, slots := 0, locals := 22 } s m args below meth c H locs 0 0 (MQ below (uQi D vwCl 34 ad (enM ad cs) r σ' s.heap.size) args s 0 0 (uAd 34 ad s.heap.size)) (F0 m 23 ls []) := by
  have hx := C.1.1
  have hb := C.1.2.1
  intro n
  induction n with
  | zero => intro σ v1 v2 v3 v4 v5  h; exact absurd h (by simp [f_X10_keep_23])
  | succ fuel ih =>
    intro σ v1 v2 v3 v4 v5  h H locs ls G hl
    rw [f_X10_keep_23] at h
    refine lv_iload hx hb dX10_keep_23 (lv_at hl 5 rfl) ?_
    refine lv_iconst (v := 1) hx hb dX10_keep_25 (by decide) ?_
    refine lv_aload_n hx hb dX10_keep_26 rfl (lv_at hl 0 rfl) ?_
    refine u_get (v := .int (σ 0 40)) C G obM_0 (ci := 10) (N := 44) (Cn := RX10) (T := TX10) rfl fi_X10_keep_10 40 (by decide) (by decide +kernel) rfl dX10_keep_27 ?_
    refine lv_ishl hx hb dX10_keep_30 ?_
    refine lv_icmp_ge (tgt := 194) hx hb dX10_keep_31 (by decide) (fun q => ?_) (fun q => ?_)
    · have h := u_pos q h
      refine lv_aload_n hx hb dX10_keep_194 rfl (lv_at hl 0 rfl) ?_
      refine lv_iload_n hx hb dX10_keep_195 rfl (lv_at hl 2 rfl) ?_
      refine u_put (x := v2) (ty := .int) C G obM_0 (ci := 10) (N := 44) (Cn := RX10) (T := TX10) rfl fi_X10_keep_10 tyX10 tyX10_ok nmX10 2 (by decide) (by decide +kernel) rfl (by decide +kernel) rfl rfl (fun f => by simp) (fun f => rfl) dX10_keep_196 (fun H locs G => ?_)
      obtain ⟨σ3, eσ3, h⟩ := ul_of h
      replace G := uG_eq eσ3 G
      refine lv_iload_n hx hb dX10_keep_199 rfl (lv_at hl 3 rfl) ?_
      obtain ⟨rfl, rfl⟩ := u_end h
      exact u_iret hx hb hr hlk G dX10_keep_200
    · have h := u_neg q h
      refine lv_iconst (v := 0) hx hb dX10_keep_34 (by decide) ?_
      refine lv_istore (lv' := [(6, .int 0), (0, .ref (ad 0)), (1, .int v1), (2, .int v2), (3, .int v3), (4, .int v4), (5, .int v5)]) hx hb dX10_keep_35 hl (by decide) rfl (fun ls hl => ?_)
      refine lv_iconst (v := 0) hx hb dX10_keep_37 (by decide) ?_
      refine lv_istore (lv' := [(7, .int 0), (6, .int 0), (0, .ref (ad 0)), (1, .int v1), (2, .int v2), (3, .int v3), (4, .int v4), (5, .int v5)]) hx hb dX10_keep_38 hl (by decide) rfl (fun ls hl => ?_)
      refine lv_iconst (v := 1) hx hb dX10_keep_40 (by decide) ?_
      refine lv_istore (lv' := [(8, .int 1), (7, .int 0), (6, .int 0), (0, .ref (ad 0)), (1, .int v1), (2, .int v2), (3, .int v3), (4, .int v4), (5, .int v5)]) hx hb dX10_keep_41 hl (by decide) rfl (fun ls hl => ?_)
      refine lv_iconst (v := 0) hx hb dX10_keep_43 (by decide) ?_
      refine lv_istore (lv' := [(9, .int 0), (8, .int 1), (7, .int 0), (6, .int 0), (0, .ref (ad 0)), (1, .int v1), (2, .int v2), (3, .int v3), (4, .int v4), (5, .int v5)]) hx hb dX10_keep_44 hl (by decide) rfl (fun ls hl => ?_)
      exact w_X10_keep_46 C hr hlk ih fu σ v1 v2 v3 v4 v5 0 0 1 0 h H locs ls G (lv_sub hl [4, 5, 6, 7, 8, 9, 3, 2, 1, 0] rfl)
set_option maxHeartbeats 4000000 in
set_option maxRecDepth 100000 in
theorem c_X10_keep (l : Launch) (D : va_G) (ad : Nat → Nat) (cs : Nat → ClassId) (J : uJ 34 ad) (σ : St) (v1 : Int32) (r : Int32) (σ' : St) (h : f_X10_keep σ v1 = some (r, σ')) : uMi l yX10_keep wsX10_keep { frames := 1, cells := 0, slots := 0, locals := 22 } D vwCl (tyM cs) 34 ad (enM ad cs) [.ref (ad 0), .int v1] σ r σ' := by
  refine u_met (Qf := uQi D vwCl 34 ad (enM ad cs) r σ') (cc := cX10_keep) (maxL := 11) (ret := (some .int)) (lv := [(0, .ref (ad 0)), (1, .int v1)]) J (by decide) rfl (Nat.le_of_ble_eq_true rfl) rfl rfl rfl ?_
  intro p e s m args below meth c ls hx hb C hr hlk G hl
  unfold f_X10_keep at h
  obtain ⟨H, eH⟩ : ∃ H, H = s.heap := ⟨_, rfl⟩
  obtain ⟨locs, eL⟩ : ∃ locs : List Loc, locs = [] := ⟨_, rfl⟩
  refine u_start eH eL G ?_
  clear G eH eL
  intro G
  refine lv_iload_n hx hb dX10_keep_0 rfl (lv_at hl 1 rfl) ?_
  refine lv_iconst (v := 0) hx hb dX10_keep_1 (by decide) ?_
  refine lv_sipush (v := 12000) hx hb dX10_keep_2 (by decide) ?_
  obtain ⟨r1, σ2, er1, h⟩ := ub_of h
  refine u_callSi (As := [.int v1, .int 0, .int 12000]) (rest := []) C G (c_X10_in l D ad cs C.2.2.1 σ v1 (0 : Int32) (12000 : Int32) r1 σ2 er1) (va_cwS 3 C.1.2.2.2.2 gX10_keep_X10_in rfl rfl rfl (by decide +kernel) ⟨Nat.le_of_ble_eq_true rfl, Nat.le_of_ble_eq_true rfl⟩) rfl hl rfl (Nat.le_of_ble_eq_true rfl) dX10_keep_5 (fun H locs G => ?_)
  refine lv_if_ne (tgt := 13) hx hb dX10_keep_8 (by decide) (fun q => ?_) (fun q => ?_)
  · have h := u_neg q h
    refine lv_iconst (v := 0) hx hb dX10_keep_13 (by decide) ?_
    refine lv_istore_n (lv' := [(2, .int 0), (0, .ref (ad 0)), (1, .int v1)]) hx hb dX10_keep_14 rfl hl (by decide) rfl (fun ls hl => ?_)
    refine lv_iconst (v := 0) hx hb dX10_keep_15 (by decide) ?_
    refine lv_istore_n (lv' := [(3, .int 0), (2, .int 0), (0, .ref (ad 0)), (1, .int v1)]) hx hb dX10_keep_16 rfl hl (by decide) rfl (fun ls hl => ?_)
    refine lv_iconst (v := 0) hx hb dX10_keep_17 (by decide) ?_
    refine lv_istore (lv' := [(4, .int 0), (3, .int 0), (2, .int 0), (0, .ref (ad 0)), (1, .int v1)]) hx hb dX10_keep_18 hl (by decide) rfl (fun ls hl => ?_)
    refine lv_iconst (v := 1) hx hb dX10_keep_20 (by decide) ?_
    refine lv_istore (lv' := [(5, .int 1), (4, .int 0), (3, .int 0), (2, .int 0), (0, .ref (ad 0)), (1, .int v1)]) hx hb dX10_keep_21 hl (by decide) rfl (fun ls hl => ?_)
    exact w_X10_keep_23 C hr hlk fu σ2 v1 0 0 0 1 h H locs ls G (lv_sub hl [4, 5, 3, 2, 1, 0] rfl)
  · have h := u_pos q h
    refine lv_iconst (v := (-1)) hx hb dX10_keep_11 (by decide) ?_
    obtain ⟨rfl, rfl⟩ := u_end h
    exact u_iret hx hb hr hlk G dX10_keep_12
/-! X10_asked -/
def f_X10_asked (σ : St) : Option (Int32 × St) :=
  some ((σ 0 2), σ)
theorem fi_X10_asked_10 : ∀ w ∈ u_ws RX10 TX10 44, w ∈ wsX10_asked := by decide +kernel
set_option maxHeartbeats 4000000 in
set_option maxRecDepth 100000 in
theorem c_X10_asked (l : Launch) (D : va_G) (ad : Nat → Nat) (cs : Nat → ClassId) (J : uJ 34 ad) (σ : St) (r : Int32) (σ' : St) (h : f_X10_asked σ = some (r, σ')) : uMi l yX10_asked wsX10_asked { frames := 0, cells := 0, slots := 0, locals := 0 } D vwCl (tyM cs) 34 ad (enM ad cs) [.ref (ad 0)] σ r σ' := by
  refine u_met (Qf := uQi D vwCl 34 ad (enM ad cs) r σ') (cc := cX10_asked) (maxL := 1) (ret := (some .int)) (lv := [(0, .ref (ad 0))]) J (by decide) rfl (Nat.le_of_ble_eq_true rfl) rfl rfl rfl ?_
  intro p e s m args below meth c ls hx hb C hr hlk G hl
  unfold f_X10_asked at h
  obtain ⟨H, eH⟩ : ∃ H, H = s.heap := ⟨_, rfl⟩
  obtain ⟨locs, eL⟩ : ∃ locs : List Loc, locs = [] := ⟨_, rfl⟩
  refine u_start eH eL G ?_
  clear G eH eL
  intro G
  refine lv_aload_n hx hb dX10_asked_0 rfl (lv_at hl 0 rfl) ?_
  refine u_get (v := .int (σ 0 2)) C G obM_0 (ci := 10) (N := 44) (Cn := RX10) (T := TX10) rfl fi_X10_asked_10 2 (by decide) (by decide +kernel) rfl dX10_asked_1 ?_
  obtain ⟨rfl, rfl⟩ := u_end h
  exact u_iret hx hb hr hlk G dX10_asked_4
/-! X10_tellsCount -/
def f_X10_tellsCount_78 : Nat → St → Int32 → Int32 → Option (Int32 × St)
  | 0, _, _, _ => none
  | fuel + 1, σ, v2, v3 =>
    if 600 ≤ v3 then
      some (v2, σ)
    else
      ui v3 600 <|
      if (σ 14 v3.toNatClampNeg) = 4 then
        ul (v2 + 0) fun x9 =>
        ul (v3 + 1) fun x10 =>
        f_X10_tellsCount_78 fuel σ x9 x10
      else
        ul (v2 + 1) fun x7 =>
        ul (v3 + 1) fun x8 =>
        f_X10_tellsCount_78 fuel σ x7 x8
def f_X10_tellsCount_43 : Nat → St → Int32 → Int32 → Option (Int32 × St)
  | 0, _, _, _ => none
  | fuel + 1, σ, v2, v3 =>
    if (σ 0 7) ≤ v3 then
      some (v2, σ)
    else
      ui v3 16 <|
      if (σ 9 v3.toNatClampNeg) = 0 then
        ul (v2 + 1) fun x2 =>
        ul (v3 + 1) fun x3 =>
        f_X10_tellsCount_43 fuel σ x2 x3
      else
        ul (v2 + 0) fun x4 =>
        ul (v3 + 1) fun x5 =>
        f_X10_tellsCount_43 fuel σ x4 x5
def f_X10_tellsCount (σ : St) (v1 : Int32) : Option (Int32 × St) :=
  if v1 = 0 then
    some ((σ 0 7), σ)
  else
    if v1 = 1 then
      f_X10_tellsCount_43 fu σ 0 0
    else
      if v1 = 2 then
        f_X10_tellsCount_78 fu σ 0 0
      else
        if v1 = 3 then
          some (((((σ 16 (0 : Int32).toNatClampNeg) + (σ 16 (1 : Int32).toNatClampNeg)) + (σ 16 (2 : Int32).toNatClampNeg)) + (σ 16 (3 : Int32).toNatClampNeg)), σ)
        else
          if v1 = 4 then
            some ((σ 0 37), σ)
          else
            some ((σ 0 40), σ)
theorem fi_X10_tellsCount_10 : ∀ w ∈ u_ws RX10 TX10 44, w ∈ wsX10_tellsCount := by decide +kernel
set_option maxHeartbeats 4000000 in
set_option maxRecDepth 100000 in
theorem w_X10_tellsCount_78 {p : Program} {l : Launch} {e : Env} {s : State} {m : MethodId} {args : Array Value} {below : List Frame} {meth : Method} {c : Code} {D : va_G} {ad : Nat → Nat} {cs : Nat → ClassId} (C : uC p { frames := 0, cells := 0, slots := 0, locals := 0 } s m args c cX10_tellsCount 4 wsX10_tellsCount RX10 D vwCl (tyM cs) 34 ad (uAd 34 ad s.heap.size) 0 0) (hr : meth.sig.returnType = (some .int)) (hlk : meth.locks = false) {r : Int32} {σ' : St} :
    ∀ (n : Nat) (σ : St) (v2 : Int32) (v3 : Int32), f_X10_tellsCount_78 n σ v2 v3 = some (r, σ') → ∀ (H : Heap) (locs : List Loc) (ls : Array Slot), uG D vwCl 34 ad (enM ad cs) (uAd 34 ad s.heap.size) s σ H locs → lv_has ls 4 [(0, .ref (ad 0)), (2, .int v2), (3, .int v3)] → W p l e { frames := 0, cells := 0, slots := 0, locals := 0 } s m args below meth c H locs 0 0 (MQ below (uQi D vwCl 34 ad (enM ad cs) r σ' s.heap.size) args s 0 0 (uAd 34 ad s.heap.size)) (F0 m 78 ls []) := by
  have hx := C.1.1
  have hb := C.1.2.1
  intro n
  induction n with
  | zero => intro σ v2 v3  h; exact absurd h (by simp [f_X10_tellsCount_78])
  | succ fuel ih =>
    intro σ v2 v3  h H locs ls G hl
    rw [f_X10_tellsCount_78] at h
    refine lv_iload_n hx hb dX10_tellsCount_78 rfl (lv_at hl 2 rfl) ?_
    refine lv_sipush (v := 600) hx hb dX10_tellsCount_79 (by decide) ?_
    refine lv_icmp_ge (tgt := 109) hx hb dX10_tellsCount_82 (by decide) (fun q => ?_) (fun q => ?_)
    · have h := u_pos q h
      refine lv_iload_n hx hb dX10_tellsCount_109 rfl (lv_at hl 1 rfl) ?_
      obtain ⟨rfl, rfl⟩ := u_end h
      exact u_iret hx hb hr hlk G dX10_tellsCount_110
    · have h := u_neg q h
      refine lv_iload_n hx hb dX10_tellsCount_85 rfl (lv_at hl 1 rfl) ?_
      refine lv_aload_n hx hb dX10_tellsCount_86 rfl (lv_at hl 0 rfl) ?_
      refine u_get (v := .ref (ad 14)) C G obM_0 (ci := 10) (N := 44) (Cn := RX10) (T := TX10) rfl fi_X10_tellsCount_10 16 (by decide) (by decide +kernel) rfl dX10_tellsCount_87 ?_
      refine lv_iload_n hx hb dX10_tellsCount_90 rfl (lv_at hl 2 rfl) ?_
      obtain ⟨g6, h⟩ := ui_of h
      refine u_iald C G arM_14 (t0 := 0) rfl g6 dX10_tellsCount_91 ?_
      refine lv_iconst (v := 4) hx hb dX10_tellsCount_92 (by decide) ?_
      refine lv_icmp_ne (tgt := 100) hx hb dX10_tellsCount_93 (by decide) (fun q => ?_) (fun q => ?_)
      · have h := u_neg q h
        refine lv_iconst (v := 1) hx hb dX10_tellsCount_100 (by decide) ?_
        refine lv_iadd hx hb dX10_tellsCount_101 ?_
        obtain ⟨x7, ex7, h⟩ := ul_of h
        refine u_nmi ex7 ?_
        refine lv_istore_n (lv' := [(2, .int x7), (0, .ref (ad 0)), (3, .int v3)]) hx hb dX10_tellsCount_102 rfl hl (by decide) rfl (fun ls hl => ?_)
        obtain ⟨x8, ex8, h⟩ := ul_of h
        refine lv_iinc (v := x8) (lv' := [(3, .int x8), (2, .int x7), (0, .ref (ad 0))]) hx hb dX10_tellsCount_103 hl (k := 2) rfl (by rw [ex8]; rfl) (by decide) rfl (fun ls hl => ?_)
        refine lv_goto (tgt := 78) hx hb dX10_tellsCount_106 (by decide) ?_
        exact ih σ x7 x8 h H locs ls G (lv_sub hl [2, 1, 0] rfl)
      · have h := u_pos q h
        refine lv_iconst (v := 0) hx hb dX10_tellsCount_96 (by decide) ?_
        refine lv_goto (tgt := 101) hx hb dX10_tellsCount_97 (by decide) ?_
        refine lv_iadd hx hb dX10_tellsCount_101 ?_
        obtain ⟨x9, ex9, h⟩ := ul_of h
        refine u_nmi ex9 ?_
        refine lv_istore_n (lv' := [(2, .int x9), (0, .ref (ad 0)), (3, .int v3)]) hx hb dX10_tellsCount_102 rfl hl (by decide) rfl (fun ls hl => ?_)
        obtain ⟨x10, ex10, h⟩ := ul_of h
        refine lv_iinc (v := x10) (lv' := [(3, .int x10), (2, .int x9), (0, .ref (ad 0))]) hx hb dX10_tellsCount_103 hl (k := 2) rfl (by rw [ex10]; rfl) (by decide) rfl (fun ls hl => ?_)
        refine lv_goto (tgt := 78) hx hb dX10_tellsCount_106 (by decide) ?_
        exact ih σ x9 x10 h H locs ls G (lv_sub hl [2, 1, 0] rfl)
set_option maxHeartbeats 4000000 in
set_option maxRecDepth 100000 in
theorem w_X10_tellsCount_43 {p : Program} {l : Launch} {e : Env} {s : State} {m : MethodId} {args : Array Value} {below : List Frame} {meth : Method} {c : Code} {D : va_G} {ad : Nat → Nat} {cs : Nat → ClassId} (C : uC p { frames := 0, cells := 0, slots := 0, locals := 0 } s m args c cX10_tellsCount 4 wsX10_tellsCount RX10 D vwCl (tyM cs) 34 ad (uAd 34 ad s.heap.size) 0 0) (hr : meth.sig.returnType = (some .int)) (hlk : meth.locks = false) {r : Int32} {σ' : St} :
    ∀ (n : Nat) (σ : St) (v2 : Int32) (v3 : Int32), f_X10_tellsCount_43 n σ v2 v3 = some (r, σ') → ∀ (H : Heap) (locs : List Loc) (ls : Array Slot), uG D vwCl 34 ad (enM ad cs) (uAd 34 ad s.heap.size) s σ H locs → lv_has ls 4 [(0, .ref (ad 0)), (2, .int v2), (3, .int v3)] → W p l e { frames := 0, cells := 0, slots := 0, locals := 0 } s m args below meth c H locs 0 0 (MQ below (uQi D vwCl 34 ad (enM ad cs) r σ' s.heap.size) args s 0 0 (uAd 34 ad s.heap.size)) (F0 m 43 ls []) := by
  have hx := C.1.1
  have hb := C.1.2.1
  intro n
  induction n with
  | zero => intro σ v2 v3  h; exact absurd h (by simp [f_X10_tellsCount_43])
  | succ fuel ih =>
    intro σ v2 v3  h H locs ls G hl
    rw [f_X10_tellsCount_43] at h
    refine lv_iload_n hx hb dX10_tellsCount_43 rfl (lv_at hl 2 rfl) ?_
    refine lv_aload_n hx hb dX10_tellsCount_44 rfl (lv_at hl 0 rfl) ?_
    refine u_get (v := .int (σ 0 7)) C G obM_0 (ci := 10) (N := 44) (Cn := RX10) (T := TX10) rfl fi_X10_tellsCount_10 7 (by decide) (by decide +kernel) rfl dX10_tellsCount_45 ?_
    refine lv_icmp_ge (tgt := 74) hx hb dX10_tellsCount_48 (by decide) (fun q => ?_) (fun q => ?_)
    · have h := u_pos q h
      refine lv_iload_n hx hb dX10_tellsCount_74 rfl (lv_at hl 1 rfl) ?_
      obtain ⟨rfl, rfl⟩ := u_end h
      exact u_iret hx hb hr hlk G dX10_tellsCount_75
    · have h := u_neg q h
      refine lv_iload_n hx hb dX10_tellsCount_51 rfl (lv_at hl 1 rfl) ?_
      refine lv_aload_n hx hb dX10_tellsCount_52 rfl (lv_at hl 0 rfl) ?_
      refine u_get (v := .ref (ad 9)) C G obM_0 (ci := 10) (N := 44) (Cn := RX10) (T := TX10) rfl fi_X10_tellsCount_10 11 (by decide) (by decide +kernel) rfl dX10_tellsCount_53 ?_
      refine lv_iload_n hx hb dX10_tellsCount_56 rfl (lv_at hl 2 rfl) ?_
      obtain ⟨g1, h⟩ := ui_of h
      refine u_zald C G arM_9 (t0 := 2) rfl g1 dX10_tellsCount_57 ?_
      refine lv_if_eq (tgt := 65) hx hb dX10_tellsCount_58 (by decide) (fun q => ?_) (fun q => ?_)
      · have h := u_pos q h
        refine lv_iconst (v := 1) hx hb dX10_tellsCount_65 (by decide) ?_
        refine lv_iadd hx hb dX10_tellsCount_66 ?_
        obtain ⟨x2, ex2, h⟩ := ul_of h
        refine u_nmi ex2 ?_
        refine lv_istore_n (lv' := [(2, .int x2), (0, .ref (ad 0)), (3, .int v3)]) hx hb dX10_tellsCount_67 rfl hl (by decide) rfl (fun ls hl => ?_)
        obtain ⟨x3, ex3, h⟩ := ul_of h
        refine lv_iinc (v := x3) (lv' := [(3, .int x3), (2, .int x2), (0, .ref (ad 0))]) hx hb dX10_tellsCount_68 hl (k := 2) rfl (by rw [ex3]; rfl) (by decide) rfl (fun ls hl => ?_)
        refine lv_goto (tgt := 43) hx hb dX10_tellsCount_71 (by decide) ?_
        exact ih σ x2 x3 h H locs ls G (lv_sub hl [2, 1, 0] rfl)
      · have h := u_neg q h
        refine lv_iconst (v := 0) hx hb dX10_tellsCount_61 (by decide) ?_
        refine lv_goto (tgt := 66) hx hb dX10_tellsCount_62 (by decide) ?_
        refine lv_iadd hx hb dX10_tellsCount_66 ?_
        obtain ⟨x4, ex4, h⟩ := ul_of h
        refine u_nmi ex4 ?_
        refine lv_istore_n (lv' := [(2, .int x4), (0, .ref (ad 0)), (3, .int v3)]) hx hb dX10_tellsCount_67 rfl hl (by decide) rfl (fun ls hl => ?_)
        obtain ⟨x5, ex5, h⟩ := ul_of h
        refine lv_iinc (v := x5) (lv' := [(3, .int x5), (2, .int x4), (0, .ref (ad 0))]) hx hb dX10_tellsCount_68 hl (k := 2) rfl (by rw [ex5]; rfl) (by decide) rfl (fun ls hl => ?_)
        refine lv_goto (tgt := 43) hx hb dX10_tellsCount_71 (by decide) ?_
        exact ih σ x4 x5 h H locs ls G (lv_sub hl [2, 1, 0] rfl)
set_option maxHeartbeats 4000000 in
set_option maxRecDepth 100000 in
theorem c_X10_tellsCount (l : Launch) (D : va_G) (ad : Nat → Nat) (cs : Nat → ClassId) (J : uJ 34 ad) (σ : St) (v1 : Int32) (r : Int32) (σ' : St) (h : f_X10_tellsCount σ v1 = some (r, σ')) : uMi l yX10_tellsCount wsX10_tellsCount { frames := 0, cells := 0, slots := 0, locals := 0 } D vwCl (tyM cs) 34 ad (enM ad cs) [.ref (ad 0), .int v1] σ r σ' := by
  refine u_met (Qf := uQi D vwCl 34 ad (enM ad cs) r σ') (cc := cX10_tellsCount) (maxL := 4) (ret := (some .int)) (lv := [(0, .ref (ad 0)), (1, .int v1)]) J (by decide) rfl (Nat.le_of_ble_eq_true rfl) rfl rfl rfl ?_
  intro p e s m args below meth c ls hx hb C hr hlk G hl
  unfold f_X10_tellsCount at h
  obtain ⟨H, eH⟩ : ∃ H, H = s.heap := ⟨_, rfl⟩
  obtain ⟨locs, eL⟩ : ∃ locs : List Loc, locs = [] := ⟨_, rfl⟩
  refine u_start eH eL G ?_
  clear G eH eL
  intro G
  refine lv_iconst (v := 0) hx hb dX10_tellsCount_0 (by decide) ?_
  refine lv_istore_n (lv' := [(2, .int 0), (0, .ref (ad 0)), (1, .int v1)]) hx hb dX10_tellsCount_1 rfl hl (by decide) rfl (fun ls hl => ?_)
  refine lv_iload_n hx hb dX10_tellsCount_2 rfl (lv_at hl 2 rfl) ?_
  by_cases q0 : v1 = 0
  · have h := u_pos q0 h
    refine lv_tableIn (off := 33) (tgt := 36) hx hb dX10_tellsCount_3 (by rw [q0]; decide) (by rw [q0]; decide) (by rw [q0]; decide) (by decide) ?_
    refine lv_aload_n hx hb dX10_tellsCount_36 rfl (lv_at hl 1 rfl) ?_
    refine u_get (v := .int (σ 0 7)) C G obM_0 (ci := 10) (N := 44) (Cn := RX10) (T := TX10) rfl fi_X10_tellsCount_10 7 (by decide) (by decide +kernel) rfl dX10_tellsCount_37 ?_
    obtain ⟨rfl, rfl⟩ := u_end h
    exact u_iret hx hb hr hlk G dX10_tellsCount_40
  · have h := u_neg q0 h
    by_cases q1 : v1 = 1
    · have h := u_pos q1 h
      refine lv_tableIn (off := 38) (tgt := 41) hx hb dX10_tellsCount_3 (by rw [q1]; decide) (by rw [q1]; decide) (by rw [q1]; decide) (by decide) ?_
      refine lv_iconst (v := 0) hx hb dX10_tellsCount_41 (by decide) ?_
      refine lv_istore_n (lv' := [(3, .int 0), (2, .int 0), (0, .ref (ad 0)), (1, .int v1)]) hx hb dX10_tellsCount_42 rfl hl (by decide) rfl (fun ls hl => ?_)
      exact w_X10_tellsCount_43 C hr hlk fu σ 0 0 h H locs ls G (lv_sub hl [2, 1, 0] rfl)
    · have h := u_neg q1 h
      by_cases q2 : v1 = 2
      · have h := u_pos q2 h
        refine lv_tableIn (off := 73) (tgt := 76) hx hb dX10_tellsCount_3 (by rw [q2]; decide) (by rw [q2]; decide) (by rw [q2]; decide) (by decide) ?_
        refine lv_iconst (v := 0) hx hb dX10_tellsCount_76 (by decide) ?_
        refine lv_istore_n (lv' := [(3, .int 0), (2, .int 0), (0, .ref (ad 0)), (1, .int v1)]) hx hb dX10_tellsCount_77 rfl hl (by decide) rfl (fun ls hl => ?_)
        exact w_X10_tellsCount_78 C hr hlk fu σ 0 0 h H locs ls G (lv_sub hl [2, 1, 0] rfl)
      · have h := u_neg q2 h
        by_cases q3 : v1 = 3
        · have h := u_pos q3 h
          refine lv_tableIn (off := 108) (tgt := 111) hx hb dX10_tellsCount_3 (by rw [q3]; decide) (by rw [q3]; decide) (by rw [q3]; decide) (by decide) ?_
          refine lv_aload_n hx hb dX10_tellsCount_111 rfl (lv_at hl 1 rfl) ?_
          refine u_get (v := .ref (ad 16)) C G obM_0 (ci := 10) (N := 44) (Cn := RX10) (T := TX10) rfl fi_X10_tellsCount_10 19 (by decide) (by decide +kernel) rfl dX10_tellsCount_112 ?_
          refine lv_iconst (v := 0) hx hb dX10_tellsCount_115 (by decide) ?_
          refine u_iald C G arM_16 (t0 := 0) rfl (vp_lit (by decide)) dX10_tellsCount_116 ?_
          refine lv_aload_n hx hb dX10_tellsCount_117 rfl (lv_at hl 1 rfl) ?_
          refine u_get (v := .ref (ad 16)) C G obM_0 (ci := 10) (N := 44) (Cn := RX10) (T := TX10) rfl fi_X10_tellsCount_10 19 (by decide) (by decide +kernel) rfl dX10_tellsCount_118 ?_
          refine lv_iconst (v := 1) hx hb dX10_tellsCount_121 (by decide) ?_
          refine u_iald C G arM_16 (t0 := 0) rfl (vp_lit (by decide)) dX10_tellsCount_122 ?_
          refine lv_iadd hx hb dX10_tellsCount_123 ?_
          refine lv_aload_n hx hb dX10_tellsCount_124 rfl (lv_at hl 1 rfl) ?_
          refine u_get (v := .ref (ad 16)) C G obM_0 (ci := 10) (N := 44) (Cn := RX10) (T := TX10) rfl fi_X10_tellsCount_10 19 (by decide) (by decide +kernel) rfl dX10_tellsCount_125 ?_
          refine lv_iconst (v := 2) hx hb dX10_tellsCount_128 (by decide) ?_
          refine u_iald C G arM_16 (t0 := 0) rfl (vp_lit (by decide)) dX10_tellsCount_129 ?_
          refine lv_iadd hx hb dX10_tellsCount_130 ?_
          refine lv_aload_n hx hb dX10_tellsCount_131 rfl (lv_at hl 1 rfl) ?_
          refine u_get (v := .ref (ad 16)) C G obM_0 (ci := 10) (N := 44) (Cn := RX10) (T := TX10) rfl fi_X10_tellsCount_10 19 (by decide) (by decide +kernel) rfl dX10_tellsCount_132 ?_
          refine lv_iconst (v := 3) hx hb dX10_tellsCount_135 (by decide) ?_
          refine u_iald C G arM_16 (t0 := 0) rfl (vp_lit (by decide)) dX10_tellsCount_136 ?_
          refine lv_iadd hx hb dX10_tellsCount_137 ?_
          obtain ⟨rfl, rfl⟩ := u_end h
          exact u_iret hx hb hr hlk G dX10_tellsCount_138
        · have h := u_neg q3 h
          by_cases q4 : v1 = 4
          · have h := u_pos q4 h
            refine lv_tableIn (off := 136) (tgt := 139) hx hb dX10_tellsCount_3 (by rw [q4]; decide) (by rw [q4]; decide) (by rw [q4]; decide) (by decide) ?_
            refine lv_aload_n hx hb dX10_tellsCount_139 rfl (lv_at hl 1 rfl) ?_
            refine u_get (v := .int (σ 0 37)) C G obM_0 (ci := 10) (N := 44) (Cn := RX10) (T := TX10) rfl fi_X10_tellsCount_10 37 (by decide) (by decide +kernel) rfl dX10_tellsCount_140 ?_
            obtain ⟨rfl, rfl⟩ := u_end h
            exact u_iret hx hb hr hlk G dX10_tellsCount_143
          · have h := u_neg q4 h
            refine lv_tableOut (tgt := 144) hx hb dX10_tellsCount_3 (by have := (trivial : True); have n0 := lv_neT q0 (a := 0) (by decide); have n1 := lv_neT q1 (a := 1) (by decide); have n2 := lv_neT q2 (a := 2) (by decide); have n3 := lv_neT q3 (a := 3) (by decide); have n4 := lv_neT q4 (a := 4) (by decide); omega) (by decide) ?_
            refine lv_aload_n hx hb dX10_tellsCount_144 rfl (lv_at hl 1 rfl) ?_
            refine u_get (v := .int (σ 0 40)) C G obM_0 (ci := 10) (N := 44) (Cn := RX10) (T := TX10) rfl fi_X10_tellsCount_10 40 (by decide) (by decide +kernel) rfl dX10_tellsCount_145 ?_
            obtain ⟨rfl, rfl⟩ := u_end h
            exact u_iret hx hb hr hlk G dX10_tellsCount_148
/-! X10_count -/
def f_X10_count (σ : St) (v1 : Int32) : Option (Int32 × St) :=
  ub (f_X10_in σ v1 (0 : Int32) (5 : Int32)) fun r1 σ2 =>
  if r1 = 0 then
    some (((-1) : Int32), σ2)
  else
    ub (f_X10_tellsCount σ2 v1) fun r3 σ4 =>
    some (r3, σ4)
set_option maxHeartbeats 4000000 in
set_option maxRecDepth 100000 in
theorem c_X10_count (l : Launch) (D : va_G) (ad : Nat → Nat) (cs : Nat → ClassId) (J : uJ 34 ad) (σ : St) (v1 : Int32) (r : Int32) (σ' : St) (h : f_X10_count σ v1 = some (r, σ')) : uMi l yX10_count wsX10_count { frames := 1, cells := 0, slots := 0, locals := 23 } D vwCl (tyM cs) 34 ad (enM ad cs) [.ref (ad 0), .int v1] σ r σ' := by
  refine u_met (Qf := uQi D vwCl 34 ad (enM ad cs) r σ') (cc := cX10_count) (maxL := 2) (ret := (some .int)) (lv := [(0, .ref (ad 0)), (1, .int v1)]) J (by decide) rfl (Nat.le_of_ble_eq_true rfl) rfl rfl rfl ?_
  intro p e s m args below meth c ls hx hb C hr hlk G hl
  unfold f_X10_count at h
  obtain ⟨H, eH⟩ : ∃ H, H = s.heap := ⟨_, rfl⟩
  obtain ⟨locs, eL⟩ : ∃ locs : List Loc, locs = [] := ⟨_, rfl⟩
  refine u_start eH eL G ?_
  clear G eH eL
  intro G
  refine lv_iload_n hx hb dX10_count_0 rfl (lv_at hl 1 rfl) ?_
  refine lv_iconst (v := 0) hx hb dX10_count_1 (by decide) ?_
  refine lv_iconst (v := 5) hx hb dX10_count_2 (by decide) ?_
  obtain ⟨r1, σ2, er1, h⟩ := ub_of h
  refine u_callSi (As := [.int v1, .int 0, .int 5]) (rest := []) C G (c_X10_in l D ad cs C.2.2.1 σ v1 (0 : Int32) (5 : Int32) r1 σ2 er1) (va_cwS 3 C.1.2.2.2.2 gX10_count_X10_in rfl rfl rfl (by decide +kernel) ⟨Nat.le_of_ble_eq_true rfl, Nat.le_of_ble_eq_true rfl⟩) rfl hl rfl (Nat.le_of_ble_eq_true rfl) dX10_count_3 (fun H locs G => ?_)
  refine lv_if_eq (tgt := 17) hx hb dX10_count_6 (by decide) (fun q => ?_) (fun q => ?_)
  · have h := u_pos q h
    refine lv_iconst (v := (-1)) hx hb dX10_count_17 (by decide) ?_
    obtain ⟨rfl, rfl⟩ := u_end h
    exact u_iret hx hb hr hlk G dX10_count_18
  · have h := u_neg q h
    refine lv_aload_n hx hb dX10_count_9 rfl (lv_at hl 0 rfl) ?_
    refine lv_iload_n hx hb dX10_count_10 rfl (lv_at hl 1 rfl) ?_
    obtain ⟨r3, σ4, er3, h⟩ := ub_of h
    refine u_callVi (As := [.int v1]) (rest := []) C G (c_X10_tellsCount l D ad cs C.2.2.1 σ2 v1 r3 σ4 er3) (cwV 1 C.1.2.2.2.2 gX10_count_X10_tellsCount rfl rfl rfl (by decide +kernel) ⟨Nat.le_of_ble_eq_true rfl, Nat.le_of_ble_eq_true rfl⟩) obM_0 (ci := 10) (T := TX10) rfl rfl hl rfl (Nat.le_of_ble_eq_true rfl) dX10_count_11 (fun H locs G => ?_)
    refine lv_goto (tgt := 18) hx hb dX10_count_14 (by decide) ?_
    obtain ⟨rfl, rfl⟩ := u_end h
    exact u_iret hx hb hr hlk G dX10_count_18
/-! X10_finding -/
def f_X10_finding (σ : St) : Option (Int32 × St) :=
  some ((σ 0 0), σ)
theorem fi_X10_finding_10 : ∀ w ∈ u_ws RX10 TX10 44, w ∈ wsX10_finding := by decide +kernel
set_option maxHeartbeats 4000000 in
set_option maxRecDepth 100000 in
theorem c_X10_finding (l : Launch) (D : va_G) (ad : Nat → Nat) (cs : Nat → ClassId) (J : uJ 34 ad) (σ : St) (r : Int32) (σ' : St) (h : f_X10_finding σ = some (r, σ')) : uMi l yX10_finding wsX10_finding { frames := 0, cells := 0, slots := 0, locals := 0 } D vwCl (tyM cs) 34 ad (enM ad cs) [.ref (ad 0)] σ r σ' := by
  refine u_met (Qf := uQi D vwCl 34 ad (enM ad cs) r σ') (cc := cX10_finding) (maxL := 1) (ret := (some .int)) (lv := [(0, .ref (ad 0))]) J (by decide) rfl (Nat.le_of_ble_eq_true rfl) rfl rfl rfl ?_
  intro p e s m args below meth c ls hx hb C hr hlk G hl
  unfold f_X10_finding at h
  obtain ⟨H, eH⟩ : ∃ H, H = s.heap := ⟨_, rfl⟩
  obtain ⟨locs, eL⟩ : ∃ locs : List Loc, locs = [] := ⟨_, rfl⟩
  refine u_start eH eL G ?_
  clear G eH eL
  intro G
  refine lv_aload_n hx hb dX10_finding_0 rfl (lv_at hl 0 rfl) ?_
  refine u_get (v := .int (σ 0 0)) C G obM_0 (ci := 10) (N := 44) (Cn := RX10) (T := TX10) rfl fi_X10_finding_10 0 (by decide) (by decide +kernel) rfl dX10_finding_1 ?_
  obtain ⟨rfl, rfl⟩ := u_end h
  exact u_iret hx hb hr hlk G dX10_finding_4
/-! X10_findings -/
def f_X10_findings (σ : St) (v1 : Int32) : Option (Int32 × St) :=
  ub (f_X10_in σ v1 (1 : Int32) (5 : Int32)) fun r1 σ2 =>
  if r1 = 0 then
    some (((-1) : Int32), σ2)
  else
    ui v1 6 <|
    some ((σ2 1 v1.toNatClampNeg), σ2)
theorem fi_X10_findings_10 : ∀ w ∈ u_ws RX10 TX10 44, w ∈ wsX10_findings := by decide +kernel
set_option maxHeartbeats 4000000 in
set_option maxRecDepth 100000 in
theorem c_X10_findings (l : Launch) (D : va_G) (ad : Nat → Nat) (cs : Nat → ClassId) (J : uJ 34 ad) (σ : St) (v1 : Int32) (r : Int32) (σ' : St) (h : f_X10_findings σ v1 = some (r, σ')) : uMi l yX10_findings wsX10_findings { frames := 1, cells := 0, slots := 0, locals := 22 } D vwCl (tyM cs) 34 ad (enM ad cs) [.ref (ad 0), .int v1] σ r σ' := by
  refine u_met (Qf := uQi D vwCl 34 ad (enM ad cs) r σ') (cc := cX10_findings) (maxL := 2) (ret := (some .int)) (lv := [(0, .ref (ad 0)), (1, .int v1)]) J (by decide) rfl (Nat.le_of_ble_eq_true rfl) rfl rfl rfl ?_
  intro p e s m args below meth c ls hx hb C hr hlk G hl
  unfold f_X10_findings at h
  obtain ⟨H, eH⟩ : ∃ H, H = s.heap := ⟨_, rfl⟩
  obtain ⟨locs, eL⟩ : ∃ locs : List Loc, locs = [] := ⟨_, rfl⟩
  refine u_start eH eL G ?_
  clear G eH eL
  intro G
  refine lv_iload_n hx hb dX10_findings_0 rfl (lv_at hl 1 rfl) ?_
  refine lv_iconst (v := 1) hx hb dX10_findings_1 (by decide) ?_
  refine lv_iconst (v := 5) hx hb dX10_findings_2 (by decide) ?_
  obtain ⟨r1, σ2, er1, h⟩ := ub_of h
  refine u_callSi (As := [.int v1, .int 1, .int 5]) (rest := []) C G (c_X10_in l D ad cs C.2.2.1 σ v1 (1 : Int32) (5 : Int32) r1 σ2 er1) (va_cwS 3 C.1.2.2.2.2 gX10_findings_X10_in rfl rfl rfl (by decide +kernel) ⟨Nat.le_of_ble_eq_true rfl, Nat.le_of_ble_eq_true rfl⟩) rfl hl rfl (Nat.le_of_ble_eq_true rfl) dX10_findings_3 (fun H locs G => ?_)
  refine lv_if_eq (tgt := 18) hx hb dX10_findings_6 (by decide) (fun q => ?_) (fun q => ?_)
  · have h := u_pos q h
    refine lv_iconst (v := (-1)) hx hb dX10_findings_18 (by decide) ?_
    obtain ⟨rfl, rfl⟩ := u_end h
    exact u_iret hx hb hr hlk G dX10_findings_19
  · have h := u_neg q h
    refine lv_aload_n hx hb dX10_findings_9 rfl (lv_at hl 0 rfl) ?_
    refine u_get (v := .ref (ad 1)) C G obM_0 (ci := 10) (N := 44) (Cn := RX10) (T := TX10) rfl fi_X10_findings_10 1 (by decide) (by decide +kernel) rfl dX10_findings_10 ?_
    refine lv_iload_n hx hb dX10_findings_13 rfl (lv_at hl 1 rfl) ?_
    obtain ⟨g3, h⟩ := ui_of h
    refine u_iald C G arM_1 (t0 := 0) rfl g3 dX10_findings_14 ?_
    refine lv_goto (tgt := 19) hx hb dX10_findings_15 (by decide) ?_
    obtain ⟨rfl, rfl⟩ := u_end h
    exact u_iret hx hb hr hlk G dX10_findings_19
/-! X10_digest -/
def f_X10_digest_250 (k215 : St → Int64 → Int32 → Option (Int64 × St)) : Nat → St → Int64 → Int32 → Int32 → Option (Int64 × St)
  | 0, _, _, _, _ => none
  | fuel + 1, σ, v1, v3, v4 =>
    ui v3 4 <|
    if (σ 3 v3.toNatClampNeg) ≤ v4 then
      ul (v3 + 1) fun x31 =>
      k215 σ v1 x31
    else
      ui ((10 * v3) + v4) 40 <|
      ul ((31 * v1) + (σ 4 ((10 * v3) + v4).toNatClampNeg).toInt64) fun x33 =>
      ul (v4 + 1) fun x34 =>
      f_X10_digest_250 k215 fuel σ x33 v3 x34
def f_X10_digest_215 : Nat → St → Int64 → Int32 → Option (Int64 × St)
  | 0, _, _, _ => none
  | fuel + 1, σ, v1, v3 =>
    if 4 ≤ v3 then
      some (v1, σ)
    else
      ui v3 4 <|
      if 0 ≤ (σ 3 v3.toNatClampNeg) then
        ui v3 4 <|
        ul ((31 * v1) + (σ 3 v3.toNatClampNeg).toInt64) fun x20 =>
        f_X10_digest_250 (f_X10_digest_215 fuel) fu σ x20 v3 0
      else
        ul ((31 * v1) + ((-1) : Int32).toInt64) fun x21 =>
        f_X10_digest_250 (f_X10_digest_215 fuel) fu σ x21 v3 0
def f_X10_digest_141 (k133 : St → Int64 → Int32 → Option (Int64 × St)) : Nat → St → Int64 → Int32 → Int32 → Option (Int64 × St)
  | 0, _, _, _, _ => none
  | fuel + 1, σ, v1, v3, v4 =>
    ui v3 4 <|
    if (σ 16 v3.toNatClampNeg) ≤ v4 then
      ul (v3 + 1) fun x23 =>
      k133 σ v1 x23
    else
      ul ((3 * v3) + v4) fun x24 =>
      ui x24 12 <|
      ui x24 12 <|
      ui x24 12 <|
      ul ((31 * ((31 * ((31 * v1) + (σ 17 x24.toNatClampNeg).toInt64)) + (σ 18 x24.toNatClampNeg).toInt64)) + (σ 19 x24.toNatClampNeg).toInt64) fun x28 =>
      ul (v4 + 1) fun x29 =>
      f_X10_digest_141 k133 fuel σ x28 v3 x29
def f_X10_digest_133 : Nat → St → Int64 → Int32 → Option (Int64 × St)
  | 0, _, _, _ => none
  | fuel + 1, σ, v1, v3 =>
    if 4 ≤ v3 then
      f_X10_digest_215 fu σ v1 0
    else
      f_X10_digest_141 (f_X10_digest_133 fuel) fu σ v1 v3 0
def f_X10_digest_104 : Nat → St → Int64 → Int32 → Option (Int64 × St)
  | 0, _, _, _ => none
  | fuel + 1, σ, v1, v3 =>
    if 600 ≤ v3 then
      f_X10_digest_133 fu σ v1 0
    else
      ui v3 600 <|
      ul ((31 * v1) + (σ 14 v3.toNatClampNeg).toInt64) fun x9 =>
      ul (v3 + 1) fun x10 =>
      f_X10_digest_104 fuel σ x9 x10
def f_X10_digest_60 (k32 : St → Int64 → Int32 → Option (Int64 × St)) : Nat → St → Int64 → Int32 → Int32 → Option (Int64 × St)
  | 0, _, _, _, _ => none
  | fuel + 1, σ, v1, v3, v4 =>
    if 5 < v4 then
      ul (v3 + 1) fun x11 =>
      k32 σ v1 x11
    else
      ui v3 16 <|
      if (σ 9 v3.toNatClampNeg) = 0 then
        ub (f_X10_tells σ v3 v4) fun r14 σ15 =>
        ul ((31 * v1) + r14.toInt64) fun x16 =>
        ul (v4 + 1) fun x17 =>
        f_X10_digest_60 k32 fuel σ15 x16 v3 x17
      else
        ul (v3 + 1) fun x13 =>
        k32 σ v1 x13
def f_X10_digest_32 : Nat → St → Int64 → Int32 → Option (Int64 × St)
  | 0, _, _, _ => none
  | fuel + 1, σ, v1, v3 =>
    if (σ 0 7) ≤ v3 then
      f_X10_digest_104 fu σ v1 0
    else
      ui v3 16 <|
      if (σ 9 v3.toNatClampNeg) = 0 then
        f_X10_digest_60 (f_X10_digest_32 fuel) fu σ v1 v3 0
      else
        ul ((31 * v1) - 1) fun x7 =>
        f_X10_digest_60 (f_X10_digest_32 fuel) fu σ x7 v3 0
def f_X10_digest_6 : Nat → St → Int64 → Int32 → Option (Int64 × St)
  | 0, _, _, _ => none
  | fuel + 1, σ, v1, v3 =>
    if 5 < v3 then
      f_X10_digest_32 fu σ v1 0
    else
      ub (f_X10_tellsCount σ v3) fun r2 σ3 =>
      ul ((31 * v1) + r2.toInt64) fun x4 =>
      ul (v3 + 1) fun x5 =>
      f_X10_digest_6 fuel σ3 x4 x5
def f_X10_digest (σ : St) : Option (Int64 × St) :=
  ul 17 fun x1 =>
  f_X10_digest_6 fu σ x1 0
theorem fi_X10_digest_10 : ∀ w ∈ u_ws RX10 TX10 44, w ∈ wsX10_digest := by decide +kernel
set_option maxHeartbeats 4000000 in
set_option maxRecDepth 100000 in
theorem w_X10_digest_250 {p : Program} {l : Launch} {e : Env} {s : State} {m : MethodId} {args : Array Value} {below : List Frame} {meth : Method} {c : Code} {D : va_G} {ad : Nat → Nat} {cs : Nat → ClassId} (C : uC p { frames := 2, cells := 0, slots := 0, locals := 46 } s m args c cX10_digest 6 wsX10_digest RX10 D vwCl (tyM cs) 34 ad (uAd 34 ad s.heap.size) 0 0) (hr : meth.sig.returnType = (some .long)) (hlk : meth.locks = false) {r : Int64} {σ' : St} {k215 : St → Int64 → Int32 → Option (Int64 × St)} (hk215 : ∀ (σ : St) (v1 : Int64) (v3 : Int32), k215 σ v1 v3 = some (r, σ') → ∀ (H : Heap) (locs : List Loc) (ls : Array Slot), uG D vwCl 34 ad (enM ad cs) (uAd 34 ad s.heap.size) s σ H locs → lv_has ls 6 [(0, .ref (ad 0)), (1, .long v1), (3, .int v3)] → W p l e { frames := 2, cells := 0, slots := 0, locals := 46 } s m args below meth c H locs 0 0 (MQ below (uQl D vwCl 34 ad (enM ad cs) r σ' s.heap.size) args s 0 0 (uAd 34 ad s.heap.size)) (F0 m 215 ls [])) :
    ∀ (n : Nat) (σ : St) (v1 : Int64) (v3 : Int32) (v4 : Int32), f_X10_digest_250 k215 n σ v1 v3 v4 = some (r, σ') → ∀ (H : Heap) (locs : List Loc) (ls : Array Slot), uG D vwCl 34 ad (enM ad cs) (uAd 34 ad s.heap.size) s σ H locs → lv_has ls 6 [(0, .ref (ad 0)), (1, .long v1), (3, .int v3), (4, .int v4)] → W p l e { frames := 2, cells := 0, slots := 0, locals := 46 } s m args below meth c H locs 0 0 (MQ below (uQl D vwCl 34 ad (enM ad cs) r σ' s.heap.size) args s 0 0 (uAd 34 ad s.heap.size)) (F0 m 250 ls []) := by
  have hx := C.1.1
  have hb := C.1.2.1
  intro n
  induction n with
  | zero => intro σ v1 v3 v4  h; exact absurd h (by simp [f_X10_digest_250])
  | succ fuel ih =>
    intro σ v1 v3 v4  h H locs ls G hl
    rw [f_X10_digest_250] at h
    refine lv_iload hx hb dX10_digest_250 (lv_at hl 3 rfl) ?_
    refine lv_aload_n hx hb dX10_digest_252 rfl (lv_at hl 0 rfl) ?_
    refine u_get (v := .ref (ad 3)) C G obM_0 (ci := 10) (N := 44) (Cn := RX10) (T := TX10) rfl fi_X10_digest_10 4 (by decide) (by decide +kernel) rfl dX10_digest_253 ?_
    refine lv_iload_n hx hb dX10_digest_256 rfl (lv_at hl 2 rfl) ?_
    obtain ⟨g30, h⟩ := ui_of h
    refine u_iald C G arM_3 (t0 := 0) rfl g30 dX10_digest_257 ?_
    refine lv_icmp_ge (tgt := 287) hx hb dX10_digest_258 (by decide) (fun q => ?_) (fun q => ?_)
    · have h := u_pos q h
      obtain ⟨x31, ex31, h⟩ := ul_of h
      refine lv_iinc (v := x31) (lv' := [(3, .int x31), (0, .ref (ad 0)), (1, .long v1), (4, .int v4)]) hx hb dX10_digest_287 hl (k := 2) rfl (by rw [ex31]; rfl) (by decide) rfl (fun ls hl => ?_)
      refine lv_goto (tgt := 215) hx hb dX10_digest_290 (by decide) ?_
      exact hk215 σ v1 x31 h H locs ls G (lv_sub hl [1, 2, 0] rfl)
    · have h := u_neg q h
      refine lv_ldc2 (v := 31) hx hb C.1.2.2.2.1 (C.1.2.2.2.2 (.constantLong RX10 255 31) (by decide +kernel)) dX10_digest_261 ?_
      refine lv_lload_n hx hb dX10_digest_264 rfl (lv_at hl 1 rfl) ?_
      refine lv_lmul hx hb dX10_digest_265 ?_
      refine lv_aload_n hx hb dX10_digest_266 rfl (lv_at hl 0 rfl) ?_
      refine u_get (v := .ref (ad 4)) C G obM_0 (ci := 10) (N := 44) (Cn := RX10) (T := TX10) rfl fi_X10_digest_10 5 (by decide) (by decide +kernel) rfl dX10_digest_267 ?_
      refine lv_bipush (v := 10) hx hb dX10_digest_270 (by decide) ?_
      refine lv_iload_n hx hb dX10_digest_272 rfl (lv_at hl 2 rfl) ?_
      refine lv_imul hx hb dX10_digest_273 ?_
      refine lv_iload hx hb dX10_digest_274 (lv_at hl 3 rfl) ?_
      refine lv_iadd hx hb dX10_digest_276 ?_
      obtain ⟨g32, h⟩ := ui_of h
      refine u_iald C G arM_4 (t0 := 0) rfl g32 dX10_digest_277 ?_
      refine lv_i2l hx hb dX10_digest_278 rfl ?_
      refine lv_ladd hx hb dX10_digest_279 ?_
      obtain ⟨x33, ex33, h⟩ := ul_of h
      refine u_nml ex33 ?_
      refine lv_lstore_n (lv' := [(1, .long x33), (0, .ref (ad 0)), (3, .int v3), (4, .int v4)]) hx hb dX10_digest_280 rfl hl (by decide) rfl (fun ls hl => ?_)
      obtain ⟨x34, ex34, h⟩ := ul_of h
      refine lv_iinc (v := x34) (lv' := [(4, .int x34), (1, .long x33), (0, .ref (ad 0)), (3, .int v3)]) hx hb dX10_digest_281 hl (k := 3) rfl (by rw [ex34]; rfl) (by decide) rfl (fun ls hl => ?_)
      refine lv_goto (tgt := 250) hx hb dX10_digest_284 (by decide) ?_
      exact ih σ x33 v3 x34 h H locs ls G (lv_sub hl [2, 1, 3, 0] rfl)
set_option maxHeartbeats 4000000 in
set_option maxRecDepth 100000 in
theorem w_X10_digest_215 {p : Program} {l : Launch} {e : Env} {s : State} {m : MethodId} {args : Array Value} {below : List Frame} {meth : Method} {c : Code} {D : va_G} {ad : Nat → Nat} {cs : Nat → ClassId} (C : uC p { frames := 2, cells := 0, slots := 0, locals := 46 } s m args c cX10_digest 6 wsX10_digest RX10 D vwCl (tyM cs) 34 ad (uAd 34 ad s.heap.size) 0 0) (hr : meth.sig.returnType = (some .long)) (hlk : meth.locks = false) {r : Int64} {σ' : St} :
    ∀ (n : Nat) (σ : St) (v1 : Int64) (v3 : Int32), f_X10_digest_215 n σ v1 v3 = some (r, σ') → ∀ (H : Heap) (locs : List Loc) (ls : Array Slot), uG D vwCl 34 ad (enM ad cs) (uAd 34 ad s.heap.size) s σ H locs → lv_has ls 6 [(0, .ref (ad 0)), (1, .long v1), (3, .int v3)] → W p l e { frames := 2, cells := 0, slots := 0, locals := 46 } s m args below meth c H locs 0 0 (MQ below (uQl D vwCl 34 ad (enM ad cs) r σ' s.heap.size) args s 0 0 (uAd 34 ad s.heap.size)) (F0 m 215 ls []) := by
  have hx := C.1.1
  have hb := C.1.2.1
  intro n
  induction n with
  | zero => intro σ v1 v3  h; exact absurd h (by simp [f_X10_digest_215])
  | succ fuel ih =>
    intro σ v1 v3  h H locs ls G hl
    rw [f_X10_digest_215] at h
    refine lv_iload_n hx hb dX10_digest_215 rfl (lv_at hl 2 rfl) ?_
    refine lv_iconst (v := 4) hx hb dX10_digest_216 (by decide) ?_
    refine lv_icmp_ge (tgt := 293) hx hb dX10_digest_217 (by decide) (fun q => ?_) (fun q => ?_)
    · have h := u_pos q h
      refine lv_lload_n hx hb dX10_digest_293 rfl (lv_at hl 1 rfl) ?_
      obtain ⟨rfl, rfl⟩ := u_end h
      exact u_lret hx hb hr hlk G dX10_digest_294
    · have h := u_neg q h
      refine lv_ldc2 (v := 31) hx hb C.1.2.2.2.1 (C.1.2.2.2.2 (.constantLong RX10 255 31) (by decide +kernel)) dX10_digest_220 ?_
      refine lv_lload_n hx hb dX10_digest_223 rfl (lv_at hl 1 rfl) ?_
      refine lv_lmul hx hb dX10_digest_224 ?_
      refine lv_aload_n hx hb dX10_digest_225 rfl (lv_at hl 0 rfl) ?_
      refine u_get (v := .ref (ad 3)) C G obM_0 (ci := 10) (N := 44) (Cn := RX10) (T := TX10) rfl fi_X10_digest_10 4 (by decide) (by decide +kernel) rfl dX10_digest_226 ?_
      refine lv_iload_n hx hb dX10_digest_229 rfl (lv_at hl 2 rfl) ?_
      obtain ⟨g18, h⟩ := ui_of h
      refine u_iald C G arM_3 (t0 := 0) rfl g18 dX10_digest_230 ?_
      refine lv_if_ge (tgt := 238) hx hb dX10_digest_231 (by decide) (fun q => ?_) (fun q => ?_)
      · have h := u_pos q h
        refine lv_aload_n hx hb dX10_digest_238 rfl (lv_at hl 0 rfl) ?_
        refine u_get (v := .ref (ad 3)) C G obM_0 (ci := 10) (N := 44) (Cn := RX10) (T := TX10) rfl fi_X10_digest_10 4 (by decide) (by decide +kernel) rfl dX10_digest_239 ?_
        refine lv_iload_n hx hb dX10_digest_242 rfl (lv_at hl 2 rfl) ?_
        obtain ⟨g19, h⟩ := ui_of h
        refine u_iald C G arM_3 (t0 := 0) rfl g19 dX10_digest_243 ?_
        refine lv_i2l hx hb dX10_digest_244 rfl ?_
        refine lv_ladd hx hb dX10_digest_245 ?_
        obtain ⟨x20, ex20, h⟩ := ul_of h
        refine u_nml ex20 ?_
        refine lv_lstore_n (lv' := [(1, .long x20), (0, .ref (ad 0)), (3, .int v3)]) hx hb dX10_digest_246 rfl hl (by decide) rfl (fun ls hl => ?_)
        refine lv_iconst (v := 0) hx hb dX10_digest_247 (by decide) ?_
        refine lv_istore (lv' := [(4, .int 0), (1, .long x20), (0, .ref (ad 0)), (3, .int v3)]) hx hb dX10_digest_248 hl (by decide) rfl (fun ls hl => ?_)
        exact w_X10_digest_250 C hr hlk ih fu σ x20 v3 0 h H locs ls G (lv_sub hl [2, 1, 3, 0] rfl)
      · have h := u_neg q h
        refine lv_iconst (v := (-1)) hx hb dX10_digest_234 (by decide) ?_
        refine lv_goto (tgt := 244) hx hb dX10_digest_235 (by decide) ?_
        refine lv_i2l hx hb dX10_digest_244 rfl ?_
        refine lv_ladd hx hb dX10_digest_245 ?_
        obtain ⟨x21, ex21, h⟩ := ul_of h
        refine u_nml ex21 ?_
        refine lv_lstore_n (lv' := [(1, .long x21), (0, .ref (ad 0)), (3, .int v3)]) hx hb dX10_digest_246 rfl hl (by decide) rfl (fun ls hl => ?_)
        refine lv_iconst (v := 0) hx hb dX10_digest_247 (by decide) ?_
        refine lv_istore (lv' := [(4, .int 0), (1, .long x21), (0, .ref (ad 0)), (3, .int v3)]) hx hb dX10_digest_248 hl (by decide) rfl (fun ls hl => ?_)
        exact w_X10_digest_250 C hr hlk ih fu σ x21 v3 0 h H locs ls G (lv_sub hl [2, 1, 3, 0] rfl)
set_option maxHeartbeats 4000000 in
set_option maxRecDepth 100000 in
theorem w_X10_digest_141 {p : Program} {l : Launch} {e : Env} {s : State} {m : MethodId} {args : Array Value} {below : List Frame} {meth : Method} {c : Code} {D : va_G} {ad : Nat → Nat} {cs : Nat → ClassId} (C : uC p { frames := 2, cells := 0, slots := 0, locals := 46 } s m args c cX10_digest 6 wsX10_digest RX10 D vwCl (tyM cs) 34 ad (uAd 34 ad s.heap.size) 0 0) (hr : meth.sig.returnType = (some .long)) (hlk : meth.locks = false) {r : Int64} {σ' : St} {k133 : St → Int64 → Int32 → Option (Int64 × St)} (hk133 : ∀ (σ : St) (v1 : Int64) (v3 : Int32), k133 σ v1 v3 = some (r, σ') → ∀ (H : Heap) (locs : List Loc) (ls : Array Slot), uG D vwCl 34 ad (enM ad cs) (uAd 34 ad s.heap.size) s σ H locs → lv_has ls 6 [(0, .ref (ad 0)), (1, .long v1), (3, .int v3)] → W p l e { frames := 2, cells := 0, slots := 0, locals := 46 } s m args below meth c H locs 0 0 (MQ below (uQl D vwCl 34 ad (enM ad cs) r σ' s.heap.size) args s 0 0 (uAd 34 ad s.heap.size)) (F0 m 133 ls [])) :
    ∀ (n : Nat) (σ : St) (v1 : Int64) (v3 : Int32) (v4 : Int32), f_X10_digest_141 k133 n σ v1 v3 v4 = some (r, σ') → ∀ (H : Heap) (locs : List Loc) (ls : Array Slot), uG D vwCl 34 ad (enM ad cs) (uAd 34 ad s.heap.size) s σ H locs → lv_has ls 6 [(0, .ref (ad 0)), (1, .long v1), (3, .int v3), (4, .int v4)] → W p l e { frames := 2, cells := 0, slots := 0, locals := 46 } s m args below meth c H locs 0 0 (MQ below (uQl D vwCl 34 ad (enM ad cs) r σ' s.heap.size) args s 0 0 (uAd 34 ad s.heap.size)) (F0 m 141 ls []) := by
  have hx := C.1.1
  have hb := C.1.2.1
  intro n
  induction n with
  | zero => intro σ v1 v3 v4  h; exact absurd h (by simp [f_X10_digest_141])
  | succ fuel ih =>
    intro σ v1 v3 v4  h H locs ls G hl
    rw [f_X10_digest_141] at h
    refine lv_iload hx hb dX10_digest_141 (lv_at hl 3 rfl) ?_
    refine lv_aload_n hx hb dX10_digest_143 rfl (lv_at hl 0 rfl) ?_
    refine u_get (v := .ref (ad 16)) C G obM_0 (ci := 10) (N := 44) (Cn := RX10) (T := TX10) rfl fi_X10_digest_10 19 (by decide) (by decide +kernel) rfl dX10_digest_144 ?_
    refine lv_iload_n hx hb dX10_digest_147 rfl (lv_at hl 2 rfl) ?_
    obtain ⟨g22, h⟩ := ui_of h
    refine u_iald C G arM_16 (t0 := 0) rfl g22 dX10_digest_148 ?_
    refine lv_icmp_ge (tgt := 207) hx hb dX10_digest_149 (by decide) (fun q => ?_) (fun q => ?_)
    · have h := u_pos q h
      obtain ⟨x23, ex23, h⟩ := ul_of h
      refine lv_iinc (v := x23) (lv' := [(3, .int x23), (0, .ref (ad 0)), (1, .long v1), (4, .int v4)]) hx hb dX10_digest_207 hl (k := 2) rfl (by rw [ex23]; rfl) (by decide) rfl (fun ls hl => ?_)
      refine lv_goto (tgt := 133) hx hb dX10_digest_210 (by decide) ?_
      exact hk133 σ v1 x23 h H locs ls G (lv_sub hl [1, 2, 0] rfl)
    · have h := u_neg q h
      refine lv_iconst (v := 3) hx hb dX10_digest_152 (by decide) ?_
      refine lv_iload_n hx hb dX10_digest_153 rfl (lv_at hl 2 rfl) ?_
      refine lv_imul hx hb dX10_digest_154 ?_
      refine lv_iload hx hb dX10_digest_155 (lv_at hl 3 rfl) ?_
      refine lv_iadd hx hb dX10_digest_157 ?_
      obtain ⟨x24, ex24, h⟩ := ul_of h
      refine u_nmi ex24 ?_
      refine lv_istore (lv' := [(5, .int x24), (0, .ref (ad 0)), (1, .long v1), (3, .int v3), (4, .int v4)]) hx hb dX10_digest_158 hl (by decide) rfl (fun ls hl => ?_)
      refine lv_ldc2 (v := 31) hx hb C.1.2.2.2.1 (C.1.2.2.2.2 (.constantLong RX10 255 31) (by decide +kernel)) dX10_digest_160 ?_
      refine lv_ldc2 (v := 31) hx hb C.1.2.2.2.1 (C.1.2.2.2.2 (.constantLong RX10 255 31) (by decide +kernel)) dX10_digest_163 ?_
      refine lv_ldc2 (v := 31) hx hb C.1.2.2.2.1 (C.1.2.2.2.2 (.constantLong RX10 255 31) (by decide +kernel)) dX10_digest_166 ?_
      refine lv_lload_n hx hb dX10_digest_169 rfl (lv_at hl 2 rfl) ?_
      refine lv_lmul hx hb dX10_digest_170 ?_
      refine lv_aload_n hx hb dX10_digest_171 rfl (lv_at hl 1 rfl) ?_
      refine u_get (v := .ref (ad 17)) C G obM_0 (ci := 10) (N := 44) (Cn := RX10) (T := TX10) rfl fi_X10_digest_10 20 (by decide) (by decide +kernel) rfl dX10_digest_172 ?_
      refine lv_iload hx hb dX10_digest_175 (lv_at hl 0 rfl) ?_
      obtain ⟨g25, h⟩ := ui_of h
      refine u_iald C G arM_17 (t0 := 0) rfl g25 dX10_digest_177 ?_
      refine lv_i2l hx hb dX10_digest_178 rfl ?_
      refine lv_ladd hx hb dX10_digest_179 ?_
      refine lv_lmul hx hb dX10_digest_180 ?_
      refine lv_aload_n hx hb dX10_digest_181 rfl (lv_at hl 1 rfl) ?_
      refine u_get (v := .ref (ad 18)) C G obM_0 (ci := 10) (N := 44) (Cn := RX10) (T := TX10) rfl fi_X10_digest_10 21 (by decide) (by decide +kernel) rfl dX10_digest_182 ?_
      refine lv_iload hx hb dX10_digest_185 (lv_at hl 0 rfl) ?_
      obtain ⟨g26, h⟩ := ui_of h
      refine u_iald C G arM_18 (t0 := 0) rfl g26 dX10_digest_187 ?_
      refine lv_i2l hx hb dX10_digest_188 rfl ?_
      refine lv_ladd hx hb dX10_digest_189 ?_
      refine lv_lmul hx hb dX10_digest_190 ?_
      refine lv_aload_n hx hb dX10_digest_191 rfl (lv_at hl 1 rfl) ?_
      refine u_get (v := .ref (ad 19)) C G obM_0 (ci := 10) (N := 44) (Cn := RX10) (T := TX10) rfl fi_X10_digest_10 22 (by decide) (by decide +kernel) rfl dX10_digest_192 ?_
      refine lv_iload hx hb dX10_digest_195 (lv_at hl 0 rfl) ?_
      obtain ⟨g27, h⟩ := ui_of h
      refine u_iald C G arM_19 (t0 := 0) rfl g27 dX10_digest_197 ?_
      refine lv_i2l hx hb dX10_digest_198 rfl ?_
      refine lv_ladd hx hb dX10_digest_199 ?_
      obtain ⟨x28, ex28, h⟩ := ul_of h
      refine u_nml ex28 ?_
      refine lv_lstore_n (lv' := [(1, .long x28), (5, .int x24), (0, .ref (ad 0)), (3, .int v3), (4, .int v4)]) hx hb dX10_digest_200 rfl hl (by decide) rfl (fun ls hl => ?_)
      obtain ⟨x29, ex29, h⟩ := ul_of h
      refine lv_iinc (v := x29) (lv' := [(4, .int x29), (1, .long x28), (5, .int x24), (0, .ref (ad 0)), (3, .int v3)]) hx hb dX10_digest_201 hl (k := 4) rfl (by rw [ex29]; rfl) (by decide) rfl (fun ls hl => ?_)
      refine lv_goto (tgt := 141) hx hb dX10_digest_204 (by decide) ?_
      exact ih σ x28 v3 x29 h H locs ls G (lv_sub hl [3, 1, 4, 0] rfl)
set_option maxHeartbeats 4000000 in
set_option maxRecDepth 100000 in
theorem w_X10_digest_133 {p : Program} {l : Launch} {e : Env} {s : State} {m : MethodId} {args : Array Value} {below : List Frame} {meth : Method} {c : Code} {D : va_G} {ad : Nat → Nat} {cs : Nat → ClassId} (C : uC p { frames := 2, cells := 0, slots := 0, locals := 46 } s m args c cX10_digest 6 wsX10_digest RX10 D vwCl (tyM cs) 34 ad (uAd 34 ad s.heap.size) 0 0) (hr : meth.sig.returnType = (some .long)) (hlk : meth.locks = false) {r : Int64} {σ' : St} :
    ∀ (n : Nat) (σ : St) (v1 : Int64) (v3 : Int32), f_X10_digest_133 n σ v1 v3 = some (r, σ') → ∀ (H : Heap) (locs : List Loc) (ls : Array Slot), uG D vwCl 34 ad (enM ad cs) (uAd 34 ad s.heap.size) s σ H locs → lv_has ls 6 [(0, .ref (ad 0)), (1, .long v1), (3, .int v3)] → W p l e { frames := 2, cells := 0, slots := 0, locals := 46 } s m args below meth c H locs 0 0 (MQ below (uQl D vwCl 34 ad (enM ad cs) r σ' s.heap.size) args s 0 0 (uAd 34 ad s.heap.size)) (F0 m 133 ls []) := by
  have hx := C.1.1
  have hb := C.1.2.1
  intro n
  induction n with
  | zero => intro σ v1 v3  h; exact absurd h (by simp [f_X10_digest_133])
  | succ fuel ih =>
    intro σ v1 v3  h H locs ls G hl
    rw [f_X10_digest_133] at h
    refine lv_iload_n hx hb dX10_digest_133 rfl (lv_at hl 2 rfl) ?_
    refine lv_iconst (v := 4) hx hb dX10_digest_134 (by decide) ?_
    refine lv_icmp_ge (tgt := 213) hx hb dX10_digest_135 (by decide) (fun q => ?_) (fun q => ?_)
    · have h := u_pos q h
      refine lv_iconst (v := 0) hx hb dX10_digest_213 (by decide) ?_
      refine lv_istore_n (lv' := [(3, .int 0), (0, .ref (ad 0)), (1, .long v1)]) hx hb dX10_digest_214 rfl hl (by decide) rfl (fun ls hl => ?_)
      exact w_X10_digest_215 C hr hlk fu σ v1 0 h H locs ls G (lv_sub hl [1, 2, 0] rfl)
    · have h := u_neg q h
      refine lv_iconst (v := 0) hx hb dX10_digest_138 (by decide) ?_
      refine lv_istore (lv' := [(4, .int 0), (0, .ref (ad 0)), (1, .long v1), (3, .int v3)]) hx hb dX10_digest_139 hl (by decide) rfl (fun ls hl => ?_)
      exact w_X10_digest_141 C hr hlk ih fu σ v1 v3 0 h H locs ls G (lv_sub hl [1, 2, 3, 0] rfl)
set_option maxHeartbeats 4000000 in
set_option maxRecDepth 100000 in
theorem w_X10_digest_104 {p : Program} {l : Launch} {e : Env} {s : State} {m : MethodId} {args : Array Value} {below : List Frame} {meth : Method} {c : Code} {D : va_G} {ad : Nat → Nat} {cs : Nat → ClassId} (C : uC p { frames := 2, cells := 0, slots := 0, locals := 46 } s m args c cX10_digest 6 wsX10_digest RX10 D vwCl (tyM cs) 34 ad (uAd 34 ad s.heap.size) 0 0) (hr : meth.sig.returnType = (some .long)) (hlk : meth.locks = false) {r : Int64} {σ' : St} :
    ∀ (n : Nat) (σ : St) (v1 : Int64) (v3 : Int32), f_X10_digest_104 n σ v1 v3 = some (r, σ') → ∀ (H : Heap) (locs : List Loc) (ls : Array Slot), uG D vwCl 34 ad (enM ad cs) (uAd 34 ad s.heap.size) s σ H locs → lv_has ls 6 [(0, .ref (ad 0)), (1, .long v1), (3, .int v3)] → W p l e { frames := 2, cells := 0, slots := 0, locals := 46 } s m args below meth c H locs 0 0 (MQ below (uQl D vwCl 34 ad (enM ad cs) r σ' s.heap.size) args s 0 0 (uAd 34 ad s.heap.size)) (F0 m 104 ls []) := by
  have hx := C.1.1
  have hb := C.1.2.1
  intro n
  induction n with
  | zero => intro σ v1 v3  h; exact absurd h (by simp [f_X10_digest_104])
  | succ fuel ih =>
    intro σ v1 v3  h H locs ls G hl
    rw [f_X10_digest_104] at h
    refine lv_iload_n hx hb dX10_digest_104 rfl (lv_at hl 2 rfl) ?_
    refine lv_sipush (v := 600) hx hb dX10_digest_105 (by decide) ?_
    refine lv_icmp_ge (tgt := 131) hx hb dX10_digest_108 (by decide) (fun q => ?_) (fun q => ?_)
    · have h := u_pos q h
      refine lv_iconst (v := 0) hx hb dX10_digest_131 (by decide) ?_
      refine lv_istore_n (lv' := [(3, .int 0), (0, .ref (ad 0)), (1, .long v1)]) hx hb dX10_digest_132 rfl hl (by decide) rfl (fun ls hl => ?_)
      exact w_X10_digest_133 C hr hlk fu σ v1 0 h H locs ls G (lv_sub hl [1, 2, 0] rfl)
    · have h := u_neg q h
      refine lv_ldc2 (v := 31) hx hb C.1.2.2.2.1 (C.1.2.2.2.2 (.constantLong RX10 255 31) (by decide +kernel)) dX10_digest_111 ?_
      refine lv_lload_n hx hb dX10_digest_114 rfl (lv_at hl 1 rfl) ?_
      refine lv_lmul hx hb dX10_digest_115 ?_
      refine lv_aload_n hx hb dX10_digest_116 rfl (lv_at hl 0 rfl) ?_
      refine u_get (v := .ref (ad 14)) C G obM_0 (ci := 10) (N := 44) (Cn := RX10) (T := TX10) rfl fi_X10_digest_10 16 (by decide) (by decide +kernel) rfl dX10_digest_117 ?_
      refine lv_iload_n hx hb dX10_digest_120 rfl (lv_at hl 2 rfl) ?_
      obtain ⟨g8, h⟩ := ui_of h
      refine u_iald C G arM_14 (t0 := 0) rfl g8 dX10_digest_121 ?_
      refine lv_i2l hx hb dX10_digest_122 rfl ?_
      refine lv_ladd hx hb dX10_digest_123 ?_
      obtain ⟨x9, ex9, h⟩ := ul_of h
      refine u_nml ex9 ?_
      refine lv_lstore_n (lv' := [(1, .long x9), (0, .ref (ad 0)), (3, .int v3)]) hx hb dX10_digest_124 rfl hl (by decide) rfl (fun ls hl => ?_)
      obtain ⟨x10, ex10, h⟩ := ul_of h
      refine lv_iinc (v := x10) (lv' := [(3, .int x10), (1, .long x9), (0, .ref (ad 0))]) hx hb dX10_digest_125 hl (k := 2) rfl (by rw [ex10]; rfl) (by decide) rfl (fun ls hl => ?_)
      refine lv_goto (tgt := 104) hx hb dX10_digest_128 (by decide) ?_
      exact ih σ x9 x10 h H locs ls G (lv_sub hl [2, 1, 0] rfl)
set_option maxHeartbeats 4000000 in
set_option maxRecDepth 100000 in
theorem w_X10_digest_60 {p : Program} {l : Launch} {e : Env} {s : State} {m : MethodId} {args : Array Value} {below : List Frame} {meth : Method} {c : Code} {D : va_G} {ad : Nat → Nat} {cs : Nat → ClassId} (C : uC p { frames := 2, cells := 0, slots := 0, locals := 46 } s m args c cX10_digest 6 wsX10_digest RX10 D vwCl (tyM cs) 34 ad (uAd 34 ad s.heap.size) 0 0) (hr : meth.sig.returnType = (some .long)) (hlk : meth.locks = false) {r : Int64} {σ' : St} {k32 : St → Int64 → Int32 → Option (Int64 × St)} (hk32 : ∀ (σ : St) (v1 : Int64) (v3 : Int32), k32 σ v1 v3 = some (r, σ') → ∀ (H : Heap) (locs : List Loc) (ls : Array Slot), uG D vwCl 34 ad (enM ad cs) (uAd 34 ad s.heap.size) s σ H locs → lv_has ls 6 [(0, .ref (ad 0)), (1, .long v1), (3, .int v3)] → W p l e { frames := 2, cells := 0, slots := 0, locals := 46 } s m args below meth c H locs 0 0 (MQ below (uQl D vwCl 34 ad (enM ad cs) r σ' s.heap.size) args s 0 0 (uAd 34 ad s.heap.size)) (F0 m 32 ls [])) :
    ∀ (n : Nat) (σ : St) (v1 : Int64) (v3 : Int32) (v4 : Int32), f_X10_digest_60 k32 n σ v1 v3 v4 = some (r, σ') → ∀ (H : Heap) (locs : List Loc) (ls : Array Slot), uG D vwCl 34 ad (enM ad cs) (uAd 34 ad s.heap.size) s σ H locs → lv_has ls 6 [(0, .ref (ad 0)), (1, .long v1), (3, .int v3), (4, .int v4)] → W p l e { frames := 2, cells := 0, slots := 0, locals := 46 } s m args below meth c H locs 0 0 (MQ below (uQl D vwCl 34 ad (enM ad cs) r σ' s.heap.size) args s 0 0 (uAd 34 ad s.heap.size)) (F0 m 60 ls []) := by
  have hx := C.1.1
  have hb := C.1.2.1
  intro n
  induction n with
  | zero => intro σ v1 v3 v4  h; exact absurd h (by simp [f_X10_digest_60])
  | succ fuel ih =>
    intro σ v1 v3 v4  h H locs ls G hl
    rw [f_X10_digest_60] at h
    refine lv_iload hx hb dX10_digest_60 (lv_at hl 3 rfl) ?_
    refine lv_iconst (v := 5) hx hb dX10_digest_62 (by decide) ?_
    refine lv_icmp_gt (tgt := 96) hx hb dX10_digest_63 (by decide) (fun q => ?_) (fun q => ?_)
    · have h := u_pos q h
      obtain ⟨x11, ex11, h⟩ := ul_of h
      refine lv_iinc (v := x11) (lv' := [(3, .int x11), (0, .ref (ad 0)), (1, .long v1), (4, .int v4)]) hx hb dX10_digest_96 hl (k := 2) rfl (by rw [ex11]; rfl) (by decide) rfl (fun ls hl => ?_)
      refine lv_goto (tgt := 32) hx hb dX10_digest_99 (by decide) ?_
      exact hk32 σ v1 x11 h H locs ls G (lv_sub hl [1, 2, 0] rfl)
    · have h := u_neg q h
      refine lv_aload_n hx hb dX10_digest_66 rfl (lv_at hl 0 rfl) ?_
      refine u_get (v := .ref (ad 9)) C G obM_0 (ci := 10) (N := 44) (Cn := RX10) (T := TX10) rfl fi_X10_digest_10 11 (by decide) (by decide +kernel) rfl dX10_digest_67 ?_
      refine lv_iload_n hx hb dX10_digest_70 rfl (lv_at hl 2 rfl) ?_
      obtain ⟨g12, h⟩ := ui_of h
      refine u_zald C G arM_9 (t0 := 2) rfl g12 dX10_digest_71 ?_
      refine lv_if_ne (tgt := 96) hx hb dX10_digest_72 (by decide) (fun q => ?_) (fun q => ?_)
      · have h := u_neg q h
        obtain ⟨x13, ex13, h⟩ := ul_of h
        refine lv_iinc (v := x13) (lv' := [(3, .int x13), (0, .ref (ad 0)), (1, .long v1), (4, .int v4)]) hx hb dX10_digest_96 hl (k := 2) rfl (by rw [ex13]; rfl) (by decide) rfl (fun ls hl => ?_)
        refine lv_goto (tgt := 32) hx hb dX10_digest_99 (by decide) ?_
        exact hk32 σ v1 x13 h H locs ls G (lv_sub hl [1, 2, 0] rfl)
      · have h := u_pos q h
        refine lv_ldc2 (v := 31) hx hb C.1.2.2.2.1 (C.1.2.2.2.2 (.constantLong RX10 255 31) (by decide +kernel)) dX10_digest_75 ?_
        refine lv_lload_n hx hb dX10_digest_78 rfl (lv_at hl 1 rfl) ?_
        refine lv_lmul hx hb dX10_digest_79 ?_
        refine lv_aload_n hx hb dX10_digest_80 rfl (lv_at hl 0 rfl) ?_
        refine lv_iload_n hx hb dX10_digest_81 rfl (lv_at hl 2 rfl) ?_
        refine lv_iload hx hb dX10_digest_82 (lv_at hl 3 rfl) ?_
        obtain ⟨r14, σ15, er14, h⟩ := ub_of h
        refine u_callVi (As := [.int v3, .int v4]) (rest := [.long (31 * v1)]) C G (c_X10_tells l D ad cs C.2.2.1 σ v3 v4 r14 σ15 er14) (cwV 2 C.1.2.2.2.2 gX10_digest_X10_tells rfl rfl rfl (by decide +kernel) ⟨Nat.le_of_ble_eq_true rfl, Nat.le_of_ble_eq_true rfl⟩) obM_0 (ci := 10) (T := TX10) rfl rfl hl rfl (Nat.le_of_ble_eq_true rfl) dX10_digest_84 (fun H locs G => ?_)
        refine lv_i2l hx hb dX10_digest_87 rfl ?_
        refine lv_ladd hx hb dX10_digest_88 ?_
        obtain ⟨x16, ex16, h⟩ := ul_of h
        refine u_nml ex16 ?_
        refine lv_lstore_n (lv' := [(1, .long x16), (0, .ref (ad 0)), (3, .int v3), (4, .int v4)]) hx hb dX10_digest_89 rfl hl (by decide) rfl (fun ls hl => ?_)
        obtain ⟨x17, ex17, h⟩ := ul_of h
        refine lv_iinc (v := x17) (lv' := [(4, .int x17), (1, .long x16), (0, .ref (ad 0)), (3, .int v3)]) hx hb dX10_digest_90 hl (k := 3) rfl (by rw [ex17]; rfl) (by decide) rfl (fun ls hl => ?_)
        refine lv_goto (tgt := 60) hx hb dX10_digest_93 (by decide) ?_
        exact ih σ15 x16 v3 x17 h H locs ls G (lv_sub hl [2, 1, 3, 0] rfl)
set_option maxHeartbeats 4000000 in
set_option maxRecDepth 100000 in
theorem w_X10_digest_32 {p : Program} {l : Launch} {e : Env} {s : State} {m : MethodId} {args : Array Value} {below : List Frame} {meth : Method} {c : Code} {D : va_G} {ad : Nat → Nat} {cs : Nat → ClassId} (C : uC p { frames := 2, cells := 0, slots := 0, locals := 46 } s m args c cX10_digest 6 wsX10_digest RX10 D vwCl (tyM cs) 34 ad (uAd 34 ad s.heap.size) 0 0) (hr : meth.sig.returnType = (some .long)) (hlk : meth.locks = false) {r : Int64} {σ' : St} :
    ∀ (n : Nat) (σ : St) (v1 : Int64) (v3 : Int32), f_X10_digest_32 n σ v1 v3 = some (r, σ') → ∀ (H : Heap) (locs : List Loc) (ls : Array Slot), uG D vwCl 34 ad (enM ad cs) (uAd 34 ad s.heap.size) s σ H locs → lv_has ls 6 [(0, .ref (ad 0)), (1, .long v1), (3, .int v3)] → W p l e { frames := 2, cells := 0, slots := 0, locals := 46 } s m args below meth c H locs 0 0 (MQ below (uQl D vwCl 34 ad (enM ad cs) r σ' s.heap.size) args s 0 0 (uAd 34 ad s.heap.size)) (F0 m 32 ls []) := by
  have hx := C.1.1
  have hb := C.1.2.1
  intro n
  induction n with
  | zero => intro σ v1 v3  h; exact absurd h (by simp [f_X10_digest_32])
  | succ fuel ih =>
    intro σ v1 v3  h H locs ls G hl
    rw [f_X10_digest_32] at h
    refine lv_iload_n hx hb dX10_digest_32 rfl (lv_at hl 2 rfl) ?_
    refine lv_aload_n hx hb dX10_digest_33 rfl (lv_at hl 0 rfl) ?_
    refine u_get (v := .int (σ 0 7)) C G obM_0 (ci := 10) (N := 44) (Cn := RX10) (T := TX10) rfl fi_X10_digest_10 7 (by decide) (by decide +kernel) rfl dX10_digest_34 ?_
    refine lv_icmp_ge (tgt := 102) hx hb dX10_digest_37 (by decide) (fun q => ?_) (fun q => ?_)
    · have h := u_pos q h
      refine lv_iconst (v := 0) hx hb dX10_digest_102 (by decide) ?_
      refine lv_istore_n (lv' := [(3, .int 0), (0, .ref (ad 0)), (1, .long v1)]) hx hb dX10_digest_103 rfl hl (by decide) rfl (fun ls hl => ?_)
      exact w_X10_digest_104 C hr hlk fu σ v1 0 h H locs ls G (lv_sub hl [1, 2, 0] rfl)
    · have h := u_neg q h
      refine lv_aload_n hx hb dX10_digest_40 rfl (lv_at hl 0 rfl) ?_
      refine u_get (v := .ref (ad 9)) C G obM_0 (ci := 10) (N := 44) (Cn := RX10) (T := TX10) rfl fi_X10_digest_10 11 (by decide) (by decide +kernel) rfl dX10_digest_41 ?_
      refine lv_iload_n hx hb dX10_digest_44 rfl (lv_at hl 2 rfl) ?_
      obtain ⟨g6, h⟩ := ui_of h
      refine u_zald C G arM_9 (t0 := 2) rfl g6 dX10_digest_45 ?_
      refine lv_if_eq (tgt := 57) hx hb dX10_digest_46 (by decide) (fun q => ?_) (fun q => ?_)
      · have h := u_pos q h
        refine lv_iconst (v := 0) hx hb dX10_digest_57 (by decide) ?_
        refine lv_istore (lv' := [(4, .int 0), (0, .ref (ad 0)), (1, .long v1), (3, .int v3)]) hx hb dX10_digest_58 hl (by decide) rfl (fun ls hl => ?_)
        exact w_X10_digest_60 C hr hlk ih fu σ v1 v3 0 h H locs ls G (lv_sub hl [1, 2, 3, 0] rfl)
      · have h := u_neg q h
        refine lv_ldc2 (v := 31) hx hb C.1.2.2.2.1 (C.1.2.2.2.2 (.constantLong RX10 255 31) (by decide +kernel)) dX10_digest_49 ?_
        refine lv_lload_n hx hb dX10_digest_52 rfl (lv_at hl 1 rfl) ?_
        refine lv_lmul hx hb dX10_digest_53 ?_
        refine lv_lconst (v := 1) hx hb dX10_digest_54 (by decide) ?_
        refine lv_lsub hx hb dX10_digest_55 ?_
        obtain ⟨x7, ex7, h⟩ := ul_of h
        refine u_nml ex7 ?_
        refine lv_lstore_n (lv' := [(1, .long x7), (0, .ref (ad 0)), (3, .int v3)]) hx hb dX10_digest_56 rfl hl (by decide) rfl (fun ls hl => ?_)
        refine lv_iconst (v := 0) hx hb dX10_digest_57 (by decide) ?_
        refine lv_istore (lv' := [(4, .int 0), (1, .long x7), (0, .ref (ad 0)), (3, .int v3)]) hx hb dX10_digest_58 hl (by decide) rfl (fun ls hl => ?_)
        exact w_X10_digest_60 C hr hlk ih fu σ x7 v3 0 h H locs ls G (lv_sub hl [2, 1, 3, 0] rfl)
set_option maxHeartbeats 4000000 in
set_option maxRecDepth 100000 in
theorem w_X10_digest_6 {p : Program} {l : Launch} {e : Env} {s : State} {m : MethodId} {args : Array Value} {below : List Frame} {meth : Method} {c : Code} {D : va_G} {ad : Nat → Nat} {cs : Nat → ClassId} (C : uC p { frames := 2, cells := 0, slots := 0, locals := 46 } s m args c cX10_digest 6 wsX10_digest RX10 D vwCl (tyM cs) 34 ad (uAd 34 ad s.heap.size) 0 0) (hr : meth.sig.returnType = (some .long)) (hlk : meth.locks = false) {r : Int64} {σ' : St} :
    ∀ (n : Nat) (σ : St) (v1 : Int64) (v3 : Int32), f_X10_digest_6 n σ v1 v3 = some (r, σ') → ∀ (H : Heap) (locs : List Loc) (ls : Array Slot), uG D vwCl 34 ad (enM ad cs) (uAd 34 ad s.heap.size) s σ H locs → lv_has ls 6 [(0, .ref (ad 0)), (1, .long v1), (3, .int v3)] → W p l e { frames := 2, cells := 0, slots := 0, locals := 46 } s m args below meth c H locs 0 0 (MQ below (uQl D vwCl 34 ad (enM ad cs) r σ' s.heap.size) args s 0 0 (uAd 34 ad s.heap.size)) (F0 m 6 ls []) := by
  have hx := C.1.1
  have hb := C.1.2.1
  intro n
  induction n with
  | zero => intro σ v1 v3  h; exact absurd h (by simp [f_X10_digest_6])
  | succ fuel ih =>
    intro σ v1 v3  h H locs ls G hl
    rw [f_X10_digest_6] at h
    refine lv_iload_n hx hb dX10_digest_6 rfl (lv_at hl 2 rfl) ?_
    refine lv_iconst (v := 5) hx hb dX10_digest_7 (by decide) ?_
    refine lv_icmp_gt (tgt := 30) hx hb dX10_digest_8 (by decide) (fun q => ?_) (fun q => ?_)
    · have h := u_pos q h
      refine lv_iconst (v := 0) hx hb dX10_digest_30 (by decide) ?_
      refine lv_istore_n (lv' := [(3, .int 0), (0, .ref (ad 0)), (1, .long v1)]) hx hb dX10_digest_31 rfl hl (by decide) rfl (fun ls hl => ?_)
      exact w_X10_digest_32 C hr hlk fu σ v1 0 h H locs ls G (lv_sub hl [1, 2, 0] rfl)
    · have h := u_neg q h
      refine lv_ldc2 (v := 31) hx hb C.1.2.2.2.1 (C.1.2.2.2.2 (.constantLong RX10 255 31) (by decide +kernel)) dX10_digest_11 ?_
      refine lv_lload_n hx hb dX10_digest_14 rfl (lv_at hl 1 rfl) ?_
      refine lv_lmul hx hb dX10_digest_15 ?_
      refine lv_aload_n hx hb dX10_digest_16 rfl (lv_at hl 0 rfl) ?_
      refine lv_iload_n hx hb dX10_digest_17 rfl (lv_at hl 2 rfl) ?_
      obtain ⟨r2, σ3, er2, h⟩ := ub_of h
      refine u_callVi (As := [.int v3]) (rest := [.long (31 * v1)]) C G (c_X10_tellsCount l D ad cs C.2.2.1 σ v3 r2 σ3 er2) (cwV 1 C.1.2.2.2.2 gX10_digest_X10_tellsCount rfl rfl rfl (by decide +kernel) ⟨Nat.le_of_ble_eq_true rfl, Nat.le_of_ble_eq_true rfl⟩) obM_0 (ci := 10) (T := TX10) rfl rfl hl rfl (Nat.le_of_ble_eq_true rfl) dX10_digest_18 (fun H locs G => ?_)
      refine lv_i2l hx hb dX10_digest_21 rfl ?_
      refine lv_ladd hx hb dX10_digest_22 ?_
      obtain ⟨x4, ex4, h⟩ := ul_of h
      refine u_nml ex4 ?_
      refine lv_lstore_n (lv' := [(1, .long x4), (0, .ref (ad 0)), (3, .int v3)]) hx hb dX10_digest_23 rfl hl (by decide) rfl (fun ls hl => ?_)
      obtain ⟨x5, ex5, h⟩ := ul_of h
      refine lv_iinc (v := x5) (lv' := [(3, .int x5), (1, .long x4), (0, .ref (ad 0))]) hx hb dX10_digest_24 hl (k := 2) rfl (by rw [ex5]; rfl) (by decide) rfl (fun ls hl => ?_)
      refine lv_goto (tgt := 6) hx hb dX10_digest_27 (by decide) ?_
      exact ih σ3 x4 x5 h H locs ls G (lv_sub hl [2, 1, 0] rfl)
set_option maxHeartbeats 4000000 in
set_option maxRecDepth 100000 in
theorem c_X10_digest (l : Launch) (D : va_G) (ad : Nat → Nat) (cs : Nat → ClassId) (J : uJ 34 ad) (σ : St) (r : Int64) (σ' : St) (h : f_X10_digest σ = some (r, σ')) : uMl l yX10_digest wsX10_digest { frames := 2, cells := 0, slots := 0, locals := 46 } D vwCl (tyM cs) 34 ad (enM ad cs) [.ref (ad 0)] σ r σ' := by
  refine u_met (Qf := uQl D vwCl 34 ad (enM ad cs) r σ') (cc := cX10_digest) (maxL := 6) (ret := (some .long)) (lv := [(0, .ref (ad 0))]) J (by decide) rfl (Nat.le_of_ble_eq_true rfl) rfl rfl rfl ?_
  intro p e s m args below meth c ls hx hb C hr hlk G hl
  unfold f_X10_digest at h
  obtain ⟨H, eH⟩ : ∃ H, H = s.heap := ⟨_, rfl⟩
  obtain ⟨locs, eL⟩ : ∃ locs : List Loc, locs = [] := ⟨_, rfl⟩
  refine u_start eH eL G ?_
  clear G eH eL
  intro G
  refine lv_ldc2 (v := 17) hx hb C.1.2.2.2.1 (C.1.2.2.2.2 (.constantLong RX10 253 17) (by decide +kernel)) dX10_digest_0 ?_
  obtain ⟨x1, ex1, h⟩ := ul_of h
  refine u_nml ex1 ?_
  refine lv_lstore_n (lv' := [(1, .long x1), (0, .ref (ad 0))]) hx hb dX10_digest_3 rfl hl (by decide) rfl (fun ls hl => ?_)
  refine lv_iconst (v := 0) hx hb dX10_digest_4 (by decide) ?_
  refine lv_istore_n (lv' := [(3, .int 0), (1, .long x1), (0, .ref (ad 0))]) hx hb dX10_digest_5 rfl hl (by decide) rfl (fun ls hl => ?_)
  exact w_X10_digest_6 C hr hlk fu σ x1 0 h H locs ls G (lv_sub hl [2, 1, 0] rfl)
