/-! X8_sizeOfHouse -/
def f_X8_sizeOfHouse_4 : Nat → St → Int32 → Int32 → Int32 → Option (Int32 × St)
  | 0, _, _, _, _ => none
  | fuel + 1, σ, v1, v2, v3 =>
    if (σ 8 9) ≤ v3 then
      some (v2, σ)
    else
      ui v3 16 <|
      if (σ 17 v3.toNatClampNeg) = 0 then
        ui v3 16 <|
        if (σ 13 v3.toNatClampNeg) = v1 then
          ul (v2 + 1) fun x5 =>
          ul (v3 + 1) fun x6 =>
          f_X8_sizeOfHouse_4 fuel σ v1 x5 x6
        else
          ul (v3 + 1) fun x4 =>
          f_X8_sizeOfHouse_4 fuel σ v1 v2 x4
      else
        ul (v3 + 1) fun x2 =>
        f_X8_sizeOfHouse_4 fuel σ v1 v2 x2
def f_X8_sizeOfHouse (σ : St) (v1 : Int32) : Option (Int32 × St) :=
  f_X8_sizeOfHouse_4 fu σ v1 0 0
theorem fi_X8_sizeOfHouse_8 : ∀ w ∈ u_ws RX8 TX8 10, w ∈ wsX8_sizeOfHouse := by decide +kernel
set_option maxHeartbeats 4000000 in
set_option maxRecDepth 100000 in
theorem w_X8_sizeOfHouse_4 {p : Program} {l : Launch} {e : Env} {s : State} {m : MethodId} {args : Array Value} {below : List Frame} {meth : Method} {c : Code} {D : va_G} {ad : Nat → Nat} {cs : Nat → ClassId} (C : uC p { frames := 0, cells := 0, slots := 0, locals := 0 } s m args c cX8_sizeOfHouse 4 wsX8_sizeOfHouse RX8 D vwCl (tyX cs) 99 ad (uAd 99 ad s.heap.size) 0 0) (hr : meth.sig.returnType = (some .int)) (hlk : meth.locks = false) {r : Int32} {σ' : St} :
    ∀ (n : Nat) (σ : St) (v1 : Int32) (v2 : Int32) (v3 : Int32), f_X8_sizeOfHouse_4 n σ v1 v2 v3 = some (r, σ') → ∀ (H : Heap) (locs : List Loc) (ls : Array Slot), uG D vwCl 99 ad (enX ad cs) (uAd 99 ad s.heap.size) s σ H locs → lv_has ls 4 [(0, .ref (ad 8)), (1, .int v1), (2, .int v2), (3, .int v3)] → W p l e { frames := 0, cells := 0, slots := 0, locals := 0 } s m args below meth c H locs 0 0 (MQ below (uQi D vwCl 99 ad (enX ad cs) r σ' s.heap.size) args s 0 0 (uAd 99 ad s.heap.size)) (F0 m 4 ls []) := by
  have hx := C.1.1
  have hb := C.1.2.1
  intro n
  induction n with
  | zero => intro σ v1 v2 v3  h; exact absurd h (by simp [f_X8_sizeOfHouse_4])
  | succ fuel ih =>
    intro σ v1 v2 v3  h H locs ls G hl
    rw [f_X8_sizeOfHouse_4] at h
    refine lv_iload_n hx hb dX8_sizeOfHouse_4 rfl (lv_at hl 3 rfl) ?_
    refine lv_aload_n hx hb dX8_sizeOfHouse_5 rfl (lv_at hl 0 rfl) ?_
    refine u_get (v := .int (σ 8 9)) C G obX_8 (ci := 8) (N := 10) (Cn := RX8) (T := TX8) rfl fi_X8_sizeOfHouse_8 9 (by decide) (by decide +kernel) rfl dX8_sizeOfHouse_6 ?_
    refine lv_icmp_ge (tgt := 40) hx hb dX8_sizeOfHouse_9 (by decide) (fun q => ?_) (fun q => ?_)
    · have h := u_pos q h
      refine lv_iload_n hx hb dX8_sizeOfHouse_40 rfl (lv_at hl 2 rfl) ?_
      obtain ⟨rfl, rfl⟩ := u_end h
      exact u_iret hx hb hr hlk G dX8_sizeOfHouse_41
    · have h := u_neg q h
      refine lv_aload_n hx hb dX8_sizeOfHouse_12 rfl (lv_at hl 0 rfl) ?_
      refine u_get (v := .ref (ad 17)) C G obX_8 (ci := 8) (N := 10) (Cn := RX8) (T := TX8) rfl fi_X8_sizeOfHouse_8 8 (by decide) (by decide +kernel) rfl dX8_sizeOfHouse_13 ?_
      refine lv_iload_n hx hb dX8_sizeOfHouse_16 rfl (lv_at hl 3 rfl) ?_
      obtain ⟨g1, h⟩ := ui_of h
      refine u_zald C G arX_17 (t0 := 2) rfl g1 dX8_sizeOfHouse_17 ?_
      refine lv_if_ne (tgt := 34) hx hb dX8_sizeOfHouse_18 (by decide) (fun q => ?_) (fun q => ?_)
      · have h := u_neg q h
        obtain ⟨x2, ex2, h⟩ := ul_of h
        refine lv_iinc (v := x2) (lv' := [(3, .int x2), (0, .ref (ad 8)), (1, .int v1), (2, .int v2)]) hx hb dX8_sizeOfHouse_34 hl (k := 3) rfl (by rw [ex2]; rfl) (by decide) rfl (fun ls hl => ?_)
        refine lv_goto (tgt := 4) hx hb dX8_sizeOfHouse_37 (by decide) ?_
        exact ih σ v1 v2 x2 h H locs ls G (lv_sub hl [1, 2, 3, 0] rfl)
      · have h := u_pos q h
        refine lv_aload_n hx hb dX8_sizeOfHouse_21 rfl (lv_at hl 0 rfl) ?_
        refine u_get (v := .ref (ad 13)) C G obX_8 (ci := 8) (N := 10) (Cn := RX8) (T := TX8) rfl fi_X8_sizeOfHouse_8 4 (by decide) (by decide +kernel) rfl dX8_sizeOfHouse_22 ?_
        refine lv_iload_n hx hb dX8_sizeOfHouse_25 rfl (lv_at hl 3 rfl) ?_
        obtain ⟨g3, h⟩ := ui_of h
        refine u_iald C G arX_13 (t0 := 0) rfl g3 dX8_sizeOfHouse_26 ?_
        refine lv_iload_n hx hb dX8_sizeOfHouse_27 rfl (lv_at hl 1 rfl) ?_
        refine lv_icmp_ne (tgt := 34) hx hb dX8_sizeOfHouse_28 (by decide) (fun q => ?_) (fun q => ?_)
        · have h := u_neg q h
          obtain ⟨x4, ex4, h⟩ := ul_of h
          refine lv_iinc (v := x4) (lv' := [(3, .int x4), (0, .ref (ad 8)), (1, .int v1), (2, .int v2)]) hx hb dX8_sizeOfHouse_34 hl (k := 3) rfl (by rw [ex4]; rfl) (by decide) rfl (fun ls hl => ?_)
          refine lv_goto (tgt := 4) hx hb dX8_sizeOfHouse_37 (by decide) ?_
          exact ih σ v1 v2 x4 h H locs ls G (lv_sub hl [1, 2, 3, 0] rfl)
        · have h := u_pos q h
          obtain ⟨x5, ex5, h⟩ := ul_of h
          refine lv_iinc (v := x5) (lv' := [(2, .int x5), (0, .ref (ad 8)), (1, .int v1), (3, .int v3)]) hx hb dX8_sizeOfHouse_31 hl (k := 2) rfl (by rw [ex5]; rfl) (by decide) rfl (fun ls hl => ?_)
          obtain ⟨x6, ex6, h⟩ := ul_of h
          refine lv_iinc (v := x6) (lv' := [(3, .int x6), (2, .int x5), (0, .ref (ad 8)), (1, .int v1)]) hx hb dX8_sizeOfHouse_34 hl (k := 3) rfl (by rw [ex6]; rfl) (by decide) rfl (fun ls hl => ?_)
          refine lv_goto (tgt := 4) hx hb dX8_sizeOfHouse_37 (by decide) ?_
          exact ih σ v1 x5 x6 h H locs ls G (lv_sub hl [2, 3, 1, 0] rfl)
set_option maxHeartbeats 4000000 in
set_option maxRecDepth 100000 in
theorem c_X8_sizeOfHouse (l : Launch) (D : va_G) (ad : Nat → Nat) (cs : Nat → ClassId) (J : uJ 99 ad) (σ : St) (v1 : Int32) (r : Int32) (σ' : St) (h : f_X8_sizeOfHouse σ v1 = some (r, σ')) : uMi l yX8_sizeOfHouse wsX8_sizeOfHouse { frames := 0, cells := 0, slots := 0, locals := 0 } D vwCl (tyX cs) 99 ad (enX ad cs) [.ref (ad 8), .int v1] σ r σ' := by
  refine u_met (Qf := uQi D vwCl 99 ad (enX ad cs) r σ') (cc := cX8_sizeOfHouse) (maxL := 4) (ret := (some .int)) (lv := [(0, .ref (ad 8)), (1, .int v1)]) J (by decide) rfl (Nat.le_of_ble_eq_true rfl) rfl rfl rfl ?_
  intro p e s m args below meth c ls hx hb C hr hlk G hl
  unfold f_X8_sizeOfHouse at h
  obtain ⟨H, eH⟩ : ∃ H, H = s.heap := ⟨_, rfl⟩
  obtain ⟨locs, eL⟩ : ∃ locs : List Loc, locs = [] := ⟨_, rfl⟩
  refine u_start eH eL G ?_
  clear G eH eL
  intro G
  refine lv_iconst (v := 0) hx hb dX8_sizeOfHouse_0 (by decide) ?_
  refine lv_istore_n (lv' := [(2, .int 0), (0, .ref (ad 8)), (1, .int v1)]) hx hb dX8_sizeOfHouse_1 rfl hl (by decide) rfl (fun ls hl => ?_)
  refine lv_iconst (v := 0) hx hb dX8_sizeOfHouse_2 (by decide) ?_
  refine lv_istore_n (lv' := [(3, .int 0), (2, .int 0), (0, .ref (ad 8)), (1, .int v1)]) hx hb dX8_sizeOfHouse_3 rfl hl (by decide) rfl (fun ls hl => ?_)
  exact w_X8_sizeOfHouse_4 C hr hlk fu σ v1 0 0 h H locs ls G (lv_sub hl [2, 3, 1, 0] rfl)
/-! X8_founderOf -/
def f_X8_founderOf_4 : Nat → St → Int32 → Int32 → Option (Int32 × St)
  | 0, _, _, _ => none
  | fuel + 1, σ, v2, v3 =>
    if 16 ≤ v3 then
      some (v2, σ)
    else
      ui v2 16 <|
      if (σ 12 v2.toNatClampNeg) = 2 then
        ui v2 16 <|
        ul (σ 13 v2.toNatClampNeg) fun x3 =>
        ul (v3 + 1) fun x4 =>
        f_X8_founderOf_4 fuel σ x3 x4
      else
        some (v2, σ)
def f_X8_founderOf (σ : St) (v1 : Int32) : Option (Int32 × St) :=
  f_X8_founderOf_4 fu σ v1 0
theorem fi_X8_founderOf_8 : ∀ w ∈ u_ws RX8 TX8 10, w ∈ wsX8_founderOf := by decide +kernel
set_option maxHeartbeats 4000000 in
set_option maxRecDepth 100000 in
theorem w_X8_founderOf_4 {p : Program} {l : Launch} {e : Env} {s : State} {m : MethodId} {args : Array Value} {below : List Frame} {meth : Method} {c : Code} {D : va_G} {ad : Nat → Nat} {cs : Nat → ClassId} (C : uC p { frames := 0, cells := 0, slots := 0, locals := 0 } s m args c cX8_founderOf 4 wsX8_founderOf RX8 D vwCl (tyX cs) 99 ad (uAd 99 ad s.heap.size) 0 0) (hr : meth.sig.returnType = (some .int)) (hlk : meth.locks = false) {r : Int32} {σ' : St} :
    ∀ (n : Nat) (σ : St) (v2 : Int32) (v3 : Int32), f_X8_founderOf_4 n σ v2 v3 = some (r, σ') → ∀ (H : Heap) (locs : List Loc) (ls : Array Slot), uG D vwCl 99 ad (enX ad cs) (uAd 99 ad s.heap.size) s σ H locs → lv_has ls 4 [(0, .ref (ad 8)), (2, .int v2), (3, .int v3)] → W p l e { frames := 0, cells := 0, slots := 0, locals := 0 } s m args below meth c H locs 0 0 (MQ below (uQi D vwCl 99 ad (enX ad cs) r σ' s.heap.size) args s 0 0 (uAd 99 ad s.heap.size)) (F0 m 4 ls []) := by
  have hx := C.1.1
  have hb := C.1.2.1
  intro n
  induction n with
  | zero => intro σ v2 v3  h; exact absurd h (by simp [f_X8_founderOf_4])
  | succ fuel ih =>
    intro σ v2 v3  h H locs ls G hl
    rw [f_X8_founderOf_4] at h
    refine lv_iload_n hx hb dX8_founderOf_4 rfl (lv_at hl 2 rfl) ?_
    refine lv_bipush (v := 16) hx hb dX8_founderOf_5 (by decide) ?_
    refine lv_icmp_ge (tgt := 33) hx hb dX8_founderOf_7 (by decide) (fun q => ?_) (fun q => ?_)
    · have h := u_pos q h
      refine lv_iload_n hx hb dX8_founderOf_33 rfl (lv_at hl 1 rfl) ?_
      obtain ⟨rfl, rfl⟩ := u_end h
      exact u_iret hx hb hr hlk G dX8_founderOf_34
    · have h := u_neg q h
      refine lv_aload_n hx hb dX8_founderOf_10 rfl (lv_at hl 0 rfl) ?_
      refine u_get (v := .ref (ad 12)) C G obX_8 (ci := 8) (N := 10) (Cn := RX8) (T := TX8) rfl fi_X8_founderOf_8 3 (by decide) (by decide +kernel) rfl dX8_founderOf_11 ?_
      refine lv_iload_n hx hb dX8_founderOf_14 rfl (lv_at hl 1 rfl) ?_
      obtain ⟨g1, h⟩ := ui_of h
      refine u_iald C G arX_12 (t0 := 0) rfl g1 dX8_founderOf_15 ?_
      refine lv_iconst (v := 2) hx hb dX8_founderOf_16 (by decide) ?_
      refine lv_icmp_ne (tgt := 33) hx hb dX8_founderOf_17 (by decide) (fun q => ?_) (fun q => ?_)
      · have h := u_neg q h
        refine lv_iload_n hx hb dX8_founderOf_33 rfl (lv_at hl 1 rfl) ?_
        obtain ⟨rfl, rfl⟩ := u_end h
        exact u_iret hx hb hr hlk G dX8_founderOf_34
      · have h := u_pos q h
        refine lv_aload_n hx hb dX8_founderOf_20 rfl (lv_at hl 0 rfl) ?_
        refine u_get (v := .ref (ad 13)) C G obX_8 (ci := 8) (N := 10) (Cn := RX8) (T := TX8) rfl fi_X8_founderOf_8 4 (by decide) (by decide +kernel) rfl dX8_founderOf_21 ?_
        refine lv_iload_n hx hb dX8_founderOf_24 rfl (lv_at hl 1 rfl) ?_
        obtain ⟨g2, h⟩ := ui_of h
        refine u_iald C G arX_13 (t0 := 0) rfl g2 dX8_founderOf_25 ?_
        obtain ⟨x3, ex3, h⟩ := ul_of h
        refine u_nmi ex3 ?_
        refine lv_istore_n (lv' := [(2, .int x3), (0, .ref (ad 8)), (3, .int v3)]) hx hb dX8_founderOf_26 rfl hl (by decide) rfl (fun ls hl => ?_)
        obtain ⟨x4, ex4, h⟩ := ul_of h
        refine lv_iinc (v := x4) (lv' := [(3, .int x4), (2, .int x3), (0, .ref (ad 8))]) hx hb dX8_founderOf_27 hl (k := 2) rfl (by rw [ex4]; rfl) (by decide) rfl (fun ls hl => ?_)
        refine lv_goto (tgt := 4) hx hb dX8_founderOf_30 (by decide) ?_
        exact ih σ x3 x4 h H locs ls G (lv_sub hl [2, 1, 0] rfl)
set_option maxHeartbeats 4000000 in
set_option maxRecDepth 100000 in
theorem c_X8_founderOf (l : Launch) (D : va_G) (ad : Nat → Nat) (cs : Nat → ClassId) (J : uJ 99 ad) (σ : St) (v1 : Int32) (r : Int32) (σ' : St) (h : f_X8_founderOf σ v1 = some (r, σ')) : uMi l yX8_founderOf wsX8_founderOf { frames := 0, cells := 0, slots := 0, locals := 0 } D vwCl (tyX cs) 99 ad (enX ad cs) [.ref (ad 8), .int v1] σ r σ' := by
  refine u_met (Qf := uQi D vwCl 99 ad (enX ad cs) r σ') (cc := cX8_founderOf) (maxL := 4) (ret := (some .int)) (lv := [(0, .ref (ad 8)), (1, .int v1)]) J (by decide) rfl (Nat.le_of_ble_eq_true rfl) rfl rfl rfl ?_
  intro p e s m args below meth c ls hx hb C hr hlk G hl
  unfold f_X8_founderOf at h
  obtain ⟨H, eH⟩ : ∃ H, H = s.heap := ⟨_, rfl⟩
  obtain ⟨locs, eL⟩ : ∃ locs : List Loc, locs = [] := ⟨_, rfl⟩
  refine u_start eH eL G ?_
  clear G eH eL
  intro G
  refine lv_iload_n hx hb dX8_founderOf_0 rfl (lv_at hl 1 rfl) ?_
  refine lv_istore_n (lv' := [(2, .int v1), (0, .ref (ad 8)), (1, .int v1)]) hx hb dX8_founderOf_1 rfl hl (by decide) rfl (fun ls hl => ?_)
  refine lv_iconst (v := 0) hx hb dX8_founderOf_2 (by decide) ?_
  refine lv_istore_n (lv' := [(3, .int 0), (2, .int v1), (0, .ref (ad 8)), (1, .int v1)]) hx hb dX8_founderOf_3 rfl hl (by decide) rfl (fun ls hl => ?_)
  exact w_X8_founderOf_4 C hr hlk fu σ v1 0 h H locs ls G (lv_sub hl [2, 1, 0] rfl)
/-! X8_sizeThere -/
def f_X8_sizeThere_4 : Nat → St → Int32 → Int32 → Option (Int32 × St)
  | 0, _, _, _ => none
  | fuel + 1, σ, v1, v2 =>
    if (σ 8 9) ≤ v2 then
      some (v1, σ)
    else
      ui v2 16 <|
      if (σ 17 v2.toNatClampNeg) = 0 then
        ul (v1 + 1) fun x3 =>
        ul (v2 + 1) fun x4 =>
        f_X8_sizeThere_4 fuel σ x3 x4
      else
        ul (v2 + 1) fun x2 =>
        f_X8_sizeThere_4 fuel σ v1 x2
def f_X8_sizeThere (σ : St) : Option (Int32 × St) :=
  f_X8_sizeThere_4 fu σ 0 0
theorem fi_X8_sizeThere_8 : ∀ w ∈ u_ws RX8 TX8 10, w ∈ wsX8_sizeThere := by decide +kernel
set_option maxHeartbeats 4000000 in
set_option maxRecDepth 100000 in
theorem w_X8_sizeThere_4 {p : Program} {l : Launch} {e : Env} {s : State} {m : MethodId} {args : Array Value} {below : List Frame} {meth : Method} {c : Code} {D : va_G} {ad : Nat → Nat} {cs : Nat → ClassId} (C : uC p { frames := 0, cells := 0, slots := 0, locals := 0 } s m args c cX8_sizeThere 3 wsX8_sizeThere RX8 D vwCl (tyX cs) 99 ad (uAd 99 ad s.heap.size) 0 0) (hr : meth.sig.returnType = (some .int)) (hlk : meth.locks = false) {r : Int32} {σ' : St} :
    ∀ (n : Nat) (σ : St) (v1 : Int32) (v2 : Int32), f_X8_sizeThere_4 n σ v1 v2 = some (r, σ') → ∀ (H : Heap) (locs : List Loc) (ls : Array Slot), uG D vwCl 99 ad (enX ad cs) (uAd 99 ad s.heap.size) s σ H locs → lv_has ls 3 [(0, .ref (ad 8)), (1, .int v1), (2, .int v2)] → W p l e { frames := 0, cells := 0, slots := 0, locals := 0 } s m args below meth c H locs 0 0 (MQ below (uQi D vwCl 99 ad (enX ad cs) r σ' s.heap.size) args s 0 0 (uAd 99 ad s.heap.size)) (F0 m 4 ls []) := by
  have hx := C.1.1
  have hb := C.1.2.1
  intro n
  induction n with
  | zero => intro σ v1 v2  h; exact absurd h (by simp [f_X8_sizeThere_4])
  | succ fuel ih =>
    intro σ v1 v2  h H locs ls G hl
    rw [f_X8_sizeThere_4] at h
    refine lv_iload_n hx hb dX8_sizeThere_4 rfl (lv_at hl 2 rfl) ?_
    refine lv_aload_n hx hb dX8_sizeThere_5 rfl (lv_at hl 0 rfl) ?_
    refine u_get (v := .int (σ 8 9)) C G obX_8 (ci := 8) (N := 10) (Cn := RX8) (T := TX8) rfl fi_X8_sizeThere_8 9 (by decide) (by decide +kernel) rfl dX8_sizeThere_6 ?_
    refine lv_icmp_ge (tgt := 30) hx hb dX8_sizeThere_9 (by decide) (fun q => ?_) (fun q => ?_)
    · have h := u_pos q h
      refine lv_iload_n hx hb dX8_sizeThere_30 rfl (lv_at hl 1 rfl) ?_
      obtain ⟨rfl, rfl⟩ := u_end h
      exact u_iret hx hb hr hlk G dX8_sizeThere_31
    · have h := u_neg q h
      refine lv_aload_n hx hb dX8_sizeThere_12 rfl (lv_at hl 0 rfl) ?_
      refine u_get (v := .ref (ad 17)) C G obX_8 (ci := 8) (N := 10) (Cn := RX8) (T := TX8) rfl fi_X8_sizeThere_8 8 (by decide) (by decide +kernel) rfl dX8_sizeThere_13 ?_
      refine lv_iload_n hx hb dX8_sizeThere_16 rfl (lv_at hl 2 rfl) ?_
      obtain ⟨g1, h⟩ := ui_of h
      refine u_zald C G arX_17 (t0 := 2) rfl g1 dX8_sizeThere_17 ?_
      refine lv_if_ne (tgt := 24) hx hb dX8_sizeThere_18 (by decide) (fun q => ?_) (fun q => ?_)
      · have h := u_neg q h
        obtain ⟨x2, ex2, h⟩ := ul_of h
        refine lv_iinc (v := x2) (lv' := [(2, .int x2), (0, .ref (ad 8)), (1, .int v1)]) hx hb dX8_sizeThere_24 hl (k := 2) rfl (by rw [ex2]; rfl) (by decide) rfl (fun ls hl => ?_)
        refine lv_goto (tgt := 4) hx hb dX8_sizeThere_27 (by decide) ?_
        exact ih σ v1 x2 h H locs ls G (lv_sub hl [1, 2, 0] rfl)
      · have h := u_pos q h
        obtain ⟨x3, ex3, h⟩ := ul_of h
        refine lv_iinc (v := x3) (lv' := [(1, .int x3), (0, .ref (ad 8)), (2, .int v2)]) hx hb dX8_sizeThere_21 hl (k := 1) rfl (by rw [ex3]; rfl) (by decide) rfl (fun ls hl => ?_)
        obtain ⟨x4, ex4, h⟩ := ul_of h
        refine lv_iinc (v := x4) (lv' := [(2, .int x4), (1, .int x3), (0, .ref (ad 8))]) hx hb dX8_sizeThere_24 hl (k := 2) rfl (by rw [ex4]; rfl) (by decide) rfl (fun ls hl => ?_)
        refine lv_goto (tgt := 4) hx hb dX8_sizeThere_27 (by decide) ?_
        exact ih σ x3 x4 h H locs ls G (lv_sub hl [2, 1, 0] rfl)
set_option maxHeartbeats 4000000 in
set_option maxRecDepth 100000 in
theorem c_X8_sizeThere (l : Launch) (D : va_G) (ad : Nat → Nat) (cs : Nat → ClassId) (J : uJ 99 ad) (σ : St) (r : Int32) (σ' : St) (h : f_X8_sizeThere σ = some (r, σ')) : uMi l yX8_sizeThere wsX8_sizeThere { frames := 0, cells := 0, slots := 0, locals := 0 } D vwCl (tyX cs) 99 ad (enX ad cs) [.ref (ad 8)] σ r σ' := by
  refine u_met (Qf := uQi D vwCl 99 ad (enX ad cs) r σ') (cc := cX8_sizeThere) (maxL := 3) (ret := (some .int)) (lv := [(0, .ref (ad 8))]) J (by decide) rfl (Nat.le_of_ble_eq_true rfl) rfl rfl rfl ?_
  intro p e s m args below meth c ls hx hb C hr hlk G hl
  unfold f_X8_sizeThere at h
  obtain ⟨H, eH⟩ : ∃ H, H = s.heap := ⟨_, rfl⟩
  obtain ⟨locs, eL⟩ : ∃ locs : List Loc, locs = [] := ⟨_, rfl⟩
  refine u_start eH eL G ?_
  clear G eH eL
  intro G
  refine lv_iconst (v := 0) hx hb dX8_sizeThere_0 (by decide) ?_
  refine lv_istore_n (lv' := [(1, .int 0), (0, .ref (ad 8))]) hx hb dX8_sizeThere_1 rfl hl (by decide) rfl (fun ls hl => ?_)
  refine lv_iconst (v := 0) hx hb dX8_sizeThere_2 (by decide) ?_
  refine lv_istore_n (lv' := [(2, .int 0), (1, .int 0), (0, .ref (ad 8))]) hx hb dX8_sizeThere_3 rfl hl (by decide) rfl (fun ls hl => ?_)
  exact w_X8_sizeThere_4 C hr hlk fu σ 0 0 h H locs ls G (lv_sub hl [2, 1, 0] rfl)
/-! X8_lettersThere -/
def f_X8_lettersThere_4 : Nat → St → Int32 → Int32 → Option (Int32 × St)
  | 0, _, _, _ => none
  | fuel + 1, σ, v1, v2 =>
    if (σ 8 9) ≤ v2 then
      some (v1, σ)
    else
      ui v2 16 <|
      if (σ 17 v2.toNatClampNeg) = 0 then
        ui v2 16 <|
        ul (v1 + (σ 11 v2.toNatClampNeg)) fun x4 =>
        ul (v2 + 1) fun x5 =>
        f_X8_lettersThere_4 fuel σ x4 x5
      else
        ul (v2 + 1) fun x2 =>
        f_X8_lettersThere_4 fuel σ v1 x2
def f_X8_lettersThere (σ : St) : Option (Int32 × St) :=
  f_X8_lettersThere_4 fu σ 0 0
theorem fi_X8_lettersThere_8 : ∀ w ∈ u_ws RX8 TX8 10, w ∈ wsX8_lettersThere := by decide +kernel
set_option maxHeartbeats 4000000 in
set_option maxRecDepth 100000 in
theorem w_X8_lettersThere_4 {p : Program} {l : Launch} {e : Env} {s : State} {m : MethodId} {args : Array Value} {below : List Frame} {meth : Method} {c : Code} {D : va_G} {ad : Nat → Nat} {cs : Nat → ClassId} (C : uC p { frames := 0, cells := 0, slots := 0, locals := 0 } s m args c cX8_lettersThere 3 wsX8_lettersThere RX8 D vwCl (tyX cs) 99 ad (uAd 99 ad s.heap.size) 0 0) (hr : meth.sig.returnType = (some .int)) (hlk : meth.locks = false) {r : Int32} {σ' : St} :
    ∀ (n : Nat) (σ : St) (v1 : Int32) (v2 : Int32), f_X8_lettersThere_4 n σ v1 v2 = some (r, σ') → ∀ (H : Heap) (locs : List Loc) (ls : Array Slot), uG D vwCl 99 ad (enX ad cs) (uAd 99 ad s.heap.size) s σ H locs → lv_has ls 3 [(0, .ref (ad 8)), (1, .int v1), (2, .int v2)] → W p l e { frames := 0, cells := 0, slots := 0, locals := 0 } s m args below meth c H locs 0 0 (MQ below (uQi D vwCl 99 ad (enX ad cs) r σ' s.heap.size) args s 0 0 (uAd 99 ad s.heap.size)) (F0 m 4 ls []) := by
  have hx := C.1.1
  have hb := C.1.2.1
  intro n
  induction n with
  | zero => intro σ v1 v2  h; exact absurd h (by simp [f_X8_lettersThere_4])
  | succ fuel ih =>
    intro σ v1 v2  h H locs ls G hl
    rw [f_X8_lettersThere_4] at h
    refine lv_iload_n hx hb dX8_lettersThere_4 rfl (lv_at hl 2 rfl) ?_
    refine lv_aload_n hx hb dX8_lettersThere_5 rfl (lv_at hl 0 rfl) ?_
    refine u_get (v := .int (σ 8 9)) C G obX_8 (ci := 8) (N := 10) (Cn := RX8) (T := TX8) rfl fi_X8_lettersThere_8 9 (by decide) (by decide +kernel) rfl dX8_lettersThere_6 ?_
    refine lv_icmp_ge (tgt := 36) hx hb dX8_lettersThere_9 (by decide) (fun q => ?_) (fun q => ?_)
    · have h := u_pos q h
      refine lv_iload_n hx hb dX8_lettersThere_36 rfl (lv_at hl 1 rfl) ?_
      obtain ⟨rfl, rfl⟩ := u_end h
      exact u_iret hx hb hr hlk G dX8_lettersThere_37
    · have h := u_neg q h
      refine lv_aload_n hx hb dX8_lettersThere_12 rfl (lv_at hl 0 rfl) ?_
      refine u_get (v := .ref (ad 17)) C G obX_8 (ci := 8) (N := 10) (Cn := RX8) (T := TX8) rfl fi_X8_lettersThere_8 8 (by decide) (by decide +kernel) rfl dX8_lettersThere_13 ?_
      refine lv_iload_n hx hb dX8_lettersThere_16 rfl (lv_at hl 2 rfl) ?_
      obtain ⟨g1, h⟩ := ui_of h
      refine u_zald C G arX_17 (t0 := 2) rfl g1 dX8_lettersThere_17 ?_
      refine lv_if_ne (tgt := 30) hx hb dX8_lettersThere_18 (by decide) (fun q => ?_) (fun q => ?_)
      · have h := u_neg q h
        obtain ⟨x2, ex2, h⟩ := ul_of h
        refine lv_iinc (v := x2) (lv' := [(2, .int x2), (0, .ref (ad 8)), (1, .int v1)]) hx hb dX8_lettersThere_30 hl (k := 2) rfl (by rw [ex2]; rfl) (by decide) rfl (fun ls hl => ?_)
        refine lv_goto (tgt := 4) hx hb dX8_lettersThere_33 (by decide) ?_
        exact ih σ v1 x2 h H locs ls G (lv_sub hl [1, 2, 0] rfl)
      · have h := u_pos q h
        refine lv_iload_n hx hb dX8_lettersThere_21 rfl (lv_at hl 1 rfl) ?_
        refine lv_aload_n hx hb dX8_lettersThere_22 rfl (lv_at hl 0 rfl) ?_
        refine u_get (v := .ref (ad 11)) C G obX_8 (ci := 8) (N := 10) (Cn := RX8) (T := TX8) rfl fi_X8_lettersThere_8 2 (by decide) (by decide +kernel) rfl dX8_lettersThere_23 ?_
        refine lv_iload_n hx hb dX8_lettersThere_26 rfl (lv_at hl 2 rfl) ?_
        obtain ⟨g3, h⟩ := ui_of h
        refine u_iald C G arX_11 (t0 := 0) rfl g3 dX8_lettersThere_27 ?_
        refine lv_iadd hx hb dX8_lettersThere_28 ?_
        obtain ⟨x4, ex4, h⟩ := ul_of h
        refine u_nmi ex4 ?_
        refine lv_istore_n (lv' := [(1, .int x4), (0, .ref (ad 8)), (2, .int v2)]) hx hb dX8_lettersThere_29 rfl hl (by decide) rfl (fun ls hl => ?_)
        obtain ⟨x5, ex5, h⟩ := ul_of h
        refine lv_iinc (v := x5) (lv' := [(2, .int x5), (1, .int x4), (0, .ref (ad 8))]) hx hb dX8_lettersThere_30 hl (k := 2) rfl (by rw [ex5]; rfl) (by decide) rfl (fun ls hl => ?_)
        refine lv_goto (tgt := 4) hx hb dX8_lettersThere_33 (by decide) ?_
        exact ih σ x4 x5 h H locs ls G (lv_sub hl [2, 1, 0] rfl)
set_option maxHeartbeats 4000000 in
set_option maxRecDepth 100000 in
theorem c_X8_lettersThere (l : Launch) (D : va_G) (ad : Nat → Nat) (cs : Nat → ClassId) (J : uJ 99 ad) (σ : St) (r : Int32) (σ' : St) (h : f_X8_lettersThere σ = some (r, σ')) : uMi l yX8_lettersThere wsX8_lettersThere { frames := 0, cells := 0, slots := 0, locals := 0 } D vwCl (tyX cs) 99 ad (enX ad cs) [.ref (ad 8)] σ r σ' := by
  refine u_met (Qf := uQi D vwCl 99 ad (enX ad cs) r σ') (cc := cX8_lettersThere) (maxL := 3) (ret := (some .int)) (lv := [(0, .ref (ad 8))]) J (by decide) rfl (Nat.le_of_ble_eq_true rfl) rfl rfl rfl ?_
  intro p e s m args below meth c ls hx hb C hr hlk G hl
  unfold f_X8_lettersThere at h
  obtain ⟨H, eH⟩ : ∃ H, H = s.heap := ⟨_, rfl⟩
  obtain ⟨locs, eL⟩ : ∃ locs : List Loc, locs = [] := ⟨_, rfl⟩
  refine u_start eH eL G ?_
  clear G eH eL
  intro G
  refine lv_iconst (v := 0) hx hb dX8_lettersThere_0 (by decide) ?_
  refine lv_istore_n (lv' := [(1, .int 0), (0, .ref (ad 8))]) hx hb dX8_lettersThere_1 rfl hl (by decide) rfl (fun ls hl => ?_)
  refine lv_iconst (v := 0) hx hb dX8_lettersThere_2 (by decide) ?_
  refine lv_istore_n (lv' := [(2, .int 0), (1, .int 0), (0, .ref (ad 8))]) hx hb dX8_lettersThere_3 rfl hl (by decide) rfl (fun ls hl => ?_)
  exact w_X8_lettersThere_4 C hr hlk fu σ 0 0 h H locs ls G (lv_sub hl [2, 1, 0] rfl)
/-! X8_cellsIn -/
def f_X8_cellsIn (σ : St) (v1 : Int32) (v2 : Int32) (v3 : Int32) : Option (Int32 × St) :=
  ul (v3 - v2) fun x1 =>
  if x1 < 0 then
    some ((0 : Int32), σ)
  else
    ui v1 16 <|
    if x1 < (σ 11 v1.toNatClampNeg) then
      ui v1 16 <|
      ui x1 8 <|
      ui ((σ (18 + v1.toNatClampNeg) x1.toNatClampNeg) - 97) 26 <|
      some ((σ 9 ((σ (18 + v1.toNatClampNeg) x1.toNatClampNeg) - 97).toNatClampNeg), σ)
    else
      some ((0 : Int32), σ)
theorem fi_X8_cellsIn_8 : ∀ w ∈ u_ws RX8 TX8 10, w ∈ wsX8_cellsIn := by decide +kernel
set_option maxHeartbeats 4000000 in
set_option maxRecDepth 100000 in
theorem c_X8_cellsIn (l : Launch) (D : va_G) (ad : Nat → Nat) (cs : Nat → ClassId) (J : uJ 99 ad) (σ : St) (v1 : Int32) (v2 : Int32) (v3 : Int32) (r : Int32) (σ' : St) (h : f_X8_cellsIn σ v1 v2 v3 = some (r, σ')) : uMi l yX8_cellsIn wsX8_cellsIn { frames := 0, cells := 0, slots := 0, locals := 0 } D vwCl (tyX cs) 99 ad (enX ad cs) [.ref (ad 8), .int v1, .int v2, .int v3] σ r σ' := by
  refine u_met (Qf := uQi D vwCl 99 ad (enX ad cs) r σ') (cc := cX8_cellsIn) (maxL := 5) (ret := (some .int)) (lv := [(0, .ref (ad 8)), (1, .int v1), (2, .int v2), (3, .int v3)]) J (by decide) rfl (Nat.le_of_ble_eq_true rfl) rfl rfl rfl ?_
  intro p e s m args below meth c ls hx hb C hr hlk G hl
  unfold f_X8_cellsIn at h
  obtain ⟨H, eH⟩ : ∃ H, H = s.heap := ⟨_, rfl⟩
  obtain ⟨locs, eL⟩ : ∃ locs : List Loc, locs = [] := ⟨_, rfl⟩
  refine u_start eH eL G ?_
  clear G eH eL
  intro G
  refine lv_iload_n hx hb dX8_cellsIn_0 rfl (lv_at hl 3 rfl) ?_
  refine lv_iload_n hx hb dX8_cellsIn_1 rfl (lv_at hl 2 rfl) ?_
  refine lv_isub hx hb dX8_cellsIn_2 ?_
  obtain ⟨x1, ex1, h⟩ := ul_of h
  refine u_nmi ex1 ?_
  refine lv_istore (lv' := [(4, .int x1), (0, .ref (ad 8)), (1, .int v1), (2, .int v2), (3, .int v3)]) hx hb dX8_cellsIn_3 hl (by decide) rfl (fun ls hl => ?_)
  refine lv_iload hx hb dX8_cellsIn_5 (lv_at hl 0 rfl) ?_
  refine lv_if_lt (tgt := 21) hx hb dX8_cellsIn_7 (by decide) (fun q => ?_) (fun q => ?_)
  · have h := u_pos q h
    refine lv_iconst (v := 0) hx hb dX8_cellsIn_21 (by decide) ?_
    obtain ⟨rfl, rfl⟩ := u_end h
    exact u_iret hx hb hr hlk G dX8_cellsIn_22
  · have h := u_neg q h
    refine lv_iload hx hb dX8_cellsIn_10 (lv_at hl 0 rfl) ?_
    refine lv_aload_n hx hb dX8_cellsIn_12 rfl (lv_at hl 1 rfl) ?_
    refine u_get (v := .ref (ad 11)) C G obX_8 (ci := 8) (N := 10) (Cn := RX8) (T := TX8) rfl fi_X8_cellsIn_8 2 (by decide) (by decide +kernel) rfl dX8_cellsIn_13 ?_
    refine lv_iload_n hx hb dX8_cellsIn_16 rfl (lv_at hl 2 rfl) ?_
    obtain ⟨g2, h⟩ := ui_of h
    refine u_iald C G arX_11 (t0 := 0) rfl g2 dX8_cellsIn_17 ?_
    refine lv_icmp_lt (tgt := 23) hx hb dX8_cellsIn_18 (by decide) (fun q => ?_) (fun q => ?_)
    · have h := u_pos q h
      refine lv_aload_n hx hb dX8_cellsIn_23 rfl (lv_at hl 1 rfl) ?_
      refine u_get (v := .ref (ad 9)) C G obX_8 (ci := 8) (N := 10) (Cn := RX8) (T := TX8) rfl fi_X8_cellsIn_8 0 (by decide) (by decide +kernel) rfl dX8_cellsIn_24 ?_
      refine lv_aload_n hx hb dX8_cellsIn_27 rfl (lv_at hl 1 rfl) ?_
      refine u_get (v := .ref (ad 10)) C G obX_8 (ci := 8) (N := 10) (Cn := RX8) (T := TX8) rfl fi_X8_cellsIn_8 1 (by decide) (by decide +kernel) rfl dX8_cellsIn_28 ?_
      refine lv_iload_n hx hb dX8_cellsIn_31 rfl (lv_at hl 2 rfl) ?_
      obtain ⟨g3, h⟩ := ui_of h
      refine u_aald C G rrX_10 (t0 := 4) rfl rfl g3 dX8_cellsIn_32 (fun b4 => ?_)
      refine lv_iload hx hb dX8_cellsIn_33 (lv_at hl 0 rfl) ?_
      obtain ⟨g5, h⟩ := ui_of h
      refine u_bald C G (arX_lrow b4) (t0 := 1) rfl g5 dX8_cellsIn_35 ?_
      refine lv_bipush (v := 97) hx hb dX8_cellsIn_36 (by decide) ?_
      refine lv_isub hx hb dX8_cellsIn_38 ?_
      obtain ⟨g6, h⟩ := ui_of h
      refine u_iald C G arX_9 (t0 := 0) rfl g6 dX8_cellsIn_39 ?_
      obtain ⟨rfl, rfl⟩ := u_end h
      exact u_iret hx hb hr hlk G dX8_cellsIn_40
    · have h := u_neg q h
      refine lv_iconst (v := 0) hx hb dX8_cellsIn_21 (by decide) ?_
      obtain ⟨rfl, rfl⟩ := u_end h
      exact u_iret hx hb hr hlk G dX8_cellsIn_22
/-! X8_sizeInCells -/
def f_X8_sizeInCells_4 : Nat → St → Int32 → Int32 → Int32 → Option (Int32 × St)
  | 0, _, _, _, _ => none
  | fuel + 1, σ, v1, v2, v3 =>
    if 8 ≤ v3 then
      some (v2, σ)
    else
      ub (f_X8_cellsIn σ v1 (0 : Int32) v3) fun r1 σ2 =>
      ub (f_J6_bitCount_0f7a4 σ2 r1) fun r3 σ4 =>
      ul (v2 + r3) fun x5 =>
      ul (v3 + 1) fun x6 =>
      f_X8_sizeInCells_4 fuel σ4 v1 x5 x6
def f_X8_sizeInCells (σ : St) (v1 : Int32) : Option (Int32 × St) :=
  f_X8_sizeInCells_4 fu σ v1 0 0
set_option maxHeartbeats 4000000 in
set_option maxRecDepth 100000 in
theorem w_X8_sizeInCells_4 {p : Program} {l : Launch} {e : Env} {s : State} {m : MethodId} {args : Array Value} {below : List Frame} {meth : Method} {c : Code} {D : va_G} {ad : Nat → Nat} {cs : Nat → ClassId} (C : uC p { frames := 1, cells := 0, slots := 0, locals := 24 } s m args c cX8_sizeInCells 4 wsX8_sizeInCells RX8 D vwCl (tyX cs) 99 ad (uAd 99 ad s.heap.size) 0 0) (hr : meth.sig.returnType = (some .int)) (hlk : meth.locks = false) {r : Int32} {σ' : St} :
    ∀ (n : Nat) (σ : St) (v1 : Int32) (v2 : Int32) (v3 : Int32), f_X8_sizeInCells_4 n σ v1 v2 v3 = some (r, σ') → ∀ (H : Heap) (locs : List Loc) (ls : Array Slot), uG D vwCl 99 ad (enX ad cs) (uAd 99 ad s.heap.size) s σ H locs → lv_has ls 4 [(0, .ref (ad 8)), (1, .int v1), (2, .int v2), (3, .int v3)] → W p l e { frames := 1, cells := 0, slots := 0, locals := 24 } s m args below meth c H locs 0 0 (MQ below (uQi D vwCl 99 ad (enX ad cs) r σ' s.heap.size) args s 0 0 (uAd 99 ad s.heap.size)) (F0 m 4 ls []) := by
  have hx := C.1.1
  have hb := C.1.2.1
  intro n
  induction n with
  | zero => intro σ v1 v2 v3  h; exact absurd h (by simp [f_X8_sizeInCells_4])
  | succ fuel ih =>
    intro σ v1 v2 v3  h H locs ls G hl
    rw [f_X8_sizeInCells_4] at h
    refine lv_iload_n hx hb dX8_sizeInCells_4 rfl (lv_at hl 3 rfl) ?_
    refine lv_bipush (v := 8) hx hb dX8_sizeInCells_5 (by decide) ?_
    refine lv_icmp_ge (tgt := 29) hx hb dX8_sizeInCells_7 (by decide) (fun q => ?_) (fun q => ?_)
    · have h := u_pos q h
      refine lv_iload_n hx hb dX8_sizeInCells_29 rfl (lv_at hl 2 rfl) ?_
      obtain ⟨rfl, rfl⟩ := u_end h
      exact u_iret hx hb hr hlk G dX8_sizeInCells_30
    · have h := u_neg q h
      refine lv_iload_n hx hb dX8_sizeInCells_10 rfl (lv_at hl 2 rfl) ?_
      refine lv_aload_n hx hb dX8_sizeInCells_11 rfl (lv_at hl 0 rfl) ?_
      refine lv_iload_n hx hb dX8_sizeInCells_12 rfl (lv_at hl 1 rfl) ?_
      refine lv_iconst (v := 0) hx hb dX8_sizeInCells_13 (by decide) ?_
      refine lv_iload_n hx hb dX8_sizeInCells_14 rfl (lv_at hl 3 rfl) ?_
      obtain ⟨r1, σ2, er1, h⟩ := ub_of h
      refine u_callVi (As := [.int v1, .int 0, .int v3]) (rest := [.int v2]) C G (c_X8_cellsIn l D ad cs C.2.2.1 σ v1 (0 : Int32) v3 r1 σ2 er1) (cwV 3 C.1.2.2.2.2 gX8_sizeInCells_X8_cellsIn rfl rfl rfl (by decide +kernel) ⟨Nat.le_of_ble_eq_true rfl, Nat.le_of_ble_eq_true rfl⟩) obX_8 (ci := 8) (T := TX8) rfl rfl hl rfl (Nat.le_of_ble_eq_true rfl) dX8_sizeInCells_15 (fun H locs G => ?_)
      obtain ⟨r3, σ4, er3, h⟩ := ub_of h
      refine u_callSi (As := [.int r1]) (rest := [.int v2]) C G (c_J6_bitCount_0f7a4 l D ad cs C.2.2.1 σ2 r1 r3 σ4 er3) (va_cwS 1 C.1.2.2.2.2 gX8_sizeInCells_J6_bitCount_0f7a4 rfl rfl rfl (by decide +kernel) ⟨Nat.le_of_ble_eq_true rfl, Nat.le_of_ble_eq_true rfl⟩) rfl hl rfl (Nat.le_of_ble_eq_true rfl) dX8_sizeInCells_18 (fun H locs G => ?_)
      refine lv_iadd hx hb dX8_sizeInCells_21 ?_
      obtain ⟨x5, ex5, h⟩ := ul_of h
      refine u_nmi ex5 ?_
      refine lv_istore_n (lv' := [(2, .int x5), (0, .ref (ad 8)), (1, .int v1), (3, .int v3)]) hx hb dX8_sizeInCells_22 rfl hl (by decide) rfl (fun ls hl => ?_)
      obtain ⟨x6, ex6, h⟩ := ul_of h
      refine lv_iinc (v := x6) (lv' := [(3, .int x6), (2, .int x5), (0, .ref (ad 8)), (1, .int v1)]) hx hb dX8_sizeInCells_23 hl (k := 3) rfl (by rw [ex6]; rfl) (by decide) rfl (fun ls hl => ?_)
      refine lv_goto (tgt := 4) hx hb dX8_sizeInCells_26 (by decide) ?_
      exact ih σ4 v1 x5 x6 h H locs ls G (lv_sub hl [2, 3, 1, 0] rfl)
set_option maxHeartbeats 4000000 in
set_option maxRecDepth 100000 in
theorem c_X8_sizeInCells (l : Launch) (D : va_G) (ad : Nat → Nat) (cs : Nat → ClassId) (J : uJ 99 ad) (σ : St) (v1 : Int32) (r : Int32) (σ' : St) (h : f_X8_sizeInCells σ v1 = some (r, σ')) : uMi l yX8_sizeInCells wsX8_sizeInCells { frames := 1, cells := 0, slots := 0, locals := 24 } D vwCl (tyX cs) 99 ad (enX ad cs) [.ref (ad 8), .int v1] σ r σ' := by
  refine u_met (Qf := uQi D vwCl 99 ad (enX ad cs) r σ') (cc := cX8_sizeInCells) (maxL := 4) (ret := (some .int)) (lv := [(0, .ref (ad 8)), (1, .int v1)]) J (by decide) rfl (Nat.le_of_ble_eq_true rfl) rfl rfl rfl ?_
  intro p e s m args below meth c ls hx hb C hr hlk G hl
  unfold f_X8_sizeInCells at h
  obtain ⟨H, eH⟩ : ∃ H, H = s.heap := ⟨_, rfl⟩
  obtain ⟨locs, eL⟩ : ∃ locs : List Loc, locs = [] := ⟨_, rfl⟩
  refine u_start eH eL G ?_
  clear G eH eL
  intro G
  refine lv_iconst (v := 0) hx hb dX8_sizeInCells_0 (by decide) ?_
  refine lv_istore_n (lv' := [(2, .int 0), (0, .ref (ad 8)), (1, .int v1)]) hx hb dX8_sizeInCells_1 rfl hl (by decide) rfl (fun ls hl => ?_)
  refine lv_iconst (v := 0) hx hb dX8_sizeInCells_2 (by decide) ?_
  refine lv_istore_n (lv' := [(3, .int 0), (2, .int 0), (0, .ref (ad 8)), (1, .int v1)]) hx hb dX8_sizeInCells_3 rfl hl (by decide) rfl (fun ls hl => ?_)
  exact w_X8_sizeInCells_4 C hr hlk fu σ v1 0 0 h H locs ls G (lv_sub hl [2, 3, 1, 0] rfl)
/-! X8_factOf -/
def f_X8_factOf (σ : St) (v1 : Int32) (v2 : Int32) : Option (Int32 × St) :=
  if v2 = 0 then
    ui v1 16 <|
    some ((σ 12 v1.toNatClampNeg), σ)
  else
    if v2 = 1 then
      ui v1 16 <|
      some ((σ 11 v1.toNatClampNeg), σ)
    else
      if v2 = 2 then
        ub (f_X8_sizeInCells σ v1) fun r3 σ4 =>
        some (r3, σ4)
      else
        if v2 = 3 then
          ui v1 16 <|
          some ((σ 15 v1.toNatClampNeg), σ)
        else
          if v2 = 4 then
            ui v1 16 <|
            some ((σ 16 v1.toNatClampNeg), σ)
          else
            ui v1 16 <|
            some ((σ 14 v1.toNatClampNeg), σ)
theorem fi_X8_factOf_8 : ∀ w ∈ u_ws RX8 TX8 10, w ∈ wsX8_factOf := by decide +kernel
set_option maxHeartbeats 4000000 in
set_option maxRecDepth 100000 in
theorem c_X8_factOf (l : Launch) (D : va_G) (ad : Nat → Nat) (cs : Nat → ClassId) (J : uJ 99 ad) (σ : St) (v1 : Int32) (v2 : Int32) (r : Int32) (σ' : St) (h : f_X8_factOf σ v1 v2 = some (r, σ')) : uMi l yX8_factOf wsX8_factOf { frames := 2, cells := 0, slots := 0, locals := 47 } D vwCl (tyX cs) 99 ad (enX ad cs) [.ref (ad 8), .int v1, .int v2] σ r σ' := by
  refine u_met (Qf := uQi D vwCl 99 ad (enX ad cs) r σ') (cc := cX8_factOf) (maxL := 3) (ret := (some .int)) (lv := [(0, .ref (ad 8)), (1, .int v1), (2, .int v2)]) J (by decide) rfl (Nat.le_of_ble_eq_true rfl) rfl rfl rfl ?_
  intro p e s m args below meth c ls hx hb C hr hlk G hl
  unfold f_X8_factOf at h
  obtain ⟨H, eH⟩ : ∃ H, H = s.heap := ⟨_, rfl⟩
  obtain ⟨locs, eL⟩ : ∃ locs : List Loc, locs = [] := ⟨_, rfl⟩
  refine u_start eH eL G ?_
  clear G eH eL
  intro G
  refine lv_iload_n hx hb dX8_factOf_0 rfl (lv_at hl 2 rfl) ?_
  by_cases q0 : v2 = 0
  · have h := u_pos q0 h
    refine lv_tableIn (off := 35) (tgt := 36) hx hb dX8_factOf_1 (by rw [q0]; decide) (by rw [q0]; decide) (by rw [q0]; decide) (by decide) ?_
    refine lv_aload_n hx hb dX8_factOf_36 rfl (lv_at hl 0 rfl) ?_
    refine u_get (v := .ref (ad 12)) C G obX_8 (ci := 8) (N := 10) (Cn := RX8) (T := TX8) rfl fi_X8_factOf_8 3 (by decide) (by decide +kernel) rfl dX8_factOf_37 ?_
    refine lv_iload_n hx hb dX8_factOf_40 rfl (lv_at hl 1 rfl) ?_
    obtain ⟨g1, h⟩ := ui_of h
    refine u_iald C G arX_12 (t0 := 0) rfl g1 dX8_factOf_41 ?_
    obtain ⟨rfl, rfl⟩ := u_end h
    exact u_iret hx hb hr hlk G dX8_factOf_42
  · have h := u_neg q0 h
    by_cases q1 : v2 = 1
    · have h := u_pos q1 h
      refine lv_tableIn (off := 42) (tgt := 43) hx hb dX8_factOf_1 (by rw [q1]; decide) (by rw [q1]; decide) (by rw [q1]; decide) (by decide) ?_
      refine lv_aload_n hx hb dX8_factOf_43 rfl (lv_at hl 0 rfl) ?_
      refine u_get (v := .ref (ad 11)) C G obX_8 (ci := 8) (N := 10) (Cn := RX8) (T := TX8) rfl fi_X8_factOf_8 2 (by decide) (by decide +kernel) rfl dX8_factOf_44 ?_
      refine lv_iload_n hx hb dX8_factOf_47 rfl (lv_at hl 1 rfl) ?_
      obtain ⟨g2, h⟩ := ui_of h
      refine u_iald C G arX_11 (t0 := 0) rfl g2 dX8_factOf_48 ?_
      obtain ⟨rfl, rfl⟩ := u_end h
      exact u_iret hx hb hr hlk G dX8_factOf_49
    · have h := u_neg q1 h
      by_cases q2 : v2 = 2
      · have h := u_pos q2 h
        refine lv_tableIn (off := 49) (tgt := 50) hx hb dX8_factOf_1 (by rw [q2]; decide) (by rw [q2]; decide) (by rw [q2]; decide) (by decide) ?_
        refine lv_aload_n hx hb dX8_factOf_50 rfl (lv_at hl 0 rfl) ?_
        refine lv_iload_n hx hb dX8_factOf_51 rfl (lv_at hl 1 rfl) ?_
        obtain ⟨r3, σ4, er3, h⟩ := ub_of h
        refine u_callVi (As := [.int v1]) (rest := []) C G (c_X8_sizeInCells l D ad cs C.2.2.1 σ v1 r3 σ4 er3) (cwV 1 C.1.2.2.2.2 gX8_factOf_X8_sizeInCells rfl rfl rfl (by decide +kernel) ⟨Nat.le_of_ble_eq_true rfl, Nat.le_of_ble_eq_true rfl⟩) obX_8 (ci := 8) (T := TX8) rfl rfl hl rfl (Nat.le_of_ble_eq_true rfl) dX8_factOf_52 (fun H locs G => ?_)
        obtain ⟨rfl, rfl⟩ := u_end h
        exact u_iret hx hb hr hlk G dX8_factOf_55
      · have h := u_neg q2 h
        by_cases q3 : v2 = 3
        · have h := u_pos q3 h
          refine lv_tableIn (off := 55) (tgt := 56) hx hb dX8_factOf_1 (by rw [q3]; decide) (by rw [q3]; decide) (by rw [q3]; decide) (by decide) ?_
          refine lv_aload_n hx hb dX8_factOf_56 rfl (lv_at hl 0 rfl) ?_
          refine u_get (v := .ref (ad 15)) C G obX_8 (ci := 8) (N := 10) (Cn := RX8) (T := TX8) rfl fi_X8_factOf_8 6 (by decide) (by decide +kernel) rfl dX8_factOf_57 ?_
          refine lv_iload_n hx hb dX8_factOf_60 rfl (lv_at hl 1 rfl) ?_
          obtain ⟨g5, h⟩ := ui_of h
          refine u_iald C G arX_15 (t0 := 0) rfl g5 dX8_factOf_61 ?_
          obtain ⟨rfl, rfl⟩ := u_end h
          exact u_iret hx hb hr hlk G dX8_factOf_62
        · have h := u_neg q3 h
          by_cases q4 : v2 = 4
          · have h := u_pos q4 h
            refine lv_tableIn (off := 62) (tgt := 63) hx hb dX8_factOf_1 (by rw [q4]; decide) (by rw [q4]; decide) (by rw [q4]; decide) (by decide) ?_
            refine lv_aload_n hx hb dX8_factOf_63 rfl (lv_at hl 0 rfl) ?_
            refine u_get (v := .ref (ad 16)) C G obX_8 (ci := 8) (N := 10) (Cn := RX8) (T := TX8) rfl fi_X8_factOf_8 7 (by decide) (by decide +kernel) rfl dX8_factOf_64 ?_
            refine lv_iload_n hx hb dX8_factOf_67 rfl (lv_at hl 1 rfl) ?_
            obtain ⟨g6, h⟩ := ui_of h
            refine u_iald C G arX_16 (t0 := 0) rfl g6 dX8_factOf_68 ?_
            obtain ⟨rfl, rfl⟩ := u_end h
            exact u_iret hx hb hr hlk G dX8_factOf_69
          · have h := u_neg q4 h
            refine lv_tableOut (tgt := 70) hx hb dX8_factOf_1 (by have := (trivial : True); have n0 := lv_neT q0 (a := 0) (by decide); have n1 := lv_neT q1 (a := 1) (by decide); have n2 := lv_neT q2 (a := 2) (by decide); have n3 := lv_neT q3 (a := 3) (by decide); have n4 := lv_neT q4 (a := 4) (by decide); omega) (by decide) ?_
            refine lv_aload_n hx hb dX8_factOf_70 rfl (lv_at hl 0 rfl) ?_
            refine u_get (v := .ref (ad 14)) C G obX_8 (ci := 8) (N := 10) (Cn := RX8) (T := TX8) rfl fi_X8_factOf_8 5 (by decide) (by decide +kernel) rfl dX8_factOf_71 ?_
            refine lv_iload_n hx hb dX8_factOf_74 rfl (lv_at hl 1 rfl) ?_
            obtain ⟨g7, h⟩ := ui_of h
            refine u_iald C G arX_14 (t0 := 0) rfl g7 dX8_factOf_75 ?_
            obtain ⟨rfl, rfl⟩ := u_end h
            exact u_iret hx hb hr hlk G dX8_factOf_76
/-! X8_isOnLine -/
def f_X8_isOnLine (σ : St) (v1 : Int32) (v2 : Int32) : Option (Int32 × St) :=
  if v2 < 0 then
    some ((0 : Int32), σ)
  else
    ui v1 16 <|
    if (10 - (σ 11 v1.toNatClampNeg)) < v2 then
      some ((0 : Int32), σ)
    else
      some ((1 : Int32), σ)
theorem fi_X8_isOnLine_8 : ∀ w ∈ u_ws RX8 TX8 10, w ∈ wsX8_isOnLine := by decide +kernel
set_option maxHeartbeats 4000000 in
set_option maxRecDepth 100000 in
theorem c_X8_isOnLine (l : Launch) (D : va_G) (ad : Nat → Nat) (cs : Nat → ClassId) (J : uJ 99 ad) (σ : St) (v1 : Int32) (v2 : Int32) (r : Int32) (σ' : St) (h : f_X8_isOnLine σ v1 v2 = some (r, σ')) : uMi l yX8_isOnLine wsX8_isOnLine { frames := 0, cells := 0, slots := 0, locals := 0 } D vwCl (tyX cs) 99 ad (enX ad cs) [.ref (ad 8), .int v1, .int v2] σ r σ' := by
  refine u_met (Qf := uQi D vwCl 99 ad (enX ad cs) r σ') (cc := cX8_isOnLine) (maxL := 3) (ret := (some .boolean)) (lv := [(0, .ref (ad 8)), (1, .int v1), (2, .int v2)]) J (by decide) rfl (Nat.le_of_ble_eq_true rfl) rfl rfl rfl ?_
  intro p e s m args below meth c ls hx hb C hr hlk G hl
  unfold f_X8_isOnLine at h
  obtain ⟨H, eH⟩ : ∃ H, H = s.heap := ⟨_, rfl⟩
  obtain ⟨locs, eL⟩ : ∃ locs : List Loc, locs = [] := ⟨_, rfl⟩
  refine u_start eH eL G ?_
  clear G eH eL
  intro G
  refine lv_iload_n hx hb dX8_isOnLine_0 rfl (lv_at hl 2 rfl) ?_
  refine lv_if_lt (tgt := 21) hx hb dX8_isOnLine_1 (by decide) (fun q => ?_) (fun q => ?_)
  · have h := u_pos q h
    refine lv_iconst (v := 0) hx hb dX8_isOnLine_21 (by decide) ?_
    obtain ⟨rfl, rfl⟩ := u_end h
    exact u_zret hx hb hr hlk G (by decide) dX8_isOnLine_22
  · have h := u_neg q h
    refine lv_iload_n hx hb dX8_isOnLine_4 rfl (lv_at hl 2 rfl) ?_
    refine lv_bipush (v := 10) hx hb dX8_isOnLine_5 (by decide) ?_
    refine lv_aload_n hx hb dX8_isOnLine_7 rfl (lv_at hl 0 rfl) ?_
    refine u_get (v := .ref (ad 11)) C G obX_8 (ci := 8) (N := 10) (Cn := RX8) (T := TX8) rfl fi_X8_isOnLine_8 2 (by decide) (by decide +kernel) rfl dX8_isOnLine_8 ?_
    refine lv_iload_n hx hb dX8_isOnLine_11 rfl (lv_at hl 1 rfl) ?_
    obtain ⟨g1, h⟩ := ui_of h
    refine u_iald C G arX_11 (t0 := 0) rfl g1 dX8_isOnLine_12 ?_
    refine lv_isub hx hb dX8_isOnLine_13 ?_
    refine lv_icmp_gt (tgt := 21) hx hb dX8_isOnLine_14 (by decide) (fun q => ?_) (fun q => ?_)
    · have h := u_pos q h
      refine lv_iconst (v := 0) hx hb dX8_isOnLine_21 (by decide) ?_
      obtain ⟨rfl, rfl⟩ := u_end h
      exact u_zret hx hb hr hlk G (by decide) dX8_isOnLine_22
    · have h := u_neg q h
      refine lv_iconst (v := 1) hx hb dX8_isOnLine_17 (by decide) ?_
      refine lv_goto (tgt := 22) hx hb dX8_isOnLine_18 (by decide) ?_
      obtain ⟨rfl, rfl⟩ := u_end h
      exact u_zret hx hb hr hlk G (by decide) dX8_isOnLine_22
/-! X8_digestFrom -/
def f_X8_digestFrom_38 (k5 : St → Int64 → Int32 → Option (Int64 × St)) : Nat → St → Int64 → Int32 → Int32 → Option (Int64 × St)
  | 0, _, _, _, _ => none
  | fuel + 1, σ, v3, v5, v6 =>
    if 5 < v6 then
      ul (v5 + 1) fun x4 =>
      k5 σ v3 x4
    else
      ub (f_X8_factOf σ v5 v6) fun r5 σ6 =>
      ul ((31 * v3) + r5.toInt64) fun x7 =>
      ul (v6 + 1) fun x8 =>
      f_X8_digestFrom_38 k5 fuel σ6 x7 v5 x8
def f_X8_digestFrom_5 : Nat → St → Int64 → Int32 → Option (Int64 × St)
  | 0, _, _, _ => none
  | fuel + 1, σ, v3, v5 =>
    if (σ 8 9) ≤ v5 then
      some (v3, σ)
    else
      ui v5 16 <|
      if (σ 17 v5.toNatClampNeg) = 0 then
        f_X8_digestFrom_38 (f_X8_digestFrom_5 fuel) fu σ v3 v5 0
      else
        ul ((31 * v3) - 1) fun x2 =>
        ul (v5 + 1) fun x3 =>
        f_X8_digestFrom_5 fuel σ x2 x3
def f_X8_digestFrom (σ : St) (v1 : Int64) : Option (Int64 × St) :=
  f_X8_digestFrom_5 fu σ v1 0
theorem fi_X8_digestFrom_8 : ∀ w ∈ u_ws RX8 TX8 10, w ∈ wsX8_digestFrom := by decide +kernel
set_option maxHeartbeats 4000000 in
set_option maxRecDepth 100000 in
theorem w_X8_digestFrom_38 {p : Program} {l : Launch} {e : Env} {s : State} {m : MethodId} {args : Array Value} {below : List Frame} {meth : Method} {c : Code} {D : va_G} {ad : Nat → Nat} {cs : Nat → ClassId} (C : uC p { frames := 3, cells := 0, slots := 0, locals := 69 } s m args c cX8_digestFrom 7 wsX8_digestFrom RX8 D vwCl (tyX cs) 99 ad (uAd 99 ad s.heap.size) 0 0) (hr : meth.sig.returnType = (some .long)) (hlk : meth.locks = false) {r : Int64} {σ' : St} {k5 : St → Int64 → Int32 → Option (Int64 × St)} (hk5 : ∀ (σ : St) (v3 : Int64) (v5 : Int32), k5 σ v3 v5 = some (r, σ') → ∀ (H : Heap) (locs : List Loc) (ls : Array Slot), uG D vwCl 99 ad (enX ad cs) (uAd 99 ad s.heap.size) s σ H locs → lv_has ls 7 [(0, .ref (ad 8)), (3, .long v3), (5, .int v5)] → W p l e { frames := 3, cells := 0, slots := 0, locals := 69 } s m args below meth c H locs 0 0 (MQ below (uQl D vwCl 99 ad (enX ad cs) r σ' s.heap.size) args s 0 0 (uAd 99 ad s.heap.size)) (F0 m 5 ls [])) :
    ∀ (n : Nat) (σ : St) (v3 : Int64) (v5 : Int32) (v6 : Int32), f_X8_digestFrom_38 k5 n σ v3 v5 v6 = some (r, σ') → ∀ (H : Heap) (locs : List Loc) (ls : Array Slot), uG D vwCl 99 ad (enX ad cs) (uAd 99 ad s.heap.size) s σ H locs → lv_has ls 7 [(0, .ref (ad 8)), (3, .long v3), (5, .int v5), (6, .int v6)] → W p l e { frames := 3, cells := 0, slots := 0, locals := 69 } s m args below meth c H locs 0 0 (MQ below (uQl D vwCl 99 ad (enX ad cs) r σ' s.heap.size) args s 0 0 (uAd 99 ad s.heap.size)) (F0 m 38 ls []) := by
  have hx := C.1.1
  have hb := C.1.2.1
  intro n
  induction n with
  | zero => intro σ v3 v5 v6  h; exact absurd h (by simp [f_X8_digestFrom_38])
  | succ fuel ih =>
    intro σ v3 v5 v6  h H locs ls G hl
    rw [f_X8_digestFrom_38] at h
    refine lv_iload hx hb dX8_digestFrom_38 (lv_at hl 3 rfl) ?_
    refine lv_iconst (v := 5) hx hb dX8_digestFrom_40 (by decide) ?_
    refine lv_icmp_gt (tgt := 66) hx hb dX8_digestFrom_41 (by decide) (fun q => ?_) (fun q => ?_)
    · have h := u_pos q h
      obtain ⟨x4, ex4, h⟩ := ul_of h
      refine lv_iinc (v := x4) (lv' := [(5, .int x4), (0, .ref (ad 8)), (3, .long v3), (6, .int v6)]) hx hb dX8_digestFrom_66 hl (k := 2) rfl (by rw [ex4]; rfl) (by decide) rfl (fun ls hl => ?_)
      refine lv_goto (tgt := 5) hx hb dX8_digestFrom_69 (by decide) ?_
      exact hk5 σ v3 x4 h H locs ls G (lv_sub hl [1, 2, 0] rfl)
    · have h := u_neg q h
      refine lv_ldc2 (v := 31) hx hb C.1.2.2.2.1 (C.1.2.2.2.2 (.constantLong RX8 70 31) (by decide +kernel)) dX8_digestFrom_44 ?_
      refine lv_lload_n hx hb dX8_digestFrom_47 rfl (lv_at hl 1 rfl) ?_
      refine lv_lmul hx hb dX8_digestFrom_48 ?_
      refine lv_aload_n hx hb dX8_digestFrom_49 rfl (lv_at hl 0 rfl) ?_
      refine lv_iload hx hb dX8_digestFrom_50 (lv_at hl 2 rfl) ?_
      refine lv_iload hx hb dX8_digestFrom_52 (lv_at hl 3 rfl) ?_
      obtain ⟨r5, σ6, er5, h⟩ := ub_of h
      refine u_callVi (As := [.int v5, .int v6]) (rest := [.long (31 * v3)]) C G (c_X8_factOf l D ad cs C.2.2.1 σ v5 v6 r5 σ6 er5) (cwV 2 C.1.2.2.2.2 gX8_digestFrom_X8_factOf rfl rfl rfl (by decide +kernel) ⟨Nat.le_of_ble_eq_true rfl, Nat.le_of_ble_eq_true rfl⟩) obX_8 (ci := 8) (T := TX8) rfl rfl hl rfl (Nat.le_of_ble_eq_true rfl) dX8_digestFrom_54 (fun H locs G => ?_)
      refine lv_i2l hx hb dX8_digestFrom_57 rfl ?_
      refine lv_ladd hx hb dX8_digestFrom_58 ?_
      obtain ⟨x7, ex7, h⟩ := ul_of h
      refine u_nml ex7 ?_
      refine lv_lstore_n (lv' := [(3, .long x7), (0, .ref (ad 8)), (5, .int v5), (6, .int v6)]) hx hb dX8_digestFrom_59 rfl hl (by decide) rfl (fun ls hl => ?_)
      obtain ⟨x8, ex8, h⟩ := ul_of h
      refine lv_iinc (v := x8) (lv' := [(6, .int x8), (3, .long x7), (0, .ref (ad 8)), (5, .int v5)]) hx hb dX8_digestFrom_60 hl (k := 3) rfl (by rw [ex8]; rfl) (by decide) rfl (fun ls hl => ?_)
      refine lv_goto (tgt := 38) hx hb dX8_digestFrom_63 (by decide) ?_
      exact ih σ6 x7 v5 x8 h H locs ls G (lv_sub hl [2, 1, 3, 0] rfl)
set_option maxHeartbeats 4000000 in
set_option maxRecDepth 100000 in
theorem w_X8_digestFrom_5 {p : Program} {l : Launch} {e : Env} {s : State} {m : MethodId} {args : Array Value} {below : List Frame} {meth : Method} {c : Code} {D : va_G} {ad : Nat → Nat} {cs : Nat → ClassId} (C : uC p { frames := 3, cells := 0, slots := 0, locals := 69 } s m args c cX8_digestFrom 7 wsX8_digestFrom RX8 D vwCl (tyX cs) 99 ad (uAd 99 ad s.heap.size) 0 0) (hr : meth.sig.returnType = (some .long)) (hlk : meth.locks = false) {r : Int64} {σ' : St} :
    ∀ (n : Nat) (σ : St) (v3 : Int64) (v5 : Int32), f_X8_digestFrom_5 n σ v3 v5 = some (r, σ') → ∀ (H : Heap) (locs : List Loc) (ls : Array Slot), uG D vwCl 99 ad (enX ad cs) (uAd 99 ad s.heap.size) s σ H locs → lv_has ls 7 [(0, .ref (ad 8)), (3, .long v3), (5, .int v5)] → W p l e { frames := 3, cells := 0, slots := 0, locals := 69 } s m args below meth c H locs 0 0 (MQ below (uQl D vwCl 99 ad (enX ad cs) r σ' s.heap.size) args s 0 0 (uAd 99 ad s.heap.size)) (F0 m 5 ls []) := by
  have hx := C.1.1
  have hb := C.1.2.1
  intro n
  induction n with
  | zero => intro σ v3 v5  h; exact absurd h (by simp [f_X8_digestFrom_5])
  | succ fuel ih =>
    intro σ v3 v5  h H locs ls G hl
    rw [f_X8_digestFrom_5] at h
    refine lv_iload hx hb dX8_digestFrom_5 (lv_at hl 2 rfl) ?_
    refine lv_aload_n hx hb dX8_digestFrom_7 rfl (lv_at hl 0 rfl) ?_
    refine u_get (v := .int (σ 8 9)) C G obX_8 (ci := 8) (N := 10) (Cn := RX8) (T := TX8) rfl fi_X8_digestFrom_8 9 (by decide) (by decide +kernel) rfl dX8_digestFrom_8 ?_
    refine lv_icmp_ge (tgt := 72) hx hb dX8_digestFrom_11 (by decide) (fun q => ?_) (fun q => ?_)
    · have h := u_pos q h
      refine lv_lload_n hx hb dX8_digestFrom_72 rfl (lv_at hl 1 rfl) ?_
      obtain ⟨rfl, rfl⟩ := u_end h
      exact u_lret hx hb hr hlk G dX8_digestFrom_73
    · have h := u_neg q h
      refine lv_aload_n hx hb dX8_digestFrom_14 rfl (lv_at hl 0 rfl) ?_
      refine u_get (v := .ref (ad 17)) C G obX_8 (ci := 8) (N := 10) (Cn := RX8) (T := TX8) rfl fi_X8_digestFrom_8 8 (by decide) (by decide +kernel) rfl dX8_digestFrom_15 ?_
      refine lv_iload hx hb dX8_digestFrom_18 (lv_at hl 2 rfl) ?_
      obtain ⟨g1, h⟩ := ui_of h
      refine u_zald C G arX_17 (t0 := 2) rfl g1 dX8_digestFrom_20 ?_
      refine lv_if_eq (tgt := 35) hx hb dX8_digestFrom_21 (by decide) (fun q => ?_) (fun q => ?_)
      · have h := u_pos q h
        refine lv_iconst (v := 0) hx hb dX8_digestFrom_35 (by decide) ?_
        refine lv_istore (lv' := [(6, .int 0), (0, .ref (ad 8)), (3, .long v3), (5, .int v5)]) hx hb dX8_digestFrom_36 hl (by decide) rfl (fun ls hl => ?_)
        exact w_X8_digestFrom_38 C hr hlk ih fu σ v3 v5 0 h H locs ls G (lv_sub hl [1, 2, 3, 0] rfl)
      · have h := u_neg q h
        refine lv_ldc2 (v := 31) hx hb C.1.2.2.2.1 (C.1.2.2.2.2 (.constantLong RX8 70 31) (by decide +kernel)) dX8_digestFrom_24 ?_
        refine lv_lload_n hx hb dX8_digestFrom_27 rfl (lv_at hl 1 rfl) ?_
        refine lv_lmul hx hb dX8_digestFrom_28 ?_
        refine lv_lconst (v := 1) hx hb dX8_digestFrom_29 (by decide) ?_
        refine lv_lsub hx hb dX8_digestFrom_30 ?_
        obtain ⟨x2, ex2, h⟩ := ul_of h
        refine u_nml ex2 ?_
        refine lv_lstore_n (lv' := [(3, .long x2), (0, .ref (ad 8)), (5, .int v5)]) hx hb dX8_digestFrom_31 rfl hl (by decide) rfl (fun ls hl => ?_)
        refine lv_goto (tgt := 66) hx hb dX8_digestFrom_32 (by decide) ?_
        obtain ⟨x3, ex3, h⟩ := ul_of h
        refine lv_iinc (v := x3) (lv' := [(5, .int x3), (3, .long x2), (0, .ref (ad 8))]) hx hb dX8_digestFrom_66 hl (k := 2) rfl (by rw [ex3]; rfl) (by decide) rfl (fun ls hl => ?_)
        refine lv_goto (tgt := 5) hx hb dX8_digestFrom_69 (by decide) ?_
        exact ih σ x2 x3 h H locs ls G (lv_sub hl [2, 1, 0] rfl)
set_option maxHeartbeats 4000000 in
set_option maxRecDepth 100000 in
theorem c_X8_digestFrom (l : Launch) (D : va_G) (ad : Nat → Nat) (cs : Nat → ClassId) (J : uJ 99 ad) (σ : St) (v1 : Int64) (r : Int64) (σ' : St) (h : f_X8_digestFrom σ v1 = some (r, σ')) : uMl l yX8_digestFrom wsX8_digestFrom { frames := 3, cells := 0, slots := 0, locals := 69 } D vwCl (tyX cs) 99 ad (enX ad cs) [.ref (ad 8), .long v1] σ r σ' := by
  refine u_met (Qf := uQl D vwCl 99 ad (enX ad cs) r σ') (cc := cX8_digestFrom) (maxL := 7) (ret := (some .long)) (lv := [(0, .ref (ad 8)), (1, .long v1)]) J (by decide) rfl (Nat.le_of_ble_eq_true rfl) rfl rfl rfl ?_
  intro p e s m args below meth c ls hx hb C hr hlk G hl
  unfold f_X8_digestFrom at h
  obtain ⟨H, eH⟩ : ∃ H, H = s.heap := ⟨_, rfl⟩
  obtain ⟨locs, eL⟩ : ∃ locs : List Loc, locs = [] := ⟨_, rfl⟩
  refine u_start eH eL G ?_
  clear G eH eL
  intro G
  refine lv_lload_n hx hb dX8_digestFrom_0 rfl (lv_at hl 1 rfl) ?_
  refine lv_lstore_n (lv' := [(3, .long v1), (0, .ref (ad 8)), (1, .long v1)]) hx hb dX8_digestFrom_1 rfl hl (by decide) rfl (fun ls hl => ?_)
  refine lv_iconst (v := 0) hx hb dX8_digestFrom_2 (by decide) ?_
  refine lv_istore (lv' := [(5, .int 0), (3, .long v1), (0, .ref (ad 8)), (1, .long v1)]) hx hb dX8_digestFrom_3 hl (by decide) rfl (fun ls hl => ?_)
  exact w_X8_digestFrom_5 C hr hlk fu σ v1 0 h H locs ls G (lv_sub hl [2, 1, 0] rfl)
