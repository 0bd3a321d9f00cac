/-! X0_isFull -/
def f_X0_isFull (σ : St) : Option (Int32 × St) :=
  if (σ 80 2) < 12 then
    some ((0 : Int32), σ)
  else
    some ((1 : Int32), σ)
theorem fi_X0_isFull_0 : ∀ w ∈ u_ws RX0 TX0 3, w ∈ wsX0_isFull := by decide +kernel
set_option maxHeartbeats 4000000 in
set_option maxRecDepth 100000 in
theorem c_X0_isFull (l : Launch) (D : va_G) (ad : Nat → Nat) (cs : Nat → ClassId) (J : uJ 99 ad) (σ : St) (r : Int32) (σ' : St) (h : f_X0_isFull σ = some (r, σ')) : uMi l yX0_isFull wsX0_isFull { frames := 0, cells := 0, slots := 0, locals := 0 } D vwCl (tyX cs) 99 ad (enX ad cs) [.ref (ad 80)] σ r σ' := by
  refine u_met (Qf := uQi D vwCl 99 ad (enX ad cs) r σ') (cc := cX0_isFull) (maxL := 1) (ret := (some .boolean)) (lv := [(0, .ref (ad 80))]) J (by decide) rfl (Nat.le_of_ble_eq_true rfl) rfl rfl rfl ?_
  intro p e s m args below meth c ls hx hb C hr hlk G hl
  unfold f_X0_isFull at h
  obtain ⟨H, eH⟩ : ∃ H, H = s.heap := ⟨_, rfl⟩
  obtain ⟨locs, eL⟩ : ∃ locs : List Loc, locs = [] := ⟨_, rfl⟩
  refine u_start eH eL G ?_
  clear G eH eL
  intro G
  refine lv_aload_n hx hb dX0_isFull_0 rfl (lv_at hl 0 rfl) ?_
  refine u_get (v := .int (σ 80 2)) C G obX_80 (ci := 0) (N := 3) (Cn := RX0) (T := TX0) rfl fi_X0_isFull_0 2 (by decide) (by decide +kernel) rfl dX0_isFull_1 ?_
  refine lv_bipush (v := 12) hx hb dX0_isFull_4 (by decide) ?_
  refine lv_icmp_lt (tgt := 13) hx hb dX0_isFull_6 (by decide) (fun q => ?_) (fun q => ?_)
  · have h := u_pos q h
    refine lv_iconst (v := 0) hx hb dX0_isFull_13 (by decide) ?_
    obtain ⟨rfl, rfl⟩ := u_end h
    exact u_zret hx hb hr hlk G (by decide) dX0_isFull_14
  · have h := u_neg q h
    refine lv_iconst (v := 1) hx hb dX0_isFull_9 (by decide) ?_
    refine lv_goto (tgt := 14) hx hb dX0_isFull_10 (by decide) ?_
    obtain ⟨rfl, rfl⟩ := u_end h
    exact u_zret hx hb hr hlk G (by decide) dX0_isFull_14
/-! X0_add -/
def f_X0_add (σ : St) (v1 : Int32) (v2 : Int32) : Option (Unit × St) :=
  ui (σ 80 2) 12 <|
  ul (us σ 81 (σ 80 2).toNatClampNeg v1) fun σ2 =>
  ui (σ2 80 2) 12 <|
  ul (us σ2 82 (σ2 80 2).toNatClampNeg v2) fun σ4 =>
  ul (us σ4 80 2 ((σ4 80 2) + 1)) fun σ5 =>
  some ((), σ5)
theorem fi_X0_add_0 : ∀ w ∈ u_ws RX0 TX0 3, w ∈ wsX0_add := by decide +kernel
set_option maxHeartbeats 4000000 in
set_option maxRecDepth 100000 in
theorem c_X0_add (l : Launch) (D : va_G) (ad : Nat → Nat) (cs : Nat → ClassId) (J : uJ 99 ad) (σ : St) (v1 : Int32) (v2 : Int32) (r : Unit) (σ' : St) (h : f_X0_add σ v1 v2 = some (r, σ')) : uMv l yX0_add wsX0_add { frames := 0, cells := 0, slots := 0, locals := 0 } D vwCl (tyX cs) 99 ad (enX ad cs) [.ref (ad 80), .int v1, .int v2] σ σ' := by
  refine u_met (Qf := uQv D vwCl 99 ad (enX ad cs) σ') (cc := cX0_add) (maxL := 3) (ret := none) (lv := [(0, .ref (ad 80)), (1, .int v1), (2, .int v2)]) J (by decide) rfl (Nat.le_of_ble_eq_true rfl) rfl rfl rfl ?_
  intro p e s m args below meth c ls hx hb C hr hlk G hl
  unfold f_X0_add at h
  obtain ⟨H, eH⟩ : ∃ H, H = s.heap := ⟨_, rfl⟩
  obtain ⟨locs, eL⟩ : ∃ locs : List Loc, locs = [] := ⟨_, rfl⟩
  refine u_start eH eL G ?_
  clear G eH eL
  intro G
  refine lv_aload_n hx hb dX0_add_0 rfl (lv_at hl 0 rfl) ?_
  refine u_get (v := .ref (ad 81)) C G obX_80 (ci := 0) (N := 3) (Cn := RX0) (T := TX0) rfl fi_X0_add_0 0 (by decide) (by decide +kernel) rfl dX0_add_1 ?_
  refine lv_aload_n hx hb dX0_add_4 rfl (lv_at hl 0 rfl) ?_
  refine u_get (v := .int (σ 80 2)) C G obX_80 (ci := 0) (N := 3) (Cn := RX0) (T := TX0) rfl fi_X0_add_0 2 (by decide) (by decide +kernel) rfl dX0_add_5 ?_
  refine lv_iload_n hx hb dX0_add_8 rfl (lv_at hl 1 rfl) ?_
  obtain ⟨g1, h⟩ := ui_of h
  refine u_iast C G arX_81 (t0 := 0) rfl g1 dX0_add_9 (fun H locs G => ?_)
  obtain ⟨σ2, eσ2, h⟩ := ul_of h
  replace G := uG_eq eσ2 G
  refine lv_aload_n hx hb dX0_add_10 rfl (lv_at hl 0 rfl) ?_
  refine u_get (v := .ref (ad 82)) C G obX_80 (ci := 0) (N := 3) (Cn := RX0) (T := TX0) rfl fi_X0_add_0 1 (by decide) (by decide +kernel) rfl dX0_add_11 ?_
  refine lv_aload_n hx hb dX0_add_14 rfl (lv_at hl 0 rfl) ?_
  refine u_get (v := .int (σ2 80 2)) C G obX_80 (ci := 0) (N := 3) (Cn := RX0) (T := TX0) rfl fi_X0_add_0 2 (by decide) (by decide +kernel) rfl dX0_add_15 ?_
  refine lv_iload_n hx hb dX0_add_18 rfl (lv_at hl 2 rfl) ?_
  obtain ⟨g3, h⟩ := ui_of h
  refine u_iast C G arX_82 (t0 := 0) rfl g3 dX0_add_19 (fun H locs G => ?_)
  obtain ⟨σ4, eσ4, h⟩ := ul_of h
  replace G := uG_eq eσ4 G
  refine lv_aload_n hx hb dX0_add_20 rfl (lv_at hl 0 rfl) ?_
  refine lv_dup hx hb dX0_add_21 rfl ?_
  refine u_get (v := .int (σ4 80 2)) C G obX_80 (ci := 0) (N := 3) (Cn := RX0) (T := TX0) rfl fi_X0_add_0 2 (by decide) (by decide +kernel) rfl dX0_add_22 ?_
  refine lv_iconst (v := 1) hx hb dX0_add_25 (by decide) ?_
  refine lv_iadd hx hb dX0_add_26 ?_
  refine u_put (x := ((σ4 80 2) + 1)) (ty := .int) C G obX_80 (ci := 0) (N := 3) (Cn := RX0) (T := TX0) rfl fi_X0_add_0 tyX0 tyX0_ok nmX0 2 (by decide) (by decide +kernel) rfl (by decide +kernel) rfl rfl (fun f => by simp) (fun f => rfl) dX0_add_27 (fun H locs G => ?_)
  obtain ⟨σ5, eσ5, h⟩ := ul_of h
  replace G := uG_eq eσ5 G
  obtain ⟨-, rfl⟩ := u_end h
  exact u_vret hx hb hr hlk G dX0_add_30
/-! X0_timesRead -/
def f_X0_timesRead_5 : Nat → St → Int32 → Int32 → Int32 → Int32 → Option (Int32 × St)
  | 0, _, _, _, _, _ => none
  | fuel + 1, σ, v1, v2, v3, v4 =>
    if (σ 80 2) ≤ v4 then
      some (v3, σ)
    else
      ui v4 12 <|
      if (σ 81 v4.toNatClampNeg) = v1 then
        ui v4 12 <|
        if (σ 82 v4.toNatClampNeg) = v2 then
          ul (v3 + 1) fun x5 =>
          ul (v4 + 1) fun x6 =>
          f_X0_timesRead_5 fuel σ v1 v2 x5 x6
        else
          ul (v4 + 1) fun x4 =>
          f_X0_timesRead_5 fuel σ v1 v2 v3 x4
      else
        ul (v4 + 1) fun x2 =>
        f_X0_timesRead_5 fuel σ v1 v2 v3 x2
def f_X0_timesRead (σ : St) (v1 : Int32) (v2 : Int32) : Option (Int32 × St) :=
  f_X0_timesRead_5 fu σ v1 v2 0 0
theorem fi_X0_timesRead_0 : ∀ w ∈ u_ws RX0 TX0 3, w ∈ wsX0_timesRead := by decide +kernel
set_option maxHeartbeats 4000000 in
set_option maxRecDepth 100000 in
theorem w_X0_timesRead_5 {p : Program} {l : Launch} {e : Env} {s : State} {m : MethodId} {args : Array Value} {below : List Frame} {meth : Method} {c : Code} {D : va_G} {ad : Nat → Nat} {cs : Nat → ClassId} (C : uC p { frames := 0, cells := 0, slots := 0, locals := 0 } s m args c cX0_timesRead 5 wsX0_timesRead RX0 D vwCl (tyX cs) 99 ad (uAd 99 ad s.heap.size) 0 0) (hr : meth.sig.returnType = (some .int)) (hlk : meth.locks = false) {r : Int32} {σ' : St} :
    ∀ (n : Nat) (σ : St) (v1 : Int32) (v2 : Int32) (v3 : Int32) (v4 : Int32), f_X0_timesRead_5 n σ v1 v2 v3 v4 = some (r, σ') → ∀ (H : Heap) (locs : List Loc) (ls : Array Slot), uG D vwCl 99 ad (enX ad cs) (uAd 99 ad s.heap.size) s σ H locs → lv_has ls 5 [(0, .ref (ad 80)), (1, .int v1), (2, .int v2), (3, .int v3), (4, .int v4)] → W p l e { frames := 0, cells := 0, slots := 0, locals := 0 } s m args below meth c H locs 0 0 (MQ below (uQi D vwCl 99 ad (enX ad cs) r σ' s.heap.size) args s 0 0 (uAd 99 ad s.heap.size)) (F0 m 5 ls []) := by
  have hx := C.1.1
  have hb := C.1.2.1
  intro n
  induction n with
  | zero => intro σ v1 v2 v3 v4  h; exact absurd h (by simp [f_X0_timesRead_5])
  | succ fuel ih =>
    intro σ v1 v2 v3 v4  h H locs ls G hl
    rw [f_X0_timesRead_5] at h
    refine lv_iload hx hb dX0_timesRead_5 (lv_at hl 4 rfl) ?_
    refine lv_aload_n hx hb dX0_timesRead_7 rfl (lv_at hl 0 rfl) ?_
    refine u_get (v := .int (σ 80 2)) C G obX_80 (ci := 0) (N := 3) (Cn := RX0) (T := TX0) rfl fi_X0_timesRead_0 2 (by decide) (by decide +kernel) rfl dX0_timesRead_8 ?_
    refine lv_icmp_ge (tgt := 45) hx hb dX0_timesRead_11 (by decide) (fun q => ?_) (fun q => ?_)
    · have h := u_pos q h
      refine lv_iload_n hx hb dX0_timesRead_45 rfl (lv_at hl 3 rfl) ?_
      obtain ⟨rfl, rfl⟩ := u_end h
      exact u_iret hx hb hr hlk G dX0_timesRead_46
    · have h := u_neg q h
      refine lv_aload_n hx hb dX0_timesRead_14 rfl (lv_at hl 0 rfl) ?_
      refine u_get (v := .ref (ad 81)) C G obX_80 (ci := 0) (N := 3) (Cn := RX0) (T := TX0) rfl fi_X0_timesRead_0 0 (by decide) (by decide +kernel) rfl dX0_timesRead_15 ?_
      refine lv_iload hx hb dX0_timesRead_18 (lv_at hl 4 rfl) ?_
      obtain ⟨g1, h⟩ := ui_of h
      refine u_iald C G arX_81 (t0 := 0) rfl g1 dX0_timesRead_20 ?_
      refine lv_iload_n hx hb dX0_timesRead_21 rfl (lv_at hl 1 rfl) ?_
      refine lv_icmp_ne (tgt := 39) hx hb dX0_timesRead_22 (by decide) (fun q => ?_) (fun q => ?_)
      · have h := u_neg q h
        obtain ⟨x2, ex2, h⟩ := ul_of h
        refine lv_iinc (v := x2) (lv' := [(4, .int x2), (0, .ref (ad 80)), (1, .int v1), (2, .int v2), (3, .int v3)]) hx hb dX0_timesRead_39 hl (k := 4) rfl (by rw [ex2]; rfl) (by decide) rfl (fun ls hl => ?_)
        refine lv_goto (tgt := 5) hx hb dX0_timesRead_42 (by decide) ?_
        exact ih σ v1 v2 v3 x2 h H locs ls G (lv_sub hl [1, 2, 3, 4, 0] rfl)
      · have h := u_pos q h
        refine lv_aload_n hx hb dX0_timesRead_25 rfl (lv_at hl 0 rfl) ?_
        refine u_get (v := .ref (ad 82)) C G obX_80 (ci := 0) (N := 3) (Cn := RX0) (T := TX0) rfl fi_X0_timesRead_0 1 (by decide) (by decide +kernel) rfl dX0_timesRead_26 ?_
        refine lv_iload hx hb dX0_timesRead_29 (lv_at hl 4 rfl) ?_
        obtain ⟨g3, h⟩ := ui_of h
        refine u_iald C G arX_82 (t0 := 0) rfl g3 dX0_timesRead_31 ?_
        refine lv_iload_n hx hb dX0_timesRead_32 rfl (lv_at hl 2 rfl) ?_
        refine lv_icmp_ne (tgt := 39) hx hb dX0_timesRead_33 (by decide) (fun q => ?_) (fun q => ?_)
        · have h := u_neg q h
          obtain ⟨x4, ex4, h⟩ := ul_of h
          refine lv_iinc (v := x4) (lv' := [(4, .int x4), (0, .ref (ad 80)), (1, .int v1), (2, .int v2), (3, .int v3)]) hx hb dX0_timesRead_39 hl (k := 4) rfl (by rw [ex4]; rfl) (by decide) rfl (fun ls hl => ?_)
          refine lv_goto (tgt := 5) hx hb dX0_timesRead_42 (by decide) ?_
          exact ih σ v1 v2 v3 x4 h H locs ls G (lv_sub hl [1, 2, 3, 4, 0] rfl)
        · have h := u_pos q h
          obtain ⟨x5, ex5, h⟩ := ul_of h
          refine lv_iinc (v := x5) (lv' := [(3, .int x5), (0, .ref (ad 80)), (1, .int v1), (2, .int v2), (4, .int v4)]) hx hb dX0_timesRead_36 hl (k := 3) rfl (by rw [ex5]; rfl) (by decide) rfl (fun ls hl => ?_)
          obtain ⟨x6, ex6, h⟩ := ul_of h
          refine lv_iinc (v := x6) (lv' := [(4, .int x6), (3, .int x5), (0, .ref (ad 80)), (1, .int v1), (2, .int v2)]) hx hb dX0_timesRead_39 hl (k := 4) rfl (by rw [ex6]; rfl) (by decide) rfl (fun ls hl => ?_)
          refine lv_goto (tgt := 5) hx hb dX0_timesRead_42 (by decide) ?_
          exact ih σ v1 v2 x5 x6 h H locs ls G (lv_sub hl [2, 3, 4, 1, 0] rfl)
set_option maxHeartbeats 4000000 in
set_option maxRecDepth 100000 in
theorem c_X0_timesRead (l : Launch) (D : va_G) (ad : Nat → Nat) (cs : Nat → ClassId) (J : uJ 99 ad) (σ : St) (v1 : Int32) (v2 : Int32) (r : Int32) (σ' : St) (h : f_X0_timesRead σ v1 v2 = some (r, σ')) : uMi l yX0_timesRead wsX0_timesRead { frames := 0, cells := 0, slots := 0, locals := 0 } D vwCl (tyX cs) 99 ad (enX ad cs) [.ref (ad 80), .int v1, .int v2] σ r σ' := by
  refine u_met (Qf := uQi D vwCl 99 ad (enX ad cs) r σ') (cc := cX0_timesRead) (maxL := 5) (ret := (some .int)) (lv := [(0, .ref (ad 80)), (1, .int v1), (2, .int v2)]) J (by decide) rfl (Nat.le_of_ble_eq_true rfl) rfl rfl rfl ?_
  intro p e s m args below meth c ls hx hb C hr hlk G hl
  unfold f_X0_timesRead at h
  obtain ⟨H, eH⟩ : ∃ H, H = s.heap := ⟨_, rfl⟩
  obtain ⟨locs, eL⟩ : ∃ locs : List Loc, locs = [] := ⟨_, rfl⟩
  refine u_start eH eL G ?_
  clear G eH eL
  intro G
  refine lv_iconst (v := 0) hx hb dX0_timesRead_0 (by decide) ?_
  refine lv_istore_n (lv' := [(3, .int 0), (0, .ref (ad 80)), (1, .int v1), (2, .int v2)]) hx hb dX0_timesRead_1 rfl hl (by decide) rfl (fun ls hl => ?_)
  refine lv_iconst (v := 0) hx hb dX0_timesRead_2 (by decide) ?_
  refine lv_istore (lv' := [(4, .int 0), (3, .int 0), (0, .ref (ad 80)), (1, .int v1), (2, .int v2)]) hx hb dX0_timesRead_3 hl (by decide) rfl (fun ls hl => ?_)
  exact w_X0_timesRead_5 C hr hlk fu σ v1 v2 0 0 h H locs ls G (lv_sub hl [2, 3, 4, 1, 0] rfl)
/-! X1_isNumber -/
def f_X1_isNumber (σ : St) (v0 : Int32) : Option (Int32 × St) :=
  if v0 < 0 then
    some ((0 : Int32), σ)
  else
    if 6 ≤ v0 then
      some ((0 : Int32), σ)
    else
      some ((1 : Int32), σ)
set_option maxHeartbeats 4000000 in
set_option maxRecDepth 100000 in
theorem c_X1_isNumber (l : Launch) (D : va_G) (ad : Nat → Nat) (cs : Nat → ClassId) (J : uJ 99 ad) (σ : St) (v0 : Int32) (r : Int32) (σ' : St) (h : f_X1_isNumber σ v0 = some (r, σ')) : uMi l yX1_isNumber wsX1_isNumber { frames := 0, cells := 0, slots := 0, locals := 0 } D vwCl (tyX cs) 99 ad (enX ad cs) [.int v0] σ r σ' := by
  refine u_met (Qf := uQi D vwCl 99 ad (enX ad cs) r σ') (cc := cX1_isNumber) (maxL := 1) (ret := (some .boolean)) (lv := [(0, .int v0)]) J (by decide) rfl (Nat.le_of_ble_eq_true rfl) rfl rfl rfl ?_
  intro p e s m args below meth c ls hx hb C hr hlk G hl
  unfold f_X1_isNumber at h
  obtain ⟨H, eH⟩ : ∃ H, H = s.heap := ⟨_, rfl⟩
  obtain ⟨locs, eL⟩ : ∃ locs : List Loc, locs = [] := ⟨_, rfl⟩
  refine u_start eH eL G ?_
  clear G eH eL
  intro G
  refine lv_iload_n hx hb dX1_isNumber_0 rfl (lv_at hl 0 rfl) ?_
  refine lv_if_lt (tgt := 14) hx hb dX1_isNumber_1 (by decide) (fun q => ?_) (fun q => ?_)
  · have h := u_pos q h
    refine lv_iconst (v := 0) hx hb dX1_isNumber_14 (by decide) ?_
    obtain ⟨rfl, rfl⟩ := u_end h
    exact u_zret hx hb hr hlk G (by decide) dX1_isNumber_15
  · have h := u_neg q h
    refine lv_iload_n hx hb dX1_isNumber_4 rfl (lv_at hl 0 rfl) ?_
    refine lv_bipush (v := 6) hx hb dX1_isNumber_5 (by decide) ?_
    refine lv_icmp_ge (tgt := 14) hx hb dX1_isNumber_7 (by decide) (fun q => ?_) (fun q => ?_)
    · have h := u_pos q h
      refine lv_iconst (v := 0) hx hb dX1_isNumber_14 (by decide) ?_
      obtain ⟨rfl, rfl⟩ := u_end h
      exact u_zret hx hb hr hlk G (by decide) dX1_isNumber_15
    · have h := u_neg q h
      refine lv_iconst (v := 1) hx hb dX1_isNumber_10 (by decide) ?_
      refine lv_goto (tgt := 15) hx hb dX1_isNumber_11 (by decide) ?_
      obtain ⟨rfl, rfl⟩ := u_end h
      exact u_zret hx hb hr hlk G (by decide) dX1_isNumber_15
/-! X1_isFull -/
def f_X1_isFull (σ : St) : Option (Int32 × St) :=
  if (σ 75 4) < 30 then
    some ((0 : Int32), σ)
  else
    some ((1 : Int32), σ)
theorem fi_X1_isFull_1 : ∀ w ∈ u_ws RX1 TX1 5, w ∈ wsX1_isFull := by decide +kernel
set_option maxHeartbeats 4000000 in
set_option maxRecDepth 100000 in
theorem c_X1_isFull (l : Launch) (D : va_G) (ad : Nat → Nat) (cs : Nat → ClassId) (J : uJ 99 ad) (σ : St) (r : Int32) (σ' : St) (h : f_X1_isFull σ = some (r, σ')) : uMi l yX1_isFull wsX1_isFull { frames := 0, cells := 0, slots := 0, locals := 0 } D vwCl (tyX cs) 99 ad (enX ad cs) [.ref (ad 75)] σ r σ' := by
  refine u_met (Qf := uQi D vwCl 99 ad (enX ad cs) r σ') (cc := cX1_isFull) (maxL := 1) (ret := (some .boolean)) (lv := [(0, .ref (ad 75))]) J (by decide) rfl (Nat.le_of_ble_eq_true rfl) rfl rfl rfl ?_
  intro p e s m args below meth c ls hx hb C hr hlk G hl
  unfold f_X1_isFull at h
  obtain ⟨H, eH⟩ : ∃ H, H = s.heap := ⟨_, rfl⟩
  obtain ⟨locs, eL⟩ : ∃ locs : List Loc, locs = [] := ⟨_, rfl⟩
  refine u_start eH eL G ?_
  clear G eH eL
  intro G
  refine lv_aload_n hx hb dX1_isFull_0 rfl (lv_at hl 0 rfl) ?_
  refine u_get (v := .int (σ 75 4)) C G obX_75 (ci := 1) (N := 5) (Cn := RX1) (T := TX1) rfl fi_X1_isFull_1 4 (by decide) (by decide +kernel) rfl dX1_isFull_1 ?_
  refine lv_bipush (v := 30) hx hb dX1_isFull_4 (by decide) ?_
  refine lv_icmp_lt (tgt := 13) hx hb dX1_isFull_6 (by decide) (fun q => ?_) (fun q => ?_)
  · have h := u_pos q h
    refine lv_iconst (v := 0) hx hb dX1_isFull_13 (by decide) ?_
    obtain ⟨rfl, rfl⟩ := u_end h
    exact u_zret hx hb hr hlk G (by decide) dX1_isFull_14
  · have h := u_neg q h
    refine lv_iconst (v := 1) hx hb dX1_isFull_9 (by decide) ?_
    refine lv_goto (tgt := 14) hx hb dX1_isFull_10 (by decide) ?_
    obtain ⟨rfl, rfl⟩ := u_end h
    exact u_zret hx hb hr hlk G (by decide) dX1_isFull_14
/-! X1_add -/
def f_X1_add (σ : St) (v1 : Int32) (v2 : Int32) (v3 : Int32) (v4 : Int32) : Option (Unit × St) :=
  ui (σ 75 4) 30 <|
  ul (us σ 76 (σ 75 4).toNatClampNeg v1) fun σ2 =>
  ui (σ2 75 4) 30 <|
  ul (us σ2 77 (σ2 75 4).toNatClampNeg v2) fun σ4 =>
  ui (σ4 75 4) 30 <|
  ul (us σ4 78 (σ4 75 4).toNatClampNeg v3) fun σ6 =>
  ui (σ6 75 4) 30 <|
  ul (us σ6 79 (σ6 75 4).toNatClampNeg v4) fun σ8 =>
  ul (us σ8 75 4 ((σ8 75 4) + 1)) fun σ9 =>
  some ((), σ9)
theorem fi_X1_add_1 : ∀ w ∈ u_ws RX1 TX1 5, w ∈ wsX1_add := by decide +kernel
set_option maxHeartbeats 4000000 in
set_option maxRecDepth 100000 in
theorem c_X1_add (l : Launch) (D : va_G) (ad : Nat → Nat) (cs : Nat → ClassId) (J : uJ 99 ad) (σ : St) (v1 : Int32) (v2 : Int32) (v3 : Int32) (v4 : Int32) (r : Unit) (σ' : St) (h : f_X1_add σ v1 v2 v3 v4 = some (r, σ')) : uMv l yX1_add wsX1_add { frames := 0, cells := 0, slots := 0, locals := 0 } D vwCl (tyX cs) 99 ad (enX ad cs) [.ref (ad 75), .int v1, .int v2, .int v3, .int v4] σ σ' := by
  refine u_met (Qf := uQv D vwCl 99 ad (enX ad cs) σ') (cc := cX1_add) (maxL := 5) (ret := none) (lv := [(0, .ref (ad 75)), (1, .int v1), (2, .int v2), (3, .int v3), (4, .int v4)]) J (by decide) rfl (Nat.le_of_ble_eq_true rfl) rfl rfl rfl ?_
  intro p e s m args below meth c ls hx hb C hr hlk G hl
  unfold f_X1_add at h
  obtain ⟨H, eH⟩ : ∃ H, H = s.heap := ⟨_, rfl⟩
  obtain ⟨locs, eL⟩ : ∃ locs : List Loc, locs = [] := ⟨_, rfl⟩
  refine u_start eH eL G ?_
  clear G eH eL
  intro G
  refine lv_aload_n hx hb dX1_add_0 rfl (lv_at hl 0 rfl) ?_
  refine u_get (v := .ref (ad 76)) C G obX_75 (ci := 1) (N := 5) (Cn := RX1) (T := TX1) rfl fi_X1_add_1 0 (by decide) (by decide +kernel) rfl dX1_add_1 ?_
  refine lv_aload_n hx hb dX1_add_4 rfl (lv_at hl 0 rfl) ?_
  refine u_get (v := .int (σ 75 4)) C G obX_75 (ci := 1) (N := 5) (Cn := RX1) (T := TX1) rfl fi_X1_add_1 4 (by decide) (by decide +kernel) rfl dX1_add_5 ?_
  refine lv_iload_n hx hb dX1_add_8 rfl (lv_at hl 1 rfl) ?_
  obtain ⟨g1, h⟩ := ui_of h
  refine u_iast C G arX_76 (t0 := 0) rfl g1 dX1_add_9 (fun H locs G => ?_)
  obtain ⟨σ2, eσ2, h⟩ := ul_of h
  replace G := uG_eq eσ2 G
  refine lv_aload_n hx hb dX1_add_10 rfl (lv_at hl 0 rfl) ?_
  refine u_get (v := .ref (ad 77)) C G obX_75 (ci := 1) (N := 5) (Cn := RX1) (T := TX1) rfl fi_X1_add_1 1 (by decide) (by decide +kernel) rfl dX1_add_11 ?_
  refine lv_aload_n hx hb dX1_add_14 rfl (lv_at hl 0 rfl) ?_
  refine u_get (v := .int (σ2 75 4)) C G obX_75 (ci := 1) (N := 5) (Cn := RX1) (T := TX1) rfl fi_X1_add_1 4 (by decide) (by decide +kernel) rfl dX1_add_15 ?_
  refine lv_iload_n hx hb dX1_add_18 rfl (lv_at hl 2 rfl) ?_
  obtain ⟨g3, h⟩ := ui_of h
  refine u_iast C G arX_77 (t0 := 0) rfl g3 dX1_add_19 (fun H locs G => ?_)
  obtain ⟨σ4, eσ4, h⟩ := ul_of h
  replace G := uG_eq eσ4 G
  refine lv_aload_n hx hb dX1_add_20 rfl (lv_at hl 0 rfl) ?_
  refine u_get (v := .ref (ad 78)) C G obX_75 (ci := 1) (N := 5) (Cn := RX1) (T := TX1) rfl fi_X1_add_1 2 (by decide) (by decide +kernel) rfl dX1_add_21 ?_
  refine lv_aload_n hx hb dX1_add_24 rfl (lv_at hl 0 rfl) ?_
  refine u_get (v := .int (σ4 75 4)) C G obX_75 (ci := 1) (N := 5) (Cn := RX1) (T := TX1) rfl fi_X1_add_1 4 (by decide) (by decide +kernel) rfl dX1_add_25 ?_
  refine lv_iload_n hx hb dX1_add_28 rfl (lv_at hl 3 rfl) ?_
  obtain ⟨g5, h⟩ := ui_of h
  refine u_iast C G arX_78 (t0 := 0) rfl g5 dX1_add_29 (fun H locs G => ?_)
  obtain ⟨σ6, eσ6, h⟩ := ul_of h
  replace G := uG_eq eσ6 G
  refine lv_aload_n hx hb dX1_add_30 rfl (lv_at hl 0 rfl) ?_
  refine u_get (v := .ref (ad 79)) C G obX_75 (ci := 1) (N := 5) (Cn := RX1) (T := TX1) rfl fi_X1_add_1 3 (by decide) (by decide +kernel) rfl dX1_add_31 ?_
  refine lv_aload_n hx hb dX1_add_34 rfl (lv_at hl 0 rfl) ?_
  refine u_get (v := .int (σ6 75 4)) C G obX_75 (ci := 1) (N := 5) (Cn := RX1) (T := TX1) rfl fi_X1_add_1 4 (by decide) (by decide +kernel) rfl dX1_add_35 ?_
  refine lv_iload hx hb dX1_add_38 (lv_at hl 4 rfl) ?_
  obtain ⟨g7, h⟩ := ui_of h
  refine u_iast C G arX_79 (t0 := 0) rfl g7 dX1_add_40 (fun H locs G => ?_)
  obtain ⟨σ8, eσ8, h⟩ := ul_of h
  replace G := uG_eq eσ8 G
  refine lv_aload_n hx hb dX1_add_41 rfl (lv_at hl 0 rfl) ?_
  refine lv_dup hx hb dX1_add_42 rfl ?_
  refine u_get (v := .int (σ8 75 4)) C G obX_75 (ci := 1) (N := 5) (Cn := RX1) (T := TX1) rfl fi_X1_add_1 4 (by decide) (by decide +kernel) rfl dX1_add_43 ?_
  refine lv_iconst (v := 1) hx hb dX1_add_46 (by decide) ?_
  refine lv_iadd hx hb dX1_add_47 ?_
  refine u_put (x := ((σ8 75 4) + 1)) (ty := .int) C G obX_75 (ci := 1) (N := 5) (Cn := RX1) (T := TX1) rfl fi_X1_add_1 tyX1 tyX1_ok nmX1 4 (by decide) (by decide +kernel) rfl (by decide +kernel) rfl rfl (fun f => by simp) (fun f => rfl) dX1_add_48 (fun H locs G => ?_)
  obtain ⟨σ9, eσ9, h⟩ := ul_of h
  replace G := uG_eq eσ9 G
  obtain ⟨-, rfl⟩ := u_end h
  exact u_vret hx hb hr hlk G dX1_add_51
/-! X1_cellsIn -/
def f_X1_cellsIn_6 : Nat → St → Int32 → Int32 → Int32 → Int32 → Int32 → Option (Int32 × St)
  | 0, _, _, _, _, _, _ => none
  | fuel + 1, σ, v1, v2, v3, v4, v5 =>
    if (σ 75 4) ≤ v5 then
      some (v4, σ)
    else
      ui v5 30 <|
      if (σ 76 v5.toNatClampNeg) = v1 then
        ui v5 30 <|
        if (σ 77 v5.toNatClampNeg) = v2 then
          ui v5 30 <|
          if (σ 78 v5.toNatClampNeg) = v3 then
            ui v5 30 <|
            ul (v4 ||| (σ 79 v5.toNatClampNeg)) fun x8 =>
            ul (v5 + 1) fun x9 =>
            f_X1_cellsIn_6 fuel σ v1 v2 v3 x8 x9
          else
            ul (v5 + 1) fun x6 =>
            f_X1_cellsIn_6 fuel σ v1 v2 v3 v4 x6
        else
          ul (v5 + 1) fun x4 =>
          f_X1_cellsIn_6 fuel σ v1 v2 v3 v4 x4
      else
        ul (v5 + 1) fun x2 =>
        f_X1_cellsIn_6 fuel σ v1 v2 v3 v4 x2
def f_X1_cellsIn (σ : St) (v1 : Int32) (v2 : Int32) (v3 : Int32) : Option (Int32 × St) :=
  f_X1_cellsIn_6 fu σ v1 v2 v3 0 0
theorem fi_X1_cellsIn_1 : ∀ w ∈ u_ws RX1 TX1 5, w ∈ wsX1_cellsIn := by decide +kernel
set_option maxHeartbeats 4000000 in
set_option maxRecDepth 100000 in
theorem w_X1_cellsIn_6 {p : Program} {l : Launch} {e : Env} {s : State} {m : MethodId} {args : Array Value} {below : List Frame} {meth : Method} {c : Code} {D : va_G} {ad : Nat → Nat} {cs : Nat → ClassId} (C : uC p { frames := 0, cells := 0, slots := 0, locals := 0 } s m args c cX1_cellsIn 6 wsX1_cellsIn RX1 D vwCl (tyX cs) 99 ad (uAd 99 ad s.heap.size) 0 0) (hr : meth.sig.returnType = (some .int)) (hlk : meth.locks = false) {r : Int32} {σ' : St} :
    ∀ (n : Nat) (σ : St) (v1 : Int32) (v2 : Int32) (v3 : Int32) (v4 : Int32) (v5 : Int32), f_X1_cellsIn_6 n σ v1 v2 v3 v4 v5 = some (r, σ') → ∀ (H : Heap) (locs : List Loc) (ls : Array Slot), uG D vwCl 99 ad (enX ad cs) (uAd 99 ad s.heap.size) s σ H locs → lv_has ls 6 [(0, .ref (ad 75)), (1, .int v1), (2, .int v2), (3, .int v3), (4, .int v4), (5, .int v5)] → W p l e { frames := 0, cells := 0, slots := 0, locals := 0 } s m args below meth c H locs 0 0 (MQ below (uQi D vwCl 99 ad (enX ad cs) r σ' s.heap.size) args s 0 0 (uAd 99 ad s.heap.size)) (F0 m 6 ls []) := by
  have hx := C.1.1
  have hb := C.1.2.1
  intro n
  induction n with
  | zero => intro σ v1 v2 v3 v4 v5  h; exact absurd h (by simp [f_X1_cellsIn_6])
  | succ fuel ih =>
    intro σ v1 v2 v3 v4 v5  h H locs ls G hl
    rw [f_X1_cellsIn_6] at h
    refine lv_iload hx hb dX1_cellsIn_6 (lv_at hl 5 rfl) ?_
    refine lv_aload_n hx hb dX1_cellsIn_8 rfl (lv_at hl 0 rfl) ?_
    refine u_get (v := .int (σ 75 4)) C G obX_75 (ci := 1) (N := 5) (Cn := RX1) (T := TX1) rfl fi_X1_cellsIn_1 4 (by decide) (by decide +kernel) rfl dX1_cellsIn_9 ?_
    refine lv_icmp_ge (tgt := 66) hx hb dX1_cellsIn_12 (by decide) (fun q => ?_) (fun q => ?_)
    · have h := u_pos q h
      refine lv_iload hx hb dX1_cellsIn_66 (lv_at hl 4 rfl) ?_
      obtain ⟨rfl, rfl⟩ := u_end h
      exact u_iret hx hb hr hlk G dX1_cellsIn_68
    · have h := u_neg q h
      refine lv_aload_n hx hb dX1_cellsIn_15 rfl (lv_at hl 0 rfl) ?_
      refine u_get (v := .ref (ad 76)) C G obX_75 (ci := 1) (N := 5) (Cn := RX1) (T := TX1) rfl fi_X1_cellsIn_1 0 (by decide) (by decide +kernel) rfl dX1_cellsIn_16 ?_
      refine lv_iload hx hb dX1_cellsIn_19 (lv_at hl 5 rfl) ?_
      obtain ⟨g1, h⟩ := ui_of h
      refine u_iald C G arX_76 (t0 := 0) rfl g1 dX1_cellsIn_21 ?_
      refine lv_iload_n hx hb dX1_cellsIn_22 rfl (lv_at hl 1 rfl) ?_
      refine lv_icmp_ne (tgt := 60) hx hb dX1_cellsIn_23 (by decide) (fun q => ?_) (fun q => ?_)
      · have h := u_neg q h
        obtain ⟨x2, ex2, h⟩ := ul_of h
        refine lv_iinc (v := x2) (lv' := [(5, .int x2), (0, .ref (ad 75)), (1, .int v1), (2, .int v2), (3, .int v3), (4, .int v4)]) hx hb dX1_cellsIn_60 hl (k := 5) rfl (by rw [ex2]; rfl) (by decide) rfl (fun ls hl => ?_)
        refine lv_goto (tgt := 6) hx hb dX1_cellsIn_63 (by decide) ?_
        exact ih σ v1 v2 v3 v4 x2 h H locs ls G (lv_sub hl [1, 2, 3, 4, 5, 0] rfl)
      · have h := u_pos q h
        refine lv_aload_n hx hb dX1_cellsIn_26 rfl (lv_at hl 0 rfl) ?_
        refine u_get (v := .ref (ad 77)) C G obX_75 (ci := 1) (N := 5) (Cn := RX1) (T := TX1) rfl fi_X1_cellsIn_1 1 (by decide) (by decide +kernel) rfl dX1_cellsIn_27 ?_
        refine lv_iload hx hb dX1_cellsIn_30 (lv_at hl 5 rfl) ?_
        obtain ⟨g3, h⟩ := ui_of h
        refine u_iald C G arX_77 (t0 := 0) rfl g3 dX1_cellsIn_32 ?_
        refine lv_iload_n hx hb dX1_cellsIn_33 rfl (lv_at hl 2 rfl) ?_
        refine lv_icmp_ne (tgt := 60) hx hb dX1_cellsIn_34 (by decide) (fun q => ?_) (fun q => ?_)
        · have h := u_neg q h
          obtain ⟨x4, ex4, h⟩ := ul_of h
          refine lv_iinc (v := x4) (lv' := [(5, .int x4), (0, .ref (ad 75)), (1, .int v1), (2, .int v2), (3, .int v3), (4, .int v4)]) hx hb dX1_cellsIn_60 hl (k := 5) rfl (by rw [ex4]; rfl) (by decide) rfl (fun ls hl => ?_)
          refine lv_goto (tgt := 6) hx hb dX1_cellsIn_63 (by decide) ?_
          exact ih σ v1 v2 v3 v4 x4 h H locs ls G (lv_sub hl [1, 2, 3, 4, 5, 0] rfl)
        · have h := u_pos q h
          refine lv_aload_n hx hb dX1_cellsIn_37 rfl (lv_at hl 0 rfl) ?_
          refine u_get (v := .ref (ad 78)) C G obX_75 (ci := 1) (N := 5) (Cn := RX1) (T := TX1) rfl fi_X1_cellsIn_1 2 (by decide) (by decide +kernel) rfl dX1_cellsIn_38 ?_
          refine lv_iload hx hb dX1_cellsIn_41 (lv_at hl 5 rfl) ?_
          obtain ⟨g5, h⟩ := ui_of h
          refine u_iald C G arX_78 (t0 := 0) rfl g5 dX1_cellsIn_43 ?_
          refine lv_iload_n hx hb dX1_cellsIn_44 rfl (lv_at hl 3 rfl) ?_
          refine lv_icmp_ne (tgt := 60) hx hb dX1_cellsIn_45 (by decide) (fun q => ?_) (fun q => ?_)
          · have h := u_neg q h
            obtain ⟨x6, ex6, h⟩ := ul_of h
            refine lv_iinc (v := x6) (lv' := [(5, .int x6), (0, .ref (ad 75)), (1, .int v1), (2, .int v2), (3, .int v3), (4, .int v4)]) hx hb dX1_cellsIn_60 hl (k := 5) rfl (by rw [ex6]; rfl) (by decide) rfl (fun ls hl => ?_)
            refine lv_goto (tgt := 6) hx hb dX1_cellsIn_63 (by decide) ?_
            exact ih σ v1 v2 v3 v4 x6 h H locs ls G (lv_sub hl [1, 2, 3, 4, 5, 0] rfl)
          · have h := u_pos q h
            refine lv_iload hx hb dX1_cellsIn_48 (lv_at hl 4 rfl) ?_
            refine lv_aload_n hx hb dX1_cellsIn_50 rfl (lv_at hl 0 rfl) ?_
            refine u_get (v := .ref (ad 79)) C G obX_75 (ci := 1) (N := 5) (Cn := RX1) (T := TX1) rfl fi_X1_cellsIn_1 3 (by decide) (by decide +kernel) rfl dX1_cellsIn_51 ?_
            refine lv_iload hx hb dX1_cellsIn_54 (lv_at hl 5 rfl) ?_
            obtain ⟨g7, h⟩ := ui_of h
            refine u_iald C G arX_79 (t0 := 0) rfl g7 dX1_cellsIn_56 ?_
            refine lv_ior hx hb dX1_cellsIn_57 ?_
            obtain ⟨x8, ex8, h⟩ := ul_of h
            refine u_nmi ex8 ?_
            refine lv_istore (lv' := [(4, .int x8), (0, .ref (ad 75)), (1, .int v1), (2, .int v2), (3, .int v3), (5, .int v5)]) hx hb dX1_cellsIn_58 hl (by decide) rfl (fun ls hl => ?_)
            obtain ⟨x9, ex9, h⟩ := ul_of h
            refine lv_iinc (v := x9) (lv' := [(5, .int x9), (4, .int x8), (0, .ref (ad 75)), (1, .int v1), (2, .int v2), (3, .int v3)]) hx hb dX1_cellsIn_60 hl (k := 5) rfl (by rw [ex9]; rfl) (by decide) rfl (fun ls hl => ?_)
            refine lv_goto (tgt := 6) hx hb dX1_cellsIn_63 (by decide) ?_
            exact ih σ v1 v2 v3 x8 x9 h H locs ls G (lv_sub hl [2, 3, 4, 5, 1, 0] rfl)
set_option maxHeartbeats 4000000 in
set_option maxRecDepth 100000 in
theorem c_X1_cellsIn (l : Launch) (D : va_G) (ad : Nat → Nat) (cs : Nat → ClassId) (J : uJ 99 ad) (σ : St) (v1 : Int32) (v2 : Int32) (v3 : Int32) (r : Int32) (σ' : St) (h : f_X1_cellsIn σ v1 v2 v3 = some (r, σ')) : uMi l yX1_cellsIn wsX1_cellsIn { frames := 0, cells := 0, slots := 0, locals := 0 } D vwCl (tyX cs) 99 ad (enX ad cs) [.ref (ad 75), .int v1, .int v2, .int v3] σ r σ' := by
  refine u_met (Qf := uQi D vwCl 99 ad (enX ad cs) r σ') (cc := cX1_cellsIn) (maxL := 6) (ret := (some .int)) (lv := [(0, .ref (ad 75)), (1, .int v1), (2, .int v2), (3, .int v3)]) J (by decide) rfl (Nat.le_of_ble_eq_true rfl) rfl rfl rfl ?_
  intro p e s m args below meth c ls hx hb C hr hlk G hl
  unfold f_X1_cellsIn at h
  obtain ⟨H, eH⟩ : ∃ H, H = s.heap := ⟨_, rfl⟩
  obtain ⟨locs, eL⟩ : ∃ locs : List Loc, locs = [] := ⟨_, rfl⟩
  refine u_start eH eL G ?_
  clear G eH eL
  intro G
  refine lv_iconst (v := 0) hx hb dX1_cellsIn_0 (by decide) ?_
  refine lv_istore (lv' := [(4, .int 0), (0, .ref (ad 75)), (1, .int v1), (2, .int v2), (3, .int v3)]) hx hb dX1_cellsIn_1 hl (by decide) rfl (fun ls hl => ?_)
  refine lv_iconst (v := 0) hx hb dX1_cellsIn_3 (by decide) ?_
  refine lv_istore (lv' := [(5, .int 0), (4, .int 0), (0, .ref (ad 75)), (1, .int v1), (2, .int v2), (3, .int v3)]) hx hb dX1_cellsIn_4 hl (by decide) rfl (fun ls hl => ?_)
  exact w_X1_cellsIn_6 C hr hlk fu σ v1 v2 v3 0 0 h H locs ls G (lv_sub hl [2, 3, 4, 5, 1, 0] rfl)
/-! X2_known -/
def f_X2_known (σ : St) (i0 : Nat) (v1 : Int32) : Option (Int32 × St) :=
  ui v1 10 <|
  ui v1 10 <|
  ui v1 10 <|
  ui v1 10 <|
  some (((((σ (35 + 9 * i0 + 2 + (0 : Int32).toNatClampNeg) v1.toNatClampNeg) ||| (σ (35 + 9 * i0 + 2 + (1 : Int32).toNatClampNeg) v1.toNatClampNeg)) ||| (σ (35 + 9 * i0 + 2 + (2 : Int32).toNatClampNeg) v1.toNatClampNeg)) ||| (σ (35 + 9 * i0 + 2 + (3 : Int32).toNatClampNeg) v1.toNatClampNeg)), σ)
theorem fi_X2_known_2 : ∀ w ∈ u_ws RX2 TX2 5, w ∈ wsX2_known := by decide +kernel
set_option maxHeartbeats 4000000 in
set_option maxRecDepth 100000 in
theorem c_X2_known (l : Launch) (D : va_G) (ad : Nat → Nat) (cs : Nat → ClassId) (J : uJ 99 ad) (σ : St) (i0 : Nat) (v1 : Int32) (bi0 : i0 < 4) (r : Int32) (σ' : St) (h : f_X2_known σ i0 v1 = some (r, σ')) : uMi l yX2_known wsX2_known { frames := 0, cells := 0, slots := 0, locals := 0 } D vwCl (tyX cs) 99 ad (enX ad cs) [.ref (ad (35 + 9 * i0)), .int v1] σ r σ' := by
  refine u_met (Qf := uQi D vwCl 99 ad (enX ad cs) r σ') (cc := cX2_known) (maxL := 2) (ret := (some .int)) (lv := [(0, .ref (ad (35 + 9 * i0))), (1, .int v1)]) J (by decide) rfl (Nat.le_of_ble_eq_true rfl) rfl rfl rfl ?_
  intro p e s m args below meth c ls hx hb C hr hlk G hl
  unfold f_X2_known at h
  obtain ⟨H, eH⟩ : ∃ H, H = s.heap := ⟨_, rfl⟩
  obtain ⟨locs, eL⟩ : ∃ locs : List Loc, locs = [] := ⟨_, rfl⟩
  refine u_start eH eL G ?_
  clear G eH eL
  intro G
  refine lv_aload_n hx hb dX2_known_0 rfl (lv_at hl 0 rfl) ?_
  refine u_get (v := .ref (ad (35 + 9 * i0 + 1))) C G (obX_line bi0) (ci := 2) (N := 5) (Cn := RX2) (T := TX2) rfl fi_X2_known_2 0 (by decide) (by decide +kernel) rfl dX2_known_1 ?_
  refine lv_iconst (v := 0) hx hb dX2_known_4 (by decide) ?_
  refine u_aald C G (rrX_cells bi0) (t0 := 5) rfl rfl (vp_lit (by decide)) dX2_known_5 (fun b1 => ?_)
  refine lv_iload_n hx hb dX2_known_6 rfl (lv_at hl 1 rfl) ?_
  obtain ⟨g2, h⟩ := ui_of h
  refine u_iald C G (arX_crow bi0 b1) (t0 := 0) rfl g2 dX2_known_7 ?_
  refine lv_aload_n hx hb dX2_known_8 rfl (lv_at hl 0 rfl) ?_
  refine u_get (v := .ref (ad (35 + 9 * i0 + 1))) C G (obX_line bi0) (ci := 2) (N := 5) (Cn := RX2) (T := TX2) rfl fi_X2_known_2 0 (by decide) (by decide +kernel) rfl dX2_known_9 ?_
  refine lv_iconst (v := 1) hx hb dX2_known_12 (by decide) ?_
  refine u_aald C G (rrX_cells bi0) (t0 := 5) rfl rfl (vp_lit (by decide)) dX2_known_13 (fun b3 => ?_)
  refine lv_iload_n hx hb dX2_known_14 rfl (lv_at hl 1 rfl) ?_
  obtain ⟨g4, h⟩ := ui_of h
  refine u_iald C G (arX_crow bi0 b3) (t0 := 0) rfl g4 dX2_known_15 ?_
  refine lv_ior hx hb dX2_known_16 ?_
  refine lv_aload_n hx hb dX2_known_17 rfl (lv_at hl 0 rfl) ?_
  refine u_get (v := .ref (ad (35 + 9 * i0 + 1))) C G (obX_line bi0) (ci := 2) (N := 5) (Cn := RX2) (T := TX2) rfl fi_X2_known_2 0 (by decide) (by decide +kernel) rfl dX2_known_18 ?_
  refine lv_iconst (v := 2) hx hb dX2_known_21 (by decide) ?_
  refine u_aald C G (rrX_cells bi0) (t0 := 5) rfl rfl (vp_lit (by decide)) dX2_known_22 (fun b5 => ?_)
  refine lv_iload_n hx hb dX2_known_23 rfl (lv_at hl 1 rfl) ?_
  obtain ⟨g6, h⟩ := ui_of h
  refine u_iald C G (arX_crow bi0 b5) (t0 := 0) rfl g6 dX2_known_24 ?_
  refine lv_ior hx hb dX2_known_25 ?_
  refine lv_aload_n hx hb dX2_known_26 rfl (lv_at hl 0 rfl) ?_
  refine u_get (v := .ref (ad (35 + 9 * i0 + 1))) C G (obX_line bi0) (ci := 2) (N := 5) (Cn := RX2) (T := TX2) rfl fi_X2_known_2 0 (by decide) (by decide +kernel) rfl dX2_known_27 ?_
  refine lv_iconst (v := 3) hx hb dX2_known_30 (by decide) ?_
  refine u_aald C G (rrX_cells bi0) (t0 := 5) rfl rfl (vp_lit (by decide)) dX2_known_31 (fun b7 => ?_)
  refine lv_iload_n hx hb dX2_known_32 rfl (lv_at hl 1 rfl) ?_
  obtain ⟨g8, h⟩ := ui_of h
  refine u_iald C G (arX_crow bi0 b7) (t0 := 0) rfl g8 dX2_known_33 ?_
  refine lv_ior hx hb dX2_known_34 ?_
  obtain ⟨rfl, rfl⟩ := u_end h
  exact u_iret hx hb hr hlk G dX2_known_35
/-! J6_bitCount_0f7a4 -/
def f_J6_bitCount_0f7a4 (σ : St) (v0 : Int32) : Option (Int32 × St) :=
  ul (v0 - (((v0.toUInt32 >>> ((1 : Int32).toUInt32 &&& Int32.toUInt32 31)).toInt32) &&& 1431655765)) fun x1 =>
  ul ((x1 &&& 858993459) + (((x1.toUInt32 >>> ((2 : Int32).toUInt32 &&& Int32.toUInt32 31)).toInt32) &&& 858993459)) fun x2 =>
  ul ((x2 + ((x2.toUInt32 >>> ((4 : Int32).toUInt32 &&& Int32.toUInt32 31)).toInt32)) &&& 252645135) fun x3 =>
  ul (x3 + ((x3.toUInt32 >>> ((8 : Int32).toUInt32 &&& Int32.toUInt32 31)).toInt32)) fun x4 =>
  ul (x4 + ((x4.toUInt32 >>> ((16 : Int32).toUInt32 &&& Int32.toUInt32 31)).toInt32)) fun x5 =>
  some ((x5 &&& 63), σ)
set_option maxHeartbeats 4000000 in
set_option maxRecDepth 100000 in
theorem c_J6_bitCount_0f7a4 (l : Launch) (D : va_G) (ad : Nat → Nat) (cs : Nat → ClassId) (J : uJ 99 ad) (σ : St) (v0 : Int32) (r : Int32) (σ' : St) (h : f_J6_bitCount_0f7a4 σ v0 = some (r, σ')) : uMi l yJ6_bitCount_0f7a4 wsJ6_bitCount_0f7a4 { frames := 0, cells := 0, slots := 0, locals := 0 } D vwCl (tyX cs) 99 ad (enX ad cs) [.int v0] σ r σ' := by
  refine u_met (Qf := uQi D vwCl 99 ad (enX ad cs) r σ') (cc := cJ6_bitCount_0f7a4) (maxL := 1) (ret := (some .int)) (lv := [(0, .int v0)]) J (by decide) rfl (Nat.le_of_ble_eq_true rfl) rfl rfl rfl ?_
  intro p e s m args below meth c ls hx hb C hr hlk G hl
  unfold f_J6_bitCount_0f7a4 at h
  obtain ⟨H, eH⟩ : ∃ H, H = s.heap := ⟨_, rfl⟩
  obtain ⟨locs, eL⟩ : ∃ locs : List Loc, locs = [] := ⟨_, rfl⟩
  refine u_start eH eL G ?_
  clear G eH eL
  intro G
  refine lv_iload_n hx hb dJ6_bitCount_0f7a4_0 rfl (lv_at hl 0 rfl) ?_
  refine lv_iload_n hx hb dJ6_bitCount_0f7a4_1 rfl (lv_at hl 0 rfl) ?_
  refine lv_iconst (v := 1) hx hb dJ6_bitCount_0f7a4_2 (by decide) ?_
  refine lv_iushr hx hb dJ6_bitCount_0f7a4_3 rfl ?_
  refine lv_ldcw (v := 1431655765) hx hb C.1.2.2.2.1 (C.1.2.2.2.2 (.constant RJ6 265 1431655765) (by decide +kernel)) dJ6_bitCount_0f7a4_4 ?_
  refine lv_iand hx hb dJ6_bitCount_0f7a4_7 ?_
  refine lv_isub hx hb dJ6_bitCount_0f7a4_8 ?_
  obtain ⟨x1, ex1, h⟩ := ul_of h
  refine u_nmi ex1 ?_
  refine lv_istore_n (lv' := [(0, .int x1)]) hx hb dJ6_bitCount_0f7a4_9 rfl hl (by decide) rfl (fun ls hl => ?_)
  refine lv_iload_n hx hb dJ6_bitCount_0f7a4_10 rfl (lv_at hl 0 rfl) ?_
  refine lv_ldcw (v := 858993459) hx hb C.1.2.2.2.1 (C.1.2.2.2.2 (.constant RJ6 266 858993459) (by decide +kernel)) dJ6_bitCount_0f7a4_11 ?_
  refine lv_iand hx hb dJ6_bitCount_0f7a4_14 ?_
  refine lv_iload_n hx hb dJ6_bitCount_0f7a4_15 rfl (lv_at hl 0 rfl) ?_
  refine lv_iconst (v := 2) hx hb dJ6_bitCount_0f7a4_16 (by decide) ?_
  refine lv_iushr hx hb dJ6_bitCount_0f7a4_17 rfl ?_
  refine lv_ldcw (v := 858993459) hx hb C.1.2.2.2.1 (C.1.2.2.2.2 (.constant RJ6 266 858993459) (by decide +kernel)) dJ6_bitCount_0f7a4_18 ?_
  refine lv_iand hx hb dJ6_bitCount_0f7a4_21 ?_
  refine lv_iadd hx hb dJ6_bitCount_0f7a4_22 ?_
  obtain ⟨x2, ex2, h⟩ := ul_of h
  refine u_nmi ex2 ?_
  refine lv_istore_n (lv' := [(0, .int x2)]) hx hb dJ6_bitCount_0f7a4_23 rfl hl (by decide) rfl (fun ls hl => ?_)
  refine lv_iload_n hx hb dJ6_bitCount_0f7a4_24 rfl (lv_at hl 0 rfl) ?_
  refine lv_iload_n hx hb dJ6_bitCount_0f7a4_25 rfl (lv_at hl 0 rfl) ?_
  refine lv_iconst (v := 4) hx hb dJ6_bitCount_0f7a4_26 (by decide) ?_
  refine lv_iushr hx hb dJ6_bitCount_0f7a4_27 rfl ?_
  refine lv_iadd hx hb dJ6_bitCount_0f7a4_28 ?_
  refine lv_ldcw (v := 252645135) hx hb C.1.2.2.2.1 (C.1.2.2.2.2 (.constant RJ6 267 252645135) (by decide +kernel)) dJ6_bitCount_0f7a4_29 ?_
  refine lv_iand hx hb dJ6_bitCount_0f7a4_32 ?_
  obtain ⟨x3, ex3, h⟩ := ul_of h
  refine u_nmi ex3 ?_
  refine lv_istore_n (lv' := [(0, .int x3)]) hx hb dJ6_bitCount_0f7a4_33 rfl hl (by decide) rfl (fun ls hl => ?_)
  refine lv_iload_n hx hb dJ6_bitCount_0f7a4_34 rfl (lv_at hl 0 rfl) ?_
  refine lv_iload_n hx hb dJ6_bitCount_0f7a4_35 rfl (lv_at hl 0 rfl) ?_
  refine lv_bipush (v := 8) hx hb dJ6_bitCount_0f7a4_36 (by decide) ?_
  refine lv_iushr hx hb dJ6_bitCount_0f7a4_38 rfl ?_
  refine lv_iadd hx hb dJ6_bitCount_0f7a4_39 ?_
  obtain ⟨x4, ex4, h⟩ := ul_of h
  refine u_nmi ex4 ?_
  refine lv_istore_n (lv' := [(0, .int x4)]) hx hb dJ6_bitCount_0f7a4_40 rfl hl (by decide) rfl (fun ls hl => ?_)
  refine lv_iload_n hx hb dJ6_bitCount_0f7a4_41 rfl (lv_at hl 0 rfl) ?_
  refine lv_iload_n hx hb dJ6_bitCount_0f7a4_42 rfl (lv_at hl 0 rfl) ?_
  refine lv_bipush (v := 16) hx hb dJ6_bitCount_0f7a4_43 (by decide) ?_
  refine lv_iushr hx hb dJ6_bitCount_0f7a4_45 rfl ?_
  refine lv_iadd hx hb dJ6_bitCount_0f7a4_46 ?_
  obtain ⟨x5, ex5, h⟩ := ul_of h
  refine u_nmi ex5 ?_
  refine lv_istore_n (lv' := [(0, .int x5)]) hx hb dJ6_bitCount_0f7a4_47 rfl hl (by decide) rfl (fun ls hl => ?_)
  refine lv_iload_n hx hb dJ6_bitCount_0f7a4_48 rfl (lv_at hl 0 rfl) ?_
  refine lv_bipush (v := 63) hx hb dJ6_bitCount_0f7a4_49 (by decide) ?_
  refine lv_iand hx hb dJ6_bitCount_0f7a4_51 ?_
  obtain ⟨rfl, rfl⟩ := u_end h
  exact u_iret hx hb hr hlk G dJ6_bitCount_0f7a4_52
/-! X2_show -/
def f_X2_show_28 : Nat → St → Nat → Int32 → Int32 → Int32 → Int32 → Int32 → Option (Int32 × St)
  | 0, _, _, _, _, _, _, _ => none
  | fuel + 1, σ, i0, v1, v2, v3, v4, v5 =>
    if 3 < v5 then
      if v3 = 4 then
        ub (f_J6_bitCount_0f7a4 σ (v2 &&& (v4 ^^^ (-1)))) fun r8 σ9 =>
        some (r8, σ9)
      else
        ui v3 4 <|
        ui v1 10 <|
        ui v1 10 <|
        ul (us σ (35 + 9 * i0 + 2 + v3.toNatClampNeg) v1.toNatClampNeg ((σ (35 + 9 * i0 + 2 + v3.toNatClampNeg) v1.toNatClampNeg) ||| v2)) fun σ14 =>
        ub (f_J6_bitCount_0f7a4 σ14 (v2 &&& (v4 ^^^ (-1)))) fun r15 σ16 =>
        some (r15, σ16)
    else
      ui v5 4 <|
      ui v1 10 <|
      ui v1 10 <|
      ul (us σ (35 + 9 * i0 + 2 + v5.toNatClampNeg) v1.toNatClampNeg ((σ (35 + 9 * i0 + 2 + v5.toNatClampNeg) v1.toNatClampNeg) &&& (v2 ^^^ (-1)))) fun σ21 =>
      ul (v5 + 1) fun x22 =>
      f_X2_show_28 fuel σ21 i0 v1 v2 v3 v4 x22
def f_X2_show (σ : St) (i0 : Nat) (v1 : Int32) (v2 : Int32) (v3 : Int32) : Option (Int32 × St) :=
  if v3 = 4 then
    ub (f_X2_known σ i0 v1) fun r5 σ6 =>
    ul (r5 ^^^ (-1)) fun x7 =>
    f_X2_show_28 fu σ6 i0 v1 v2 v3 x7 0
  else
    ui v3 4 <|
    ui v1 10 <|
    ul (σ (35 + 9 * i0 + 2 + v3.toNatClampNeg) v1.toNatClampNeg) fun x4 =>
    f_X2_show_28 fu σ i0 v1 v2 v3 x4 0
theorem fi_X2_show_2 : ∀ w ∈ u_ws RX2 TX2 5, w ∈ wsX2_show := by decide +kernel
set_option maxHeartbeats 4000000 in
set_option maxRecDepth 100000 in
theorem w_X2_show_28 {p : Program} {l : Launch} {e : Env} {s : State} {m : MethodId} {args : Array Value} {below : List Frame} {meth : Method} {c : Code} {D : va_G} {ad : Nat → Nat} {cs : Nat → ClassId} (C : uC p { frames := 1, cells := 0, slots := 0, locals := 21 } s m args c cX2_show 6 wsX2_show RX2 D vwCl (tyX cs) 99 ad (uAd 99 ad s.heap.size) 0 0) (hr : meth.sig.returnType = (some .int)) (hlk : meth.locks = false) {r : Int32} {σ' : St} :
    ∀ (n : Nat) (σ : St) (i0 : Nat) (v1 : Int32) (v2 : Int32) (v3 : Int32) (v4 : Int32) (v5 : Int32) (bi0 : i0 < 4), f_X2_show_28 n σ i0 v1 v2 v3 v4 v5 = some (r, σ') → ∀ (H : Heap) (locs : List Loc) (ls : Array Slot), uG D vwCl 99 ad (enX ad cs) (uAd 99 ad s.heap.size) s σ H locs → lv_has ls 6 [(0, .ref (ad (35 + 9 * i0))), (1, .int v1), (2, .int v2), (3, .int v3), (4, .int v4), (5, .int v5)] → W p l e { frames := 1, cells := 0, slots := 0, locals := 21 } s m args below meth c H locs 0 0 (MQ below (uQi D vwCl 99 ad (enX ad cs) r σ' s.heap.size) args s 0 0 (uAd 99 ad s.heap.size)) (F0 m 28 ls []) := by
  have hx := C.1.1
  have hb := C.1.2.1
  intro n
  induction n with
  | zero => intro σ i0 v1 v2 v3 v4 v5 bi0 h; exact absurd h (by simp [f_X2_show_28])
  | succ fuel ih =>
    intro σ i0 v1 v2 v3 v4 v5 bi0 h H locs ls G hl
    rw [f_X2_show_28] at h
    refine lv_iload hx hb dX2_show_28 (lv_at hl 5 rfl) ?_
    refine lv_iconst (v := 3) hx hb dX2_show_30 (by decide) ?_
    refine lv_icmp_gt (tgt := 55) hx hb dX2_show_31 (by decide) (fun q => ?_) (fun q => ?_)
    · have h := u_pos q h
      refine lv_iload_n hx hb dX2_show_55 rfl (lv_at hl 3 rfl) ?_
      refine lv_iconst (v := 4) hx hb dX2_show_56 (by decide) ?_
      refine lv_icmp_eq (tgt := 72) hx hb dX2_show_57 (by decide) (fun q => ?_) (fun q => ?_)
      · have h := u_pos q h
        refine lv_iload_n hx hb dX2_show_72 rfl (lv_at hl 2 rfl) ?_
        refine lv_iload hx hb dX2_show_73 (lv_at hl 4 rfl) ?_
        refine lv_iconst (v := (-1)) hx hb dX2_show_75 (by decide) ?_
        refine lv_ixor hx hb dX2_show_76 ?_
        refine lv_iand hx hb dX2_show_77 ?_
        obtain ⟨r8, σ9, er8, h⟩ := ub_of h
        refine u_callSi (As := [.int (v2 &&& (v4 ^^^ (-1)))]) (rest := []) C G (c_J6_bitCount_0f7a4 l D ad cs C.2.2.1 σ (v2 &&& (v4 ^^^ (-1))) r8 σ9 er8) (va_cwS 1 C.1.2.2.2.2 gX2_show_J6_bitCount_0f7a4 rfl rfl rfl (by decide +kernel) ⟨Nat.le_of_ble_eq_true rfl, Nat.le_of_ble_eq_true rfl⟩) rfl hl rfl (Nat.le_of_ble_eq_true rfl) dX2_show_78 (fun H locs G => ?_)
        obtain ⟨rfl, rfl⟩ := u_end h
        exact u_iret hx hb hr hlk G dX2_show_81
      · have h := u_neg q h
        refine lv_aload_n hx hb dX2_show_60 rfl (lv_at hl 0 rfl) ?_
        refine u_get (v := .ref (ad (35 + 9 * i0 + 1))) C G (obX_line bi0) (ci := 2) (N := 5) (Cn := RX2) (T := TX2) rfl fi_X2_show_2 0 (by decide) (by decide +kernel) rfl dX2_show_61 ?_
        refine lv_iload_n hx hb dX2_show_64 rfl (lv_at hl 3 rfl) ?_
        obtain ⟨g10, h⟩ := ui_of h
        refine u_aald C G (rrX_cells bi0) (t0 := 5) rfl rfl g10 dX2_show_65 (fun b11 => ?_)
        refine lv_iload_n hx hb dX2_show_66 rfl (lv_at hl 1 rfl) ?_
        refine lv_dup2_11 hx hb dX2_show_67 rfl rfl ?_
        obtain ⟨g12, h⟩ := ui_of h
        refine u_iald C G (arX_crow bi0 b11) (t0 := 0) rfl g12 dX2_show_68 ?_
        refine lv_iload_n hx hb dX2_show_69 rfl (lv_at hl 2 rfl) ?_
        refine lv_ior hx hb dX2_show_70 ?_
        obtain ⟨g13, h⟩ := ui_of h
        refine u_iast C G (arX_crow bi0 b11) (t0 := 0) rfl g13 dX2_show_71 (fun H locs G => ?_)
        obtain ⟨σ14, eσ14, h⟩ := ul_of h
        replace G := uG_eq eσ14 G
        refine lv_iload_n hx hb dX2_show_72 rfl (lv_at hl 2 rfl) ?_
        refine lv_iload hx hb dX2_show_73 (lv_at hl 4 rfl) ?_
        refine lv_iconst (v := (-1)) hx hb dX2_show_75 (by decide) ?_
        refine lv_ixor hx hb dX2_show_76 ?_
        refine lv_iand hx hb dX2_show_77 ?_
        obtain ⟨r15, σ16, er15, h⟩ := ub_of h
        refine u_callSi (As := [.int (v2 &&& (v4 ^^^ (-1)))]) (rest := []) C G (c_J6_bitCount_0f7a4 l D ad cs C.2.2.1 σ14 (v2 &&& (v4 ^^^ (-1))) r15 σ16 er15) (va_cwS 1 C.1.2.2.2.2 gX2_show_J6_bitCount_0f7a4 rfl rfl rfl (by decide +kernel) ⟨Nat.le_of_ble_eq_true rfl, Nat.le_of_ble_eq_true rfl⟩) rfl hl rfl (Nat.le_of_ble_eq_true rfl) dX2_show_78 (fun H locs G => ?_)
        obtain ⟨rfl, rfl⟩ := u_end h
        exact u_iret hx hb hr hlk G dX2_show_81
    · have h := u_neg q h
      refine lv_aload_n hx hb dX2_show_34 rfl (lv_at hl 0 rfl) ?_
      refine u_get (v := .ref (ad (35 + 9 * i0 + 1))) C G (obX_line bi0) (ci := 2) (N := 5) (Cn := RX2) (T := TX2) rfl fi_X2_show_2 0 (by decide) (by decide +kernel) rfl dX2_show_35 ?_
      refine lv_iload hx hb dX2_show_38 (lv_at hl 5 rfl) ?_
      obtain ⟨g17, h⟩ := ui_of h
      refine u_aald C G (rrX_cells bi0) (t0 := 5) rfl rfl g17 dX2_show_40 (fun b18 => ?_)
      refine lv_iload_n hx hb dX2_show_41 rfl (lv_at hl 1 rfl) ?_
      refine lv_dup2_11 hx hb dX2_show_42 rfl rfl ?_
      obtain ⟨g19, h⟩ := ui_of h
      refine u_iald C G (arX_crow bi0 b18) (t0 := 0) rfl g19 dX2_show_43 ?_
      refine lv_iload_n hx hb dX2_show_44 rfl (lv_at hl 2 rfl) ?_
      refine lv_iconst (v := (-1)) hx hb dX2_show_45 (by decide) ?_
      refine lv_ixor hx hb dX2_show_46 ?_
      refine lv_iand hx hb dX2_show_47 ?_
      obtain ⟨g20, h⟩ := ui_of h
      refine u_iast C G (arX_crow bi0 b18) (t0 := 0) rfl g20 dX2_show_48 (fun H locs G => ?_)
      obtain ⟨σ21, eσ21, h⟩ := ul_of h
      replace G := uG_eq eσ21 G
      obtain ⟨x22, ex22, h⟩ := ul_of h
      refine lv_iinc (v := x22) (lv' := [(5, .int x22), (0, .ref (ad (35 + 9 * i0))), (1, .int v1), (2, .int v2), (3, .int v3), (4, .int v4)]) hx hb dX2_show_49 hl (k := 5) rfl (by rw [ex22]; rfl) (by decide) rfl (fun ls hl => ?_)
      refine lv_goto (tgt := 28) hx hb dX2_show_52 (by decide) ?_
      exact ih σ21 i0 v1 v2 v3 v4 x22 bi0 h H locs ls G (lv_sub hl [1, 2, 3, 4, 5, 0] rfl)
set_option maxHeartbeats 4000000 in
set_option maxRecDepth 100000 in
theorem c_X2_show (l : Launch) (D : va_G) (ad : Nat → Nat) (cs : Nat → ClassId) (J : uJ 99 ad) (σ : St) (i0 : Nat) (v1 : Int32) (v2 : Int32) (v3 : Int32) (bi0 : i0 < 4) (r : Int32) (σ' : St) (h : f_X2_show σ i0 v1 v2 v3 = some (r, σ')) : uMi l yX2_show wsX2_show { frames := 1, cells := 0, slots := 0, locals := 21 } D vwCl (tyX cs) 99 ad (enX ad cs) [.ref (ad (35 + 9 * i0)), .int v1, .int v2, .int v3] σ r σ' := by
  refine u_met (Qf := uQi D vwCl 99 ad (enX ad cs) r σ') (cc := cX2_show) (maxL := 6) (ret := (some .int)) (lv := [(0, .ref (ad (35 + 9 * i0))), (1, .int v1), (2, .int v2), (3, .int v3)]) J (by decide) rfl (Nat.le_of_ble_eq_true rfl) rfl rfl rfl ?_
  intro p e s m args below meth c ls hx hb C hr hlk G hl
  unfold f_X2_show at h
  obtain ⟨H, eH⟩ : ∃ H, H = s.heap := ⟨_, rfl⟩
  obtain ⟨locs, eL⟩ : ∃ locs : List Loc, locs = [] := ⟨_, rfl⟩
  refine u_start eH eL G ?_
  clear G eH eL
  intro G
  refine lv_iload_n hx hb dX2_show_0 rfl (lv_at hl 3 rfl) ?_
  refine lv_iconst (v := 4) hx hb dX2_show_1 (by decide) ?_
  refine lv_icmp_ne (tgt := 15) hx hb dX2_show_2 (by decide) (fun q => ?_) (fun q => ?_)
  · have h := u_neg q h
    refine lv_aload_n hx hb dX2_show_15 rfl (lv_at hl 0 rfl) ?_
    refine u_get (v := .ref (ad (35 + 9 * i0 + 1))) C G (obX_line bi0) (ci := 2) (N := 5) (Cn := RX2) (T := TX2) rfl fi_X2_show_2 0 (by decide) (by decide +kernel) rfl dX2_show_16 ?_
    refine lv_iload_n hx hb dX2_show_19 rfl (lv_at hl 3 rfl) ?_
    obtain ⟨g1, h⟩ := ui_of h
    refine u_aald C G (rrX_cells bi0) (t0 := 5) rfl rfl g1 dX2_show_20 (fun b2 => ?_)
    refine lv_iload_n hx hb dX2_show_21 rfl (lv_at hl 1 rfl) ?_
    obtain ⟨g3, h⟩ := ui_of h
    refine u_iald C G (arX_crow bi0 b2) (t0 := 0) rfl g3 dX2_show_22 ?_
    obtain ⟨x4, ex4, h⟩ := ul_of h
    refine u_nmi ex4 ?_
    refine lv_istore (lv' := [(4, .int x4), (0, .ref (ad (35 + 9 * i0))), (1, .int v1), (2, .int v2), (3, .int v3)]) hx hb dX2_show_23 hl (by decide) rfl (fun ls hl => ?_)
    refine lv_iconst (v := 0) hx hb dX2_show_25 (by decide) ?_
    refine lv_istore (lv' := [(5, .int 0), (4, .int x4), (0, .ref (ad (35 + 9 * i0))), (1, .int v1), (2, .int v2), (3, .int v3)]) hx hb dX2_show_26 hl (by decide) rfl (fun ls hl => ?_)
    exact w_X2_show_28 C hr hlk fu σ i0 v1 v2 v3 x4 0 bi0 h H locs ls G (lv_sub hl [2, 3, 4, 5, 1, 0] rfl)
  · have h := u_pos q h
    refine lv_aload_n hx hb dX2_show_5 rfl (lv_at hl 0 rfl) ?_
    refine lv_iload_n hx hb dX2_show_6 rfl (lv_at hl 1 rfl) ?_
    obtain ⟨r5, σ6, er5, h⟩ := ub_of h
    refine u_callVi (As := [.int v1]) (rest := []) C G (c_X2_known l D ad cs C.2.2.1 σ i0 v1 bi0 r5 σ6 er5) (cwV 1 C.1.2.2.2.2 gX2_show_X2_known rfl rfl rfl (by decide +kernel) ⟨Nat.le_of_ble_eq_true rfl, Nat.le_of_ble_eq_true rfl⟩) (obX_line bi0) (ci := 2) (T := TX2) rfl rfl hl rfl (Nat.le_of_ble_eq_true rfl) dX2_show_7 (fun H locs G => ?_)
    refine lv_iconst (v := (-1)) hx hb dX2_show_10 (by decide) ?_
    refine lv_ixor hx hb dX2_show_11 ?_
    refine lv_goto (tgt := 23) hx hb dX2_show_12 (by decide) ?_
    obtain ⟨x7, ex7, h⟩ := ul_of h
    refine u_nmi ex7 ?_
    refine lv_istore (lv' := [(4, .int x7), (0, .ref (ad (35 + 9 * i0))), (1, .int v1), (2, .int v2), (3, .int v3)]) hx hb dX2_show_23 hl (by decide) rfl (fun ls hl => ?_)
    refine lv_iconst (v := 0) hx hb dX2_show_25 (by decide) ?_
    refine lv_istore (lv' := [(5, .int 0), (4, .int x7), (0, .ref (ad (35 + 9 * i0))), (1, .int v1), (2, .int v2), (3, .int v3)]) hx hb dX2_show_26 hl (by decide) rfl (fun ls hl => ?_)
    exact w_X2_show_28 C hr hlk fu σ6 i0 v1 v2 v3 x7 0 bi0 h H locs ls G (lv_sub hl [2, 3, 4, 5, 1, 0] rfl)
/-! X2_valueAt -/
def f_X2_valueAt_2 : Nat → St → Nat → Int32 → Int32 → Int32 → Option (Int32 × St)
  | 0, _, _, _, _, _ => none
  | fuel + 1, σ, i0, v1, v2, v3 =>
    if 3 < v3 then
      some ((4 : Int32), σ)
    else
      ui v3 4 <|
      ui v1 10 <|
      if (((σ (35 + 9 * i0 + 2 + v3.toNatClampNeg) v1.toNatClampNeg) >>> (v2 &&& 31)) &&& 1) = 0 then
        ul (v3 + 1) fun x4 =>
        f_X2_valueAt_2 fuel σ i0 v1 v2 x4
      else
        some (v3, σ)
def f_X2_valueAt (σ : St) (i0 : Nat) (v1 : Int32) (v2 : Int32) : Option (Int32 × St) :=
  f_X2_valueAt_2 fu σ i0 v1 v2 0
theorem fi_X2_valueAt_2 : ∀ w ∈ u_ws RX2 TX2 5, w ∈ wsX2_valueAt := by decide +kernel
set_option maxHeartbeats 4000000 in
set_option maxRecDepth 100000 in
theorem w_X2_valueAt_2 {p : Program} {l : Launch} {e : Env} {s : State} {m : MethodId} {args : Array Value} {below : List Frame} {meth : Method} {c : Code} {D : va_G} {ad : Nat → Nat} {cs : Nat → ClassId} (C : uC p { frames := 0, cells := 0, slots := 0, locals := 0 } s m args c cX2_valueAt 4 wsX2_valueAt RX2 D vwCl (tyX cs) 99 ad (uAd 99 ad s.heap.size) 0 0) (hr : meth.sig.returnType = (some .int)) (hlk : meth.locks = false) {r : Int32} {σ' : St} :
    ∀ (n : Nat) (σ : St) (i0 : Nat) (v1 : Int32) (v2 : Int32) (v3 : Int32) (bi0 : i0 < 4), f_X2_valueAt_2 n σ i0 v1 v2 v3 = some (r, σ') → ∀ (H : Heap) (locs : List Loc) (ls : Array Slot), uG D vwCl 99 ad (enX ad cs) (uAd 99 ad s.heap.size) s σ H locs → lv_has ls 4 [(0, .ref (ad (35 + 9 * i0))), (1, .int v1), (2, .int v2), (3, .int v3)] → W p l e { frames := 0, cells := 0, slots := 0, locals := 0 } s m args below meth c H locs 0 0 (MQ below (uQi D vwCl 99 ad (enX ad cs) r σ' s.heap.size) args s 0 0 (uAd 99 ad s.heap.size)) (F0 m 2 ls []) := by
  have hx := C.1.1
  have hb := C.1.2.1
  intro n
  induction n with
  | zero => intro σ i0 v1 v2 v3 bi0 h; exact absurd h (by simp [f_X2_valueAt_2])
  | succ fuel ih =>
    intro σ i0 v1 v2 v3 bi0 h H locs ls G hl
    rw [f_X2_valueAt_2] at h
    refine lv_iload_n hx hb dX2_valueAt_2 rfl (lv_at hl 3 rfl) ?_
    refine lv_iconst (v := 3) hx hb dX2_valueAt_3 (by decide) ?_
    refine lv_icmp_gt (tgt := 30) hx hb dX2_valueAt_4 (by decide) (fun q => ?_) (fun q => ?_)
    · have h := u_pos q h
      refine lv_iconst (v := 4) hx hb dX2_valueAt_30 (by decide) ?_
      obtain ⟨rfl, rfl⟩ := u_end h
      exact u_iret hx hb hr hlk G dX2_valueAt_31
    · have h := u_neg q h
      refine lv_aload_n hx hb dX2_valueAt_7 rfl (lv_at hl 0 rfl) ?_
      refine u_get (v := .ref (ad (35 + 9 * i0 + 1))) C G (obX_line bi0) (ci := 2) (N := 5) (Cn := RX2) (T := TX2) rfl fi_X2_valueAt_2 0 (by decide) (by decide +kernel) rfl dX2_valueAt_8 ?_
      refine lv_iload_n hx hb dX2_valueAt_11 rfl (lv_at hl 3 rfl) ?_
      obtain ⟨g1, h⟩ := ui_of h
      refine u_aald C G (rrX_cells bi0) (t0 := 5) rfl rfl g1 dX2_valueAt_12 (fun b2 => ?_)
      refine lv_iload_n hx hb dX2_valueAt_13 rfl (lv_at hl 1 rfl) ?_
      obtain ⟨g3, h⟩ := ui_of h
      refine u_iald C G (arX_crow bi0 b2) (t0 := 0) rfl g3 dX2_valueAt_14 ?_
      refine lv_iload_n hx hb dX2_valueAt_15 rfl (lv_at hl 2 rfl) ?_
      refine lv_ishr hx hb dX2_valueAt_16 ?_
      refine lv_iconst (v := 1) hx hb dX2_valueAt_17 (by decide) ?_
      refine lv_iand hx hb dX2_valueAt_18 ?_
      refine lv_if_eq (tgt := 24) hx hb dX2_valueAt_19 (by decide) (fun q => ?_) (fun q => ?_)
      · have h := u_pos q h
        obtain ⟨x4, ex4, h⟩ := ul_of h
        refine lv_iinc (v := x4) (lv' := [(3, .int x4), (0, .ref (ad (35 + 9 * i0))), (1, .int v1), (2, .int v2)]) hx hb dX2_valueAt_24 hl (k := 3) rfl (by rw [ex4]; rfl) (by decide) rfl (fun ls hl => ?_)
        refine lv_goto (tgt := 2) hx hb dX2_valueAt_27 (by decide) ?_
        exact ih σ i0 v1 v2 x4 bi0 h H locs ls G (lv_sub hl [1, 2, 3, 0] rfl)
      · have h := u_neg q h
        refine lv_iload_n hx hb dX2_valueAt_22 rfl (lv_at hl 3 rfl) ?_
        obtain ⟨rfl, rfl⟩ := u_end h
        exact u_iret hx hb hr hlk G dX2_valueAt_23
set_option maxHeartbeats 4000000 in
set_option maxRecDepth 100000 in
theorem c_X2_valueAt (l : Launch) (D : va_G) (ad : Nat → Nat) (cs : Nat → ClassId) (J : uJ 99 ad) (σ : St) (i0 : Nat) (v1 : Int32) (v2 : Int32) (bi0 : i0 < 4) (r : Int32) (σ' : St) (h : f_X2_valueAt σ i0 v1 v2 = some (r, σ')) : uMi l yX2_valueAt wsX2_valueAt { frames := 0, cells := 0, slots := 0, locals := 0 } D vwCl (tyX cs) 99 ad (enX ad cs) [.ref (ad (35 + 9 * i0)), .int v1, .int v2] σ r σ' := by
  refine u_met (Qf := uQi D vwCl 99 ad (enX ad cs) r σ') (cc := cX2_valueAt) (maxL := 4) (ret := (some .int)) (lv := [(0, .ref (ad (35 + 9 * i0))), (1, .int v1), (2, .int v2)]) J (by decide) rfl (Nat.le_of_ble_eq_true rfl) rfl rfl rfl ?_
  intro p e s m args below meth c ls hx hb C hr hlk G hl
  unfold f_X2_valueAt at h
  obtain ⟨H, eH⟩ : ∃ H, H = s.heap := ⟨_, rfl⟩
  obtain ⟨locs, eL⟩ : ∃ locs : List Loc, locs = [] := ⟨_, rfl⟩
  refine u_start eH eL G ?_
  clear G eH eL
  intro G
  refine lv_iconst (v := 0) hx hb dX2_valueAt_0 (by decide) ?_
  refine lv_istore_n (lv' := [(3, .int 0), (0, .ref (ad (35 + 9 * i0))), (1, .int v1), (2, .int v2)]) hx hb dX2_valueAt_1 rfl hl (by decide) rfl (fun ls hl => ?_)
  exact w_X2_valueAt_2 C hr hlk fu σ i0 v1 v2 0 bi0 h H locs ls G (lv_sub hl [1, 2, 3, 0] rfl)
/-! X2_shows -/
def f_X2_shows_4 : Nat → St → Nat → Int32 → Int32 → Int32 → Option (Int32 × St)
  | 0, _, _, _, _, _ => none
  | fuel + 1, σ, i0, v1, v2, v3 =>
    if 10 ≤ v3 then
      if v2 = 0 then
        some ((0 : Int32), σ)
      else
        some ((1 : Int32), σ)
    else
      ui v1 4 <|
      ui v3 10 <|
      ul (v2 ||| (σ (35 + 9 * i0 + 2 + v1.toNatClampNeg) v3.toNatClampNeg)) fun x4 =>
      ul (v3 + 1) fun x5 =>
      f_X2_shows_4 fuel σ i0 v1 x4 x5
def f_X2_shows (σ : St) (i0 : Nat) (v1 : Int32) : Option (Int32 × St) :=
  f_X2_shows_4 fu σ i0 v1 0 0
theorem fi_X2_shows_2 : ∀ w ∈ u_ws RX2 TX2 5, w ∈ wsX2_shows := by decide +kernel
set_option maxHeartbeats 4000000 in
set_option maxRecDepth 100000 in
theorem w_X2_shows_4 {p : Program} {l : Launch} {e : Env} {s : State} {m : MethodId} {args : Array Value} {below : List Frame} {meth : Method} {c : Code} {D : va_G} {ad : Nat → Nat} {cs : Nat → ClassId} (C : uC p { frames := 0, cells := 0, slots := 0, locals := 0 } s m args c cX2_shows 4 wsX2_shows RX2 D vwCl (tyX cs) 99 ad (uAd 99 ad s.heap.size) 0 0) (hr : meth.sig.returnType = (some .boolean)) (hlk : meth.locks = false) {r : Int32} {σ' : St} :
    ∀ (n : Nat) (σ : St) (i0 : Nat) (v1 : Int32) (v2 : Int32) (v3 : Int32) (bi0 : i0 < 4), f_X2_shows_4 n σ i0 v1 v2 v3 = some (r, σ') → ∀ (H : Heap) (locs : List Loc) (ls : Array Slot), uG D vwCl 99 ad (enX ad cs) (uAd 99 ad s.heap.size) s σ H locs → lv_has ls 4 [(0, .ref (ad (35 + 9 * i0))), (1, .int v1), (2, .int v2), (3, .int v3)] → W p l e { frames := 0, cells := 0, slots := 0, locals := 0 } s m args below meth c H locs 0 0 (MQ below (uQi D vwCl 99 ad (enX ad cs) r σ' s.heap.size) args s 0 0 (uAd 99 ad s.heap.size)) (F0 m 4 ls []) := by
  have hx := C.1.1
  have hb := C.1.2.1
  intro n
  induction n with
  | zero => intro σ i0 v1 v2 v3 bi0 h; exact absurd h (by simp [f_X2_shows_4])
  | succ fuel ih =>
    intro σ i0 v1 v2 v3 bi0 h H locs ls G hl
    rw [f_X2_shows_4] at h
    refine lv_iload_n hx hb dX2_shows_4 rfl (lv_at hl 3 rfl) ?_
    refine lv_bipush (v := 10) hx hb dX2_shows_5 (by decide) ?_
    refine lv_icmp_ge (tgt := 27) hx hb dX2_shows_7 (by decide) (fun q => ?_) (fun q => ?_)
    · have h := u_pos q h
      refine lv_iload_n hx hb dX2_shows_27 rfl (lv_at hl 2 rfl) ?_
      refine lv_if_eq (tgt := 35) hx hb dX2_shows_28 (by decide) (fun q => ?_) (fun q => ?_)
      · have h := u_pos q h
        refine lv_iconst (v := 0) hx hb dX2_shows_35 (by decide) ?_
        obtain ⟨rfl, rfl⟩ := u_end h
        exact u_zret hx hb hr hlk G (by decide) dX2_shows_36
      · have h := u_neg q h
        refine lv_iconst (v := 1) hx hb dX2_shows_31 (by decide) ?_
        refine lv_goto (tgt := 36) hx hb dX2_shows_32 (by decide) ?_
        obtain ⟨rfl, rfl⟩ := u_end h
        exact u_zret hx hb hr hlk G (by decide) dX2_shows_36
    · have h := u_neg q h
      refine lv_iload_n hx hb dX2_shows_10 rfl (lv_at hl 2 rfl) ?_
      refine lv_aload_n hx hb dX2_shows_11 rfl (lv_at hl 0 rfl) ?_
      refine u_get (v := .ref (ad (35 + 9 * i0 + 1))) C G (obX_line bi0) (ci := 2) (N := 5) (Cn := RX2) (T := TX2) rfl fi_X2_shows_2 0 (by decide) (by decide +kernel) rfl dX2_shows_12 ?_
      refine lv_iload_n hx hb dX2_shows_15 rfl (lv_at hl 1 rfl) ?_
      obtain ⟨g1, h⟩ := ui_of h
      refine u_aald C G (rrX_cells bi0) (t0 := 5) rfl rfl g1 dX2_shows_16 (fun b2 => ?_)
      refine lv_iload_n hx hb dX2_shows_17 rfl (lv_at hl 3 rfl) ?_
      obtain ⟨g3, h⟩ := ui_of h
      refine u_iald C G (arX_crow bi0 b2) (t0 := 0) rfl g3 dX2_shows_18 ?_
      refine lv_ior hx hb dX2_shows_19 ?_
      obtain ⟨x4, ex4, h⟩ := ul_of h
      refine u_nmi ex4 ?_
      refine lv_istore_n (lv' := [(2, .int x4), (0, .ref (ad (35 + 9 * i0))), (1, .int v1), (3, .int v3)]) hx hb dX2_shows_20 rfl hl (by decide) rfl (fun ls hl => ?_)
      obtain ⟨x5, ex5, h⟩ := ul_of h
      refine lv_iinc (v := x5) (lv' := [(3, .int x5), (2, .int x4), (0, .ref (ad (35 + 9 * i0))), (1, .int v1)]) hx hb dX2_shows_21 hl (k := 3) rfl (by rw [ex5]; rfl) (by decide) rfl (fun ls hl => ?_)
      refine lv_goto (tgt := 4) hx hb dX2_shows_24 (by decide) ?_
      exact ih σ i0 v1 x4 x5 bi0 h H locs ls G (lv_sub hl [2, 3, 1, 0] rfl)
set_option maxHeartbeats 4000000 in
set_option maxRecDepth 100000 in
theorem c_X2_shows (l : Launch) (D : va_G) (ad : Nat → Nat) (cs : Nat → ClassId) (J : uJ 99 ad) (σ : St) (i0 : Nat) (v1 : Int32) (bi0 : i0 < 4) (r : Int32) (σ' : St) (h : f_X2_shows σ i0 v1 = some (r, σ')) : uMi l yX2_shows wsX2_shows { frames := 0, cells := 0, slots := 0, locals := 0 } D vwCl (tyX cs) 99 ad (enX ad cs) [.ref (ad (35 + 9 * i0)), .int v1] σ r σ' := by
  refine u_met (Qf := uQi D vwCl 99 ad (enX ad cs) r σ') (cc := cX2_shows) (maxL := 4) (ret := (some .boolean)) (lv := [(0, .ref (ad (35 + 9 * i0))), (1, .int v1)]) J (by decide) rfl (Nat.le_of_ble_eq_true rfl) rfl rfl rfl ?_
  intro p e s m args below meth c ls hx hb C hr hlk G hl
  unfold f_X2_shows at h
  obtain ⟨H, eH⟩ : ∃ H, H = s.heap := ⟨_, rfl⟩
  obtain ⟨locs, eL⟩ : ∃ locs : List Loc, locs = [] := ⟨_, rfl⟩
  refine u_start eH eL G ?_
  clear G eH eL
  intro G
  refine lv_iconst (v := 0) hx hb dX2_shows_0 (by decide) ?_
  refine lv_istore_n (lv' := [(2, .int 0), (0, .ref (ad (35 + 9 * i0))), (1, .int v1)]) hx hb dX2_shows_1 rfl hl (by decide) rfl (fun ls hl => ?_)
  refine lv_iconst (v := 0) hx hb dX2_shows_2 (by decide) ?_
  refine lv_istore_n (lv' := [(3, .int 0), (2, .int 0), (0, .ref (ad (35 + 9 * i0))), (1, .int v1)]) hx hb dX2_shows_3 rfl hl (by decide) rfl (fun ls hl => ?_)
  exact w_X2_shows_4 C hr hlk fu σ i0 v1 0 0 bi0 h H locs ls G (lv_sub hl [2, 3, 1, 0] rfl)
/-! X2_sizeKnown -/
def f_X2_sizeKnown_4 : Nat → St → Nat → Int32 → Int32 → Option (Int32 × St)
  | 0, _, _, _, _ => none
  | fuel + 1, σ, i0, v1, v2 =>
    if 10 ≤ v2 then
      some (v1, σ)
    else
      ub (f_X2_known σ i0 v2) fun r1 σ2 =>
      ub (f_J6_bitCount_0f7a4 σ2 r1) fun r3 σ4 =>
      ul (v1 + r3) fun x5 =>
      ul (v2 + 1) fun x6 =>
      f_X2_sizeKnown_4 fuel σ4 i0 x5 x6
def f_X2_sizeKnown (σ : St) (i0 : Nat) : Option (Int32 × St) :=
  f_X2_sizeKnown_4 fu σ i0 0 0
set_option maxHeartbeats 4000000 in
set_option maxRecDepth 100000 in
theorem w_X2_sizeKnown_4 {p : Program} {l : Launch} {e : Env} {s : State} {m : MethodId} {args : Array Value} {below : List Frame} {meth : Method} {c : Code} {D : va_G} {ad : Nat → Nat} {cs : Nat → ClassId} (C : uC p { frames := 1, cells := 0, slots := 0, locals := 21 } s m args c cX2_sizeKnown 3 wsX2_sizeKnown RX2 D vwCl (tyX cs) 99 ad (uAd 99 ad s.heap.size) 0 0) (hr : meth.sig.returnType = (some .int)) (hlk : meth.locks = false) {r : Int32} {σ' : St} :
    ∀ (n : Nat) (σ : St) (i0 : Nat) (v1 : Int32) (v2 : Int32) (bi0 : i0 < 4), f_X2_sizeKnown_4 n σ i0 v1 v2 = some (r, σ') → ∀ (H : Heap) (locs : List Loc) (ls : Array Slot), uG D vwCl 99 ad (enX ad cs) (uAd 99 ad s.heap.size) s σ H locs → lv_has ls 3 [(0, .ref (ad (35 + 9 * i0))), (1, .int v1), (2, .int v2)] → W p l e { frames := 1, cells := 0, slots := 0, locals := 21 } s m args below meth c H locs 0 0 (MQ below (uQi D vwCl 99 ad (enX ad cs) r σ' s.heap.size) args s 0 0 (uAd 99 ad s.heap.size)) (F0 m 4 ls []) := by
  have hx := C.1.1
  have hb := C.1.2.1
  intro n
  induction n with
  | zero => intro σ i0 v1 v2 bi0 h; exact absurd h (by simp [f_X2_sizeKnown_4])
  | succ fuel ih =>
    intro σ i0 v1 v2 bi0 h H locs ls G hl
    rw [f_X2_sizeKnown_4] at h
    refine lv_iload_n hx hb dX2_sizeKnown_4 rfl (lv_at hl 2 rfl) ?_
    refine lv_bipush (v := 10) hx hb dX2_sizeKnown_5 (by decide) ?_
    refine lv_icmp_ge (tgt := 27) hx hb dX2_sizeKnown_7 (by decide) (fun q => ?_) (fun q => ?_)
    · have h := u_pos q h
      refine lv_iload_n hx hb dX2_sizeKnown_27 rfl (lv_at hl 1 rfl) ?_
      obtain ⟨rfl, rfl⟩ := u_end h
      exact u_iret hx hb hr hlk G dX2_sizeKnown_28
    · have h := u_neg q h
      refine lv_iload_n hx hb dX2_sizeKnown_10 rfl (lv_at hl 1 rfl) ?_
      refine lv_aload_n hx hb dX2_sizeKnown_11 rfl (lv_at hl 0 rfl) ?_
      refine lv_iload_n hx hb dX2_sizeKnown_12 rfl (lv_at hl 2 rfl) ?_
      obtain ⟨r1, σ2, er1, h⟩ := ub_of h
      refine u_callVi (As := [.int v2]) (rest := [.int v1]) C G (c_X2_known l D ad cs C.2.2.1 σ i0 v2 bi0 r1 σ2 er1) (cwV 1 C.1.2.2.2.2 gX2_sizeKnown_X2_known rfl rfl rfl (by decide +kernel) ⟨Nat.le_of_ble_eq_true rfl, Nat.le_of_ble_eq_true rfl⟩) (obX_line bi0) (ci := 2) (T := TX2) rfl rfl hl rfl (Nat.le_of_ble_eq_true rfl) dX2_sizeKnown_13 (fun H locs G => ?_)
      obtain ⟨r3, σ4, er3, h⟩ := ub_of h
      refine u_callSi (As := [.int r1]) (rest := [.int v1]) C G (c_J6_bitCount_0f7a4 l D ad cs C.2.2.1 σ2 r1 r3 σ4 er3) (va_cwS 1 C.1.2.2.2.2 gX2_sizeKnown_J6_bitCount_0f7a4 rfl rfl rfl (by decide +kernel) ⟨Nat.le_of_ble_eq_true rfl, Nat.le_of_ble_eq_true rfl⟩) rfl hl rfl (Nat.le_of_ble_eq_true rfl) dX2_sizeKnown_16 (fun H locs G => ?_)
      refine lv_iadd hx hb dX2_sizeKnown_19 ?_
      obtain ⟨x5, ex5, h⟩ := ul_of h
      refine u_nmi ex5 ?_
      refine lv_istore_n (lv' := [(1, .int x5), (0, .ref (ad (35 + 9 * i0))), (2, .int v2)]) hx hb dX2_sizeKnown_20 rfl hl (by decide) rfl (fun ls hl => ?_)
      obtain ⟨x6, ex6, h⟩ := ul_of h
      refine lv_iinc (v := x6) (lv' := [(2, .int x6), (1, .int x5), (0, .ref (ad (35 + 9 * i0)))]) hx hb dX2_sizeKnown_21 hl (k := 2) rfl (by rw [ex6]; rfl) (by decide) rfl (fun ls hl => ?_)
      refine lv_goto (tgt := 4) hx hb dX2_sizeKnown_24 (by decide) ?_
      exact ih σ4 i0 x5 x6 bi0 h H locs ls G (lv_sub hl [2, 1, 0] rfl)
set_option maxHeartbeats 4000000 in
set_option maxRecDepth 100000 in
theorem c_X2_sizeKnown (l : Launch) (D : va_G) (ad : Nat → Nat) (cs : Nat → ClassId) (J : uJ 99 ad) (σ : St) (i0 : Nat) (bi0 : i0 < 4) (r : Int32) (σ' : St) (h : f_X2_sizeKnown σ i0 = some (r, σ')) : uMi l yX2_sizeKnown wsX2_sizeKnown { frames := 1, cells := 0, slots := 0, locals := 21 } D vwCl (tyX cs) 99 ad (enX ad cs) [.ref (ad (35 + 9 * i0))] σ r σ' := by
  refine u_met (Qf := uQi D vwCl 99 ad (enX ad cs) r σ') (cc := cX2_sizeKnown) (maxL := 3) (ret := (some .int)) (lv := [(0, .ref (ad (35 + 9 * i0)))]) J (by decide) rfl (Nat.le_of_ble_eq_true rfl) rfl rfl rfl ?_
  intro p e s m args below meth c ls hx hb C hr hlk G hl
  unfold f_X2_sizeKnown at h
  obtain ⟨H, eH⟩ : ∃ H, H = s.heap := ⟨_, rfl⟩
  obtain ⟨locs, eL⟩ : ∃ locs : List Loc, locs = [] := ⟨_, rfl⟩
  refine u_start eH eL G ?_
  clear G eH eL
  intro G
  refine lv_iconst (v := 0) hx hb dX2_sizeKnown_0 (by decide) ?_
  refine lv_istore_n (lv' := [(1, .int 0), (0, .ref (ad (35 + 9 * i0)))]) hx hb dX2_sizeKnown_1 rfl hl (by decide) rfl (fun ls hl => ?_)
  refine lv_iconst (v := 0) hx hb dX2_sizeKnown_2 (by decide) ?_
  refine lv_istore_n (lv' := [(2, .int 0), (1, .int 0), (0, .ref (ad (35 + 9 * i0)))]) hx hb dX2_sizeKnown_3 rfl hl (by decide) rfl (fun ls hl => ?_)
  exact w_X2_sizeKnown_4 C hr hlk fu σ i0 0 0 bi0 h H locs ls G (lv_sub hl [2, 1, 0] rfl)
/-! X2_isFull -/
def f_X2_isFull (σ : St) (i0 : Nat) : Option (Int32 × St) :=
  if (σ (35 + 9 * i0) 4) < 3 then
    some ((0 : Int32), σ)
  else
    some ((1 : Int32), σ)
theorem fi_X2_isFull_2 : ∀ w ∈ u_ws RX2 TX2 5, w ∈ wsX2_isFull := by decide +kernel
set_option maxHeartbeats 4000000 in
set_option maxRecDepth 100000 in
theorem c_X2_isFull (l : Launch) (D : va_G) (ad : Nat → Nat) (cs : Nat → ClassId) (J : uJ 99 ad) (σ : St) (i0 : Nat) (bi0 : i0 < 4) (r : Int32) (σ' : St) (h : f_X2_isFull σ i0 = some (r, σ')) : uMi l yX2_isFull wsX2_isFull { frames := 0, cells := 0, slots := 0, locals := 0 } D vwCl (tyX cs) 99 ad (enX ad cs) [.ref (ad (35 + 9 * i0))] σ r σ' := by
  refine u_met (Qf := uQi D vwCl 99 ad (enX ad cs) r σ') (cc := cX2_isFull) (maxL := 1) (ret := (some .boolean)) (lv := [(0, .ref (ad (35 + 9 * i0)))]) J (by decide) rfl (Nat.le_of_ble_eq_true rfl) rfl rfl rfl ?_
  intro p e s m args below meth c ls hx hb C hr hlk G hl
  unfold f_X2_isFull at h
  obtain ⟨H, eH⟩ : ∃ H, H = s.heap := ⟨_, rfl⟩
  obtain ⟨locs, eL⟩ : ∃ locs : List Loc, locs = [] := ⟨_, rfl⟩
  refine u_start eH eL G ?_
  clear G eH eL
  intro G
  refine lv_aload_n hx hb dX2_isFull_0 rfl (lv_at hl 0 rfl) ?_
  refine u_get (v := .int (σ (35 + 9 * i0) 4)) C G (obX_line bi0) (ci := 2) (N := 5) (Cn := RX2) (T := TX2) rfl fi_X2_isFull_2 4 (by decide) (by decide +kernel) rfl dX2_isFull_1 ?_
  refine lv_iconst (v := 3) hx hb dX2_isFull_4 (by decide) ?_
  refine lv_icmp_lt (tgt := 12) hx hb dX2_isFull_5 (by decide) (fun q => ?_) (fun q => ?_)
  · have h := u_pos q h
    refine lv_iconst (v := 0) hx hb dX2_isFull_12 (by decide) ?_
    obtain ⟨rfl, rfl⟩ := u_end h
    exact u_zret hx hb hr hlk G (by decide) dX2_isFull_13
  · have h := u_neg q h
    refine lv_iconst (v := 1) hx hb dX2_isFull_8 (by decide) ?_
    refine lv_goto (tgt := 13) hx hb dX2_isFull_9 (by decide) ?_
    obtain ⟨rfl, rfl⟩ := u_end h
    exact u_zret hx hb hr hlk G (by decide) dX2_isFull_13
/-! X2_hasLayerIn -/
def f_X2_hasLayerIn_2 : Nat → St → Nat → Int32 → Int32 → Option (Int32 × St)
  | 0, _, _, _, _ => none
  | fuel + 1, σ, i0, v1, v2 =>
    if (σ (35 + 9 * i0) 4) ≤ v2 then
      some ((0 : Int32), σ)
    else
      ui v2 3 <|
      if (σ (35 + 9 * i0 + 8) v2.toNatClampNeg) = v1 then
        some ((1 : Int32), σ)
      else
        ul (v2 + 1) fun x2 =>
        f_X2_hasLayerIn_2 fuel σ i0 v1 x2
def f_X2_hasLayerIn (σ : St) (i0 : Nat) (v1 : Int32) : Option (Int32 × St) :=
  f_X2_hasLayerIn_2 fu σ i0 v1 0
theorem fi_X2_hasLayerIn_2 : ∀ w ∈ u_ws RX2 TX2 5, w ∈ wsX2_hasLayerIn := by decide +kernel
set_option maxHeartbeats 4000000 in
set_option maxRecDepth 100000 in
theorem w_X2_hasLayerIn_2 {p : Program} {l : Launch} {e : Env} {s : State} {m : MethodId} {args : Array Value} {below : List Frame} {meth : Method} {c : Code} {D : va_G} {ad : Nat → Nat} {cs : Nat → ClassId} (C : uC p { frames := 0, cells := 0, slots := 0, locals := 0 } s m args c cX2_hasLayerIn 3 wsX2_hasLayerIn RX2 D vwCl (tyX cs) 99 ad (uAd 99 ad s.heap.size) 0 0) (hr : meth.sig.returnType = (some .boolean)) (hlk : meth.locks = false) {r : Int32} {σ' : St} :
    ∀ (n : Nat) (σ : St) (i0 : Nat) (v1 : Int32) (v2 : Int32) (bi0 : i0 < 4), f_X2_hasLayerIn_2 n σ i0 v1 v2 = some (r, σ') → ∀ (H : Heap) (locs : List Loc) (ls : Array Slot), uG D vwCl 99 ad (enX ad cs) (uAd 99 ad s.heap.size) s σ H locs → lv_has ls 3 [(0, .ref (ad (35 + 9 * i0))), (1, .int v1), (2, .int v2)] → W p l e { frames := 0, cells := 0, slots := 0, locals := 0 } s m args below meth c H locs 0 0 (MQ below (uQi D vwCl 99 ad (enX ad cs) r σ' s.heap.size) args s 0 0 (uAd 99 ad s.heap.size)) (F0 m 2 ls []) := by
  have hx := C.1.1
  have hb := C.1.2.1
  intro n
  induction n with
  | zero => intro σ i0 v1 v2 bi0 h; exact absurd h (by simp [f_X2_hasLayerIn_2])
  | succ fuel ih =>
    intro σ i0 v1 v2 bi0 h H locs ls G hl
    rw [f_X2_hasLayerIn_2] at h
    refine lv_iload_n hx hb dX2_hasLayerIn_2 rfl (lv_at hl 2 rfl) ?_
    refine lv_aload_n hx hb dX2_hasLayerIn_3 rfl (lv_at hl 0 rfl) ?_
    refine u_get (v := .int (σ (35 + 9 * i0) 4)) C G (obX_line bi0) (ci := 2) (N := 5) (Cn := RX2) (T := TX2) rfl fi_X2_hasLayerIn_2 4 (by decide) (by decide +kernel) rfl dX2_hasLayerIn_4 ?_
    refine lv_icmp_ge (tgt := 28) hx hb dX2_hasLayerIn_7 (by decide) (fun q => ?_) (fun q => ?_)
    · have h := u_pos q h
      refine lv_iconst (v := 0) hx hb dX2_hasLayerIn_28 (by decide) ?_
      obtain ⟨rfl, rfl⟩ := u_end h
      exact u_zret hx hb hr hlk G (by decide) dX2_hasLayerIn_29
    · have h := u_neg q h
      refine lv_aload_n hx hb dX2_hasLayerIn_10 rfl (lv_at hl 0 rfl) ?_
      refine u_get (v := .ref (ad (35 + 9 * i0 + 8))) C G (obX_line bi0) (ci := 2) (N := 5) (Cn := RX2) (T := TX2) rfl fi_X2_hasLayerIn_2 3 (by decide) (by decide +kernel) rfl dX2_hasLayerIn_11 ?_
      refine lv_iload_n hx hb dX2_hasLayerIn_14 rfl (lv_at hl 2 rfl) ?_
      obtain ⟨g1, h⟩ := ui_of h
      refine u_iald C G (arX_lc bi0) (t0 := 0) rfl g1 dX2_hasLayerIn_15 ?_
      refine lv_iload_n hx hb dX2_hasLayerIn_16 rfl (lv_at hl 1 rfl) ?_
      refine lv_icmp_ne (tgt := 22) hx hb dX2_hasLayerIn_17 (by decide) (fun q => ?_) (fun q => ?_)
      · have h := u_neg q h
        obtain ⟨x2, ex2, h⟩ := ul_of h
        refine lv_iinc (v := x2) (lv' := [(2, .int x2), (0, .ref (ad (35 + 9 * i0))), (1, .int v1)]) hx hb dX2_hasLayerIn_22 hl (k := 2) rfl (by rw [ex2]; rfl) (by decide) rfl (fun ls hl => ?_)
        refine lv_goto (tgt := 2) hx hb dX2_hasLayerIn_25 (by decide) ?_
        exact ih σ i0 v1 x2 bi0 h H locs ls G (lv_sub hl [1, 2, 0] rfl)
      · have h := u_pos q h
        refine lv_iconst (v := 1) hx hb dX2_hasLayerIn_20 (by decide) ?_
        obtain ⟨rfl, rfl⟩ := u_end h
        exact u_zret hx hb hr hlk G (by decide) dX2_hasLayerIn_21
set_option maxHeartbeats 4000000 in
set_option maxRecDepth 100000 in
theorem c_X2_hasLayerIn (l : Launch) (D : va_G) (ad : Nat → Nat) (cs : Nat → ClassId) (J : uJ 99 ad) (σ : St) (i0 : Nat) (v1 : Int32) (bi0 : i0 < 4) (r : Int32) (σ' : St) (h : f_X2_hasLayerIn σ i0 v1 = some (r, σ')) : uMi l yX2_hasLayerIn wsX2_hasLayerIn { frames := 0, cells := 0, slots := 0, locals := 0 } D vwCl (tyX cs) 99 ad (enX ad cs) [.ref (ad (35 + 9 * i0)), .int v1] σ r σ' := by
  refine u_met (Qf := uQi D vwCl 99 ad (enX ad cs) r σ') (cc := cX2_hasLayerIn) (maxL := 3) (ret := (some .boolean)) (lv := [(0, .ref (ad (35 + 9 * i0))), (1, .int v1)]) J (by decide) rfl (Nat.le_of_ble_eq_true rfl) rfl rfl rfl ?_
  intro p e s m args below meth c ls hx hb C hr hlk G hl
  unfold f_X2_hasLayerIn at h
  obtain ⟨H, eH⟩ : ∃ H, H = s.heap := ⟨_, rfl⟩
  obtain ⟨locs, eL⟩ : ∃ locs : List Loc, locs = [] := ⟨_, rfl⟩
  refine u_start eH eL G ?_
  clear G eH eL
  intro G
  refine lv_iconst (v := 0) hx hb dX2_hasLayerIn_0 (by decide) ?_
  refine lv_istore_n (lv' := [(2, .int 0), (0, .ref (ad (35 + 9 * i0))), (1, .int v1)]) hx hb dX2_hasLayerIn_1 rfl hl (by decide) rfl (fun ls hl => ?_)
  exact w_X2_hasLayerIn_2 C hr hlk fu σ i0 v1 0 bi0 h H locs ls G (lv_sub hl [1, 2, 0] rfl)
/-! X2_hasLayerOf -/
def f_X2_hasLayerOf_2 : Nat → St → Nat → Int32 → Int32 → Option (Int32 × St)
  | 0, _, _, _, _ => none
  | fuel + 1, σ, i0, v1, v2 =>
    if (σ (35 + 9 * i0) 4) ≤ v2 then
      some ((0 : Int32), σ)
    else
      ui v2 3 <|
      if (σ (35 + 9 * i0 + 6) v2.toNatClampNeg) = v1 then
        some ((1 : Int32), σ)
      else
        ul (v2 + 1) fun x2 =>
        f_X2_hasLayerOf_2 fuel σ i0 v1 x2
def f_X2_hasLayerOf (σ : St) (i0 : Nat) (v1 : Int32) : Option (Int32 × St) :=
  f_X2_hasLayerOf_2 fu σ i0 v1 0
theorem fi_X2_hasLayerOf_2 : ∀ w ∈ u_ws RX2 TX2 5, w ∈ wsX2_hasLayerOf := by decide +kernel
set_option maxHeartbeats 4000000 in
set_option maxRecDepth 100000 in
theorem w_X2_hasLayerOf_2 {p : Program} {l : Launch} {e : Env} {s : State} {m : MethodId} {args : Array Value} {below : List Frame} {meth : Method} {c : Code} {D : va_G} {ad : Nat → Nat} {cs : Nat → ClassId} (C : uC p { frames := 0, cells := 0, slots := 0, locals := 0 } s m args c cX2_hasLayerOf 3 wsX2_hasLayerOf RX2 D vwCl (tyX cs) 99 ad (uAd 99 ad s.heap.size) 0 0) (hr : meth.sig.returnType = (some .boolean)) (hlk : meth.locks = false) {r : Int32} {σ' : St} :
    ∀ (n : Nat) (σ : St) (i0 : Nat) (v1 : Int32) (v2 : Int32) (bi0 : i0 < 4), f_X2_hasLayerOf_2 n σ i0 v1 v2 = some (r, σ') → ∀ (H : Heap) (locs : List Loc) (ls : Array Slot), uG D vwCl 99 ad (enX ad cs) (uAd 99 ad s.heap.size) s σ H locs → lv_has ls 3 [(0, .ref (ad (35 + 9 * i0))), (1, .int v1), (2, .int v2)] → W p l e { frames := 0, cells := 0, slots := 0, locals := 0 } s m args below meth c H locs 0 0 (MQ below (uQi D vwCl 99 ad (enX ad cs) r σ' s.heap.size) args s 0 0 (uAd 99 ad s.heap.size)) (F0 m 2 ls []) := by
  have hx := C.1.1
  have hb := C.1.2.1
  intro n
  induction n with
  | zero => intro σ i0 v1 v2 bi0 h; exact absurd h (by simp [f_X2_hasLayerOf_2])
  | succ fuel ih =>
    intro σ i0 v1 v2 bi0 h H locs ls G hl
    rw [f_X2_hasLayerOf_2] at h
    refine lv_iload_n hx hb dX2_hasLayerOf_2 rfl (lv_at hl 2 rfl) ?_
    refine lv_aload_n hx hb dX2_hasLayerOf_3 rfl (lv_at hl 0 rfl) ?_
    refine u_get (v := .int (σ (35 + 9 * i0) 4)) C G (obX_line bi0) (ci := 2) (N := 5) (Cn := RX2) (T := TX2) rfl fi_X2_hasLayerOf_2 4 (by decide) (by decide +kernel) rfl dX2_hasLayerOf_4 ?_
    refine lv_icmp_ge (tgt := 28) hx hb dX2_hasLayerOf_7 (by decide) (fun q => ?_) (fun q => ?_)
    · have h := u_pos q h
      refine lv_iconst (v := 0) hx hb dX2_hasLayerOf_28 (by decide) ?_
      obtain ⟨rfl, rfl⟩ := u_end h
      exact u_zret hx hb hr hlk G (by decide) dX2_hasLayerOf_29
    · have h := u_neg q h
      refine lv_aload_n hx hb dX2_hasLayerOf_10 rfl (lv_at hl 0 rfl) ?_
      refine u_get (v := .ref (ad (35 + 9 * i0 + 6))) C G (obX_line bi0) (ci := 2) (N := 5) (Cn := RX2) (T := TX2) rfl fi_X2_hasLayerOf_2 1 (by decide) (by decide +kernel) rfl dX2_hasLayerOf_11 ?_
      refine lv_iload_n hx hb dX2_hasLayerOf_14 rfl (lv_at hl 2 rfl) ?_
      obtain ⟨g1, h⟩ := ui_of h
      refine u_iald C G (arX_lw bi0) (t0 := 0) rfl g1 dX2_hasLayerOf_15 ?_
      refine lv_iload_n hx hb dX2_hasLayerOf_16 rfl (lv_at hl 1 rfl) ?_
      refine lv_icmp_ne (tgt := 22) hx hb dX2_hasLayerOf_17 (by decide) (fun q => ?_) (fun q => ?_)
      · have h := u_neg q h
        obtain ⟨x2, ex2, h⟩ := ul_of h
        refine lv_iinc (v := x2) (lv' := [(2, .int x2), (0, .ref (ad (35 + 9 * i0))), (1, .int v1)]) hx hb dX2_hasLayerOf_22 hl (k := 2) rfl (by rw [ex2]; rfl) (by decide) rfl (fun ls hl => ?_)
        refine lv_goto (tgt := 2) hx hb dX2_hasLayerOf_25 (by decide) ?_
        exact ih σ i0 v1 x2 bi0 h H locs ls G (lv_sub hl [1, 2, 0] rfl)
      · have h := u_pos q h
        refine lv_iconst (v := 1) hx hb dX2_hasLayerOf_20 (by decide) ?_
        obtain ⟨rfl, rfl⟩ := u_end h
        exact u_zret hx hb hr hlk G (by decide) dX2_hasLayerOf_21
set_option maxHeartbeats 4000000 in
set_option maxRecDepth 100000 in
theorem c_X2_hasLayerOf (l : Launch) (D : va_G) (ad : Nat → Nat) (cs : Nat → ClassId) (J : uJ 99 ad) (σ : St) (i0 : Nat) (v1 : Int32) (bi0 : i0 < 4) (r : Int32) (σ' : St) (h : f_X2_hasLayerOf σ i0 v1 = some (r, σ')) : uMi l yX2_hasLayerOf wsX2_hasLayerOf { frames := 0, cells := 0, slots := 0, locals := 0 } D vwCl (tyX cs) 99 ad (enX ad cs) [.ref (ad (35 + 9 * i0)), .int v1] σ r σ' := by
  refine u_met (Qf := uQi D vwCl 99 ad (enX ad cs) r σ') (cc := cX2_hasLayerOf) (maxL := 3) (ret := (some .boolean)) (lv := [(0, .ref (ad (35 + 9 * i0))), (1, .int v1)]) J (by decide) rfl (Nat.le_of_ble_eq_true rfl) rfl rfl rfl ?_
  intro p e s m args below meth c ls hx hb C hr hlk G hl
  unfold f_X2_hasLayerOf at h
  obtain ⟨H, eH⟩ : ∃ H, H = s.heap := ⟨_, rfl⟩
  obtain ⟨locs, eL⟩ : ∃ locs : List Loc, locs = [] := ⟨_, rfl⟩
  refine u_start eH eL G ?_
  clear G eH eL
  intro G
  refine lv_iconst (v := 0) hx hb dX2_hasLayerOf_0 (by decide) ?_
  refine lv_istore_n (lv' := [(2, .int 0), (0, .ref (ad (35 + 9 * i0))), (1, .int v1)]) hx hb dX2_hasLayerOf_1 rfl hl (by decide) rfl (fun ls hl => ?_)
  exact w_X2_hasLayerOf_2 C hr hlk fu σ i0 v1 0 bi0 h H locs ls G (lv_sub hl [1, 2, 0] rfl)
/-! X2_addLayer -/
def f_X2_addLayer (σ : St) (i0 : Nat) (v1 : Int32) (v2 : Int32) (v3 : Int32) : Option (Unit × St) :=
  ui (σ (35 + 9 * i0) 4) 3 <|
  ul (us σ (35 + 9 * i0 + 6) (σ (35 + 9 * i0) 4).toNatClampNeg v1) fun σ2 =>
  ui (σ2 (35 + 9 * i0) 4) 3 <|
  ul (us σ2 (35 + 9 * i0 + 7) (σ2 (35 + 9 * i0) 4).toNatClampNeg v2) fun σ4 =>
  ui (σ4 (35 + 9 * i0) 4) 3 <|
  ul (us σ4 (35 + 9 * i0 + 8) (σ4 (35 + 9 * i0) 4).toNatClampNeg v3) fun σ6 =>
  ul (us σ6 (35 + 9 * i0) 4 ((σ6 (35 + 9 * i0) 4) + 1)) fun σ7 =>
  some ((), σ7)
theorem fi_X2_addLayer_2 : ∀ w ∈ u_ws RX2 TX2 5, w ∈ wsX2_addLayer := by decide +kernel
set_option maxHeartbeats 4000000 in
set_option maxRecDepth 100000 in
theorem c_X2_addLayer (l : Launch) (D : va_G) (ad : Nat → Nat) (cs : Nat → ClassId) (J : uJ 99 ad) (σ : St) (i0 : Nat) (v1 : Int32) (v2 : Int32) (v3 : Int32) (bi0 : i0 < 4) (r : Unit) (σ' : St) (h : f_X2_addLayer σ i0 v1 v2 v3 = some (r, σ')) : uMv l yX2_addLayer wsX2_addLayer { frames := 0, cells := 0, slots := 0, locals := 0 } D vwCl (tyX cs) 99 ad (enX ad cs) [.ref (ad (35 + 9 * i0)), .int v1, .int v2, .int v3] σ σ' := by
  refine u_met (Qf := uQv D vwCl 99 ad (enX ad cs) σ') (cc := cX2_addLayer) (maxL := 4) (ret := none) (lv := [(0, .ref (ad (35 + 9 * i0))), (1, .int v1), (2, .int v2), (3, .int v3)]) J (by decide) rfl (Nat.le_of_ble_eq_true rfl) rfl rfl rfl ?_
  intro p e s m args below meth c ls hx hb C hr hlk G hl
  unfold f_X2_addLayer at h
  obtain ⟨H, eH⟩ : ∃ H, H = s.heap := ⟨_, rfl⟩
  obtain ⟨locs, eL⟩ : ∃ locs : List Loc, locs = [] := ⟨_, rfl⟩
  refine u_start eH eL G ?_
  clear G eH eL
  intro G
  refine lv_aload_n hx hb dX2_addLayer_0 rfl (lv_at hl 0 rfl) ?_
  refine u_get (v := .ref (ad (35 + 9 * i0 + 6))) C G (obX_line bi0) (ci := 2) (N := 5) (Cn := RX2) (T := TX2) rfl fi_X2_addLayer_2 1 (by decide) (by decide +kernel) rfl dX2_addLayer_1 ?_
  refine lv_aload_n hx hb dX2_addLayer_4 rfl (lv_at hl 0 rfl) ?_
  refine u_get (v := .int (σ (35 + 9 * i0) 4)) C G (obX_line bi0) (ci := 2) (N := 5) (Cn := RX2) (T := TX2) rfl fi_X2_addLayer_2 4 (by decide) (by decide +kernel) rfl dX2_addLayer_5 ?_
  refine lv_iload_n hx hb dX2_addLayer_8 rfl (lv_at hl 1 rfl) ?_
  obtain ⟨g1, h⟩ := ui_of h
  refine u_iast C G (arX_lw bi0) (t0 := 0) rfl g1 dX2_addLayer_9 (fun H locs G => ?_)
  obtain ⟨σ2, eσ2, h⟩ := ul_of h
  replace G := uG_eq eσ2 G
  refine lv_aload_n hx hb dX2_addLayer_10 rfl (lv_at hl 0 rfl) ?_
  refine u_get (v := .ref (ad (35 + 9 * i0 + 7))) C G (obX_line bi0) (ci := 2) (N := 5) (Cn := RX2) (T := TX2) rfl fi_X2_addLayer_2 2 (by decide) (by decide +kernel) rfl dX2_addLayer_11 ?_
  refine lv_aload_n hx hb dX2_addLayer_14 rfl (lv_at hl 0 rfl) ?_
  refine u_get (v := .int (σ2 (35 + 9 * i0) 4)) C G (obX_line bi0) (ci := 2) (N := 5) (Cn := RX2) (T := TX2) rfl fi_X2_addLayer_2 4 (by decide) (by decide +kernel) rfl dX2_addLayer_15 ?_
  refine lv_iload_n hx hb dX2_addLayer_18 rfl (lv_at hl 2 rfl) ?_
  obtain ⟨g3, h⟩ := ui_of h
  refine u_iast C G (arX_lsl bi0) (t0 := 0) rfl g3 dX2_addLayer_19 (fun H locs G => ?_)
  obtain ⟨σ4, eσ4, h⟩ := ul_of h
  replace G := uG_eq eσ4 G
  refine lv_aload_n hx hb dX2_addLayer_20 rfl (lv_at hl 0 rfl) ?_
  refine u_get (v := .ref (ad (35 + 9 * i0 + 8))) C G (obX_line bi0) (ci := 2) (N := 5) (Cn := RX2) (T := TX2) rfl fi_X2_addLayer_2 3 (by decide) (by decide +kernel) rfl dX2_addLayer_21 ?_
  refine lv_aload_n hx hb dX2_addLayer_24 rfl (lv_at hl 0 rfl) ?_
  refine u_get (v := .int (σ4 (35 + 9 * i0) 4)) C G (obX_line bi0) (ci := 2) (N := 5) (Cn := RX2) (T := TX2) rfl fi_X2_addLayer_2 4 (by decide) (by decide +kernel) rfl dX2_addLayer_25 ?_
  refine lv_iload_n hx hb dX2_addLayer_28 rfl (lv_at hl 3 rfl) ?_
  obtain ⟨g5, h⟩ := ui_of h
  refine u_iast C G (arX_lc bi0) (t0 := 0) rfl g5 dX2_addLayer_29 (fun H locs G => ?_)
  obtain ⟨σ6, eσ6, h⟩ := ul_of h
  replace G := uG_eq eσ6 G
  refine lv_aload_n hx hb dX2_addLayer_30 rfl (lv_at hl 0 rfl) ?_
  refine lv_dup hx hb dX2_addLayer_31 rfl ?_
  refine u_get (v := .int (σ6 (35 + 9 * i0) 4)) C G (obX_line bi0) (ci := 2) (N := 5) (Cn := RX2) (T := TX2) rfl fi_X2_addLayer_2 4 (by decide) (by decide +kernel) rfl dX2_addLayer_32 ?_
  refine lv_iconst (v := 1) hx hb dX2_addLayer_35 (by decide) ?_
  refine lv_iadd hx hb dX2_addLayer_36 ?_
  refine u_put (x := ((σ6 (35 + 9 * i0) 4) + 1)) (ty := .int) C G (obX_line bi0) (ci := 2) (N := 5) (Cn := RX2) (T := TX2) rfl fi_X2_addLayer_2 tyX2 tyX2_ok nmX2 4 (by decide) (by decide +kernel) rfl (by decide +kernel) rfl rfl (fun f => by simp) (fun f => rfl) dX2_addLayer_37 (fun H locs G => ?_)
  obtain ⟨σ7, eσ7, h⟩ := ul_of h
  replace G := uG_eq eσ7 G
  obtain ⟨-, rfl⟩ := u_end h
  exact u_vret hx hb hr hlk G dX2_addLayer_40
/-! X2_factOf -/
def f_X2_factOf (σ : St) (i0 : Nat) (v1 : Int32) (v2 : Int32) : Option (Int32 × St) :=
  if v2 = 0 then
    ui v1 3 <|
    some ((σ (35 + 9 * i0 + 6) v1.toNatClampNeg), σ)
  else
    if v2 = 1 then
      ui v1 3 <|
      some ((σ (35 + 9 * i0 + 7) v1.toNatClampNeg), σ)
    else
      ui v1 3 <|
      some ((σ (35 + 9 * i0 + 8) v1.toNatClampNeg), σ)
theorem fi_X2_factOf_2 : ∀ w ∈ u_ws RX2 TX2 5, w ∈ wsX2_factOf := by decide +kernel
set_option maxHeartbeats 4000000 in
set_option maxRecDepth 100000 in
theorem c_X2_factOf (l : Launch) (D : va_G) (ad : Nat → Nat) (cs : Nat → ClassId) (J : uJ 99 ad) (σ : St) (i0 : Nat) (v1 : Int32) (v2 : Int32) (bi0 : i0 < 4) (r : Int32) (σ' : St) (h : f_X2_factOf σ i0 v1 v2 = some (r, σ')) : uMi l yX2_factOf wsX2_factOf { frames := 0, cells := 0, slots := 0, locals := 0 } D vwCl (tyX cs) 99 ad (enX ad cs) [.ref (ad (35 + 9 * i0)), .int v1, .int v2] σ r σ' := by
  refine u_met (Qf := uQi D vwCl 99 ad (enX ad cs) r σ') (cc := cX2_factOf) (maxL := 3) (ret := (some .int)) (lv := [(0, .ref (ad (35 + 9 * i0))), (1, .int v1), (2, .int v2)]) J (by decide) rfl (Nat.le_of_ble_eq_true rfl) rfl rfl rfl ?_
  intro p e s m args below meth c ls hx hb C hr hlk G hl
  unfold f_X2_factOf at h
  obtain ⟨H, eH⟩ : ∃ H, H = s.heap := ⟨_, rfl⟩
  obtain ⟨locs, eL⟩ : ∃ locs : List Loc, locs = [] := ⟨_, rfl⟩
  refine u_start eH eL G ?_
  clear G eH eL
  intro G
  refine lv_iload_n hx hb dX2_factOf_0 rfl (lv_at hl 2 rfl) ?_
  refine lv_if_ne (tgt := 11) hx hb dX2_factOf_1 (by decide) (fun q => ?_) (fun q => ?_)
  · have h := u_neg q h
    refine lv_iload_n hx hb dX2_factOf_11 rfl (lv_at hl 2 rfl) ?_
    refine lv_iconst (v := 1) hx hb dX2_factOf_12 (by decide) ?_
    refine lv_icmp_ne (tgt := 25) hx hb dX2_factOf_13 (by decide) (fun q => ?_) (fun q => ?_)
    · have h := u_neg q h
      refine lv_aload_n hx hb dX2_factOf_25 rfl (lv_at hl 0 rfl) ?_
      refine u_get (v := .ref (ad (35 + 9 * i0 + 8))) C G (obX_line bi0) (ci := 2) (N := 5) (Cn := RX2) (T := TX2) rfl fi_X2_factOf_2 3 (by decide) (by decide +kernel) rfl dX2_factOf_26 ?_
      refine lv_iload_n hx hb dX2_factOf_29 rfl (lv_at hl 1 rfl) ?_
      obtain ⟨g1, h⟩ := ui_of h
      refine u_iald C G (arX_lc bi0) (t0 := 0) rfl g1 dX2_factOf_30 ?_
      obtain ⟨rfl, rfl⟩ := u_end h
      exact u_iret hx hb hr hlk G dX2_factOf_31
    · have h := u_pos q h
      refine lv_aload_n hx hb dX2_factOf_16 rfl (lv_at hl 0 rfl) ?_
      refine u_get (v := .ref (ad (35 + 9 * i0 + 7))) C G (obX_line bi0) (ci := 2) (N := 5) (Cn := RX2) (T := TX2) rfl fi_X2_factOf_2 2 (by decide) (by decide +kernel) rfl dX2_factOf_17 ?_
      refine lv_iload_n hx hb dX2_factOf_20 rfl (lv_at hl 1 rfl) ?_
      obtain ⟨g2, h⟩ := ui_of h
      refine u_iald C G (arX_lsl bi0) (t0 := 0) rfl g2 dX2_factOf_21 ?_
      refine lv_goto (tgt := 31) hx hb dX2_factOf_22 (by decide) ?_
      obtain ⟨rfl, rfl⟩ := u_end h
      exact u_iret hx hb hr hlk G dX2_factOf_31
  · have h := u_pos q h
    refine lv_aload_n hx hb dX2_factOf_4 rfl (lv_at hl 0 rfl) ?_
    refine u_get (v := .ref (ad (35 + 9 * i0 + 6))) C G (obX_line bi0) (ci := 2) (N := 5) (Cn := RX2) (T := TX2) rfl fi_X2_factOf_2 1 (by decide) (by decide +kernel) rfl dX2_factOf_5 ?_
    refine lv_iload_n hx hb dX2_factOf_8 rfl (lv_at hl 1 rfl) ?_
    obtain ⟨g3, h⟩ := ui_of h
    refine u_iald C G (arX_lw bi0) (t0 := 0) rfl g3 dX2_factOf_9 ?_
    obtain ⟨rfl, rfl⟩ := u_end h
    exact u_iret hx hb hr hlk G dX2_factOf_10
/-! X2_digestCells -/
def f_X2_digestCells_15 (k5 : St → Nat → Int64 → Int32 → Option (Int64 × St)) : Nat → St → Nat → Int64 → Int32 → Int32 → Option (Int64 × St)
  | 0, _, _, _, _, _ => none
  | fuel + 1, σ, i0, v3, v5, v6 =>
    if 15 ≤ v6 then
      ul (v5 + 1) fun x1 =>
      k5 σ i0 v3 x1
    else
      ub (f_X2_valueAt σ i0 v5 v6) fun r2 σ3 =>
      ul ((31 * v3) + r2.toInt64) fun x4 =>
      ul (v6 + 1) fun x5 =>
      f_X2_digestCells_15 k5 fuel σ3 i0 x4 v5 x5
def f_X2_digestCells_5 : Nat → St → Nat → Int64 → Int32 → Option (Int64 × St)
  | 0, _, _, _, _ => none
  | fuel + 1, σ, i0, v3, v5 =>
    if 10 ≤ v5 then
      some (v3, σ)
    else
      f_X2_digestCells_15 (f_X2_digestCells_5 fuel) fu σ i0 v3 v5 0
def f_X2_digestCells (σ : St) (i0 : Nat) (v1 : Int64) : Option (Int64 × St) :=
  f_X2_digestCells_5 fu σ i0 v1 0
set_option maxHeartbeats 4000000 in
set_option maxRecDepth 100000 in
theorem w_X2_digestCells_15 {p : Program} {l : Launch} {e : Env} {s : State} {m : MethodId} {args : Array Value} {below : List Frame} {meth : Method} {c : Code} {D : va_G} {ad : Nat → Nat} {cs : Nat → ClassId} (C : uC p { frames := 1, cells := 0, slots := 0, locals := 23 } s m args c cX2_digestCells 7 wsX2_digestCells RX2 D vwCl (tyX cs) 99 ad (uAd 99 ad s.heap.size) 0 0) (hr : meth.sig.returnType = (some .long)) (hlk : meth.locks = false) {r : Int64} {σ' : St} {k5 : St → Nat → Int64 → Int32 → Option (Int64 × St)} (hk5 : ∀ (σ : St) (i0 : Nat) (v3 : Int64) (v5 : Int32) (bi0 : i0 < 4), k5 σ i0 v3 v5 = some (r, σ') → ∀ (H : Heap) (locs : List Loc) (ls : Array Slot), uG D vwCl 99 ad (enX ad cs) (uAd 99 ad s.heap.size) s σ H locs → lv_has ls 7 [(0, .ref (ad (35 + 9 * i0))), (3, .long v3), (5, .int v5)] → W p l e { frames := 1, cells := 0, slots := 0, locals := 23 } s m args below meth c H locs 0 0 (MQ below (uQl D vwCl 99 ad (enX ad cs) r σ' s.heap.size) args s 0 0 (uAd 99 ad s.heap.size)) (F0 m 5 ls [])) :
    ∀ (n : Nat) (σ : St) (i0 : Nat) (v3 : Int64) (v5 : Int32) (v6 : Int32) (bi0 : i0 < 4), f_X2_digestCells_15 k5 n σ i0 v3 v5 v6 = some (r, σ') → ∀ (H : Heap) (locs : List Loc) (ls : Array Slot), uG D vwCl 99 ad (enX ad cs) (uAd 99 ad s.heap.size) s σ H locs → lv_has ls 7 [(0, .ref (ad (35 + 9 * i0))), (3, .long v3), (5, .int v5), (6, .int v6)] → W p l e { frames := 1, cells := 0, slots := 0, locals := 23 } s m args below meth c H locs 0 0 (MQ below (uQl D vwCl 99 ad (enX ad cs) r σ' s.heap.size) args s 0 0 (uAd 99 ad s.heap.size)) (F0 m 15 ls []) := by
  have hx := C.1.1
  have hb := C.1.2.1
  intro n
  induction n with
  | zero => intro σ i0 v3 v5 v6 bi0 h; exact absurd h (by simp [f_X2_digestCells_15])
  | succ fuel ih =>
    intro σ i0 v3 v5 v6 bi0 h H locs ls G hl
    rw [f_X2_digestCells_15] at h
    refine lv_iload hx hb dX2_digestCells_15 (lv_at hl 3 rfl) ?_
    refine lv_bipush (v := 15) hx hb dX2_digestCells_17 (by decide) ?_
    refine lv_icmp_ge (tgt := 44) hx hb dX2_digestCells_19 (by decide) (fun q => ?_) (fun q => ?_)
    · have h := u_pos q h
      obtain ⟨x1, ex1, h⟩ := ul_of h
      refine lv_iinc (v := x1) (lv' := [(5, .int x1), (0, .ref (ad (35 + 9 * i0))), (3, .long v3), (6, .int v6)]) hx hb dX2_digestCells_44 hl (k := 2) rfl (by rw [ex1]; rfl) (by decide) rfl (fun ls hl => ?_)
      refine lv_goto (tgt := 5) hx hb dX2_digestCells_47 (by decide) ?_
      exact hk5 σ i0 v3 x1 bi0 h H locs ls G (lv_sub hl [1, 2, 0] rfl)
    · have h := u_neg q h
      refine lv_ldc2 (v := 31) hx hb C.1.2.2.2.1 (C.1.2.2.2.2 (.constantLong RX2 39 31) (by decide +kernel)) dX2_digestCells_22 ?_
      refine lv_lload_n hx hb dX2_digestCells_25 rfl (lv_at hl 1 rfl) ?_
      refine lv_lmul hx hb dX2_digestCells_26 ?_
      refine lv_aload_n hx hb dX2_digestCells_27 rfl (lv_at hl 0 rfl) ?_
      refine lv_iload hx hb dX2_digestCells_28 (lv_at hl 2 rfl) ?_
      refine lv_iload hx hb dX2_digestCells_30 (lv_at hl 3 rfl) ?_
      obtain ⟨r2, σ3, er2, h⟩ := ub_of h
      refine u_callVi (As := [.int v5, .int v6]) (rest := [.long (31 * v3)]) C G (c_X2_valueAt l D ad cs C.2.2.1 σ i0 v5 v6 bi0 r2 σ3 er2) (cwV 2 C.1.2.2.2.2 gX2_digestCells_X2_valueAt rfl rfl rfl (by decide +kernel) ⟨Nat.le_of_ble_eq_true rfl, Nat.le_of_ble_eq_true rfl⟩) (obX_line bi0) (ci := 2) (T := TX2) rfl rfl hl rfl (Nat.le_of_ble_eq_true rfl) dX2_digestCells_32 (fun H locs G => ?_)
      refine lv_i2l hx hb dX2_digestCells_35 rfl ?_
      refine lv_ladd hx hb dX2_digestCells_36 ?_
      obtain ⟨x4, ex4, h⟩ := ul_of h
      refine u_nml ex4 ?_
      refine lv_lstore_n (lv' := [(3, .long x4), (0, .ref (ad (35 + 9 * i0))), (5, .int v5), (6, .int v6)]) hx hb dX2_digestCells_37 rfl hl (by decide) rfl (fun ls hl => ?_)
      obtain ⟨x5, ex5, h⟩ := ul_of h
      refine lv_iinc (v := x5) (lv' := [(6, .int x5), (3, .long x4), (0, .ref (ad (35 + 9 * i0))), (5, .int v5)]) hx hb dX2_digestCells_38 hl (k := 3) rfl (by rw [ex5]; rfl) (by decide) rfl (fun ls hl => ?_)
      refine lv_goto (tgt := 15) hx hb dX2_digestCells_41 (by decide) ?_
      exact ih σ3 i0 x4 v5 x5 bi0 h H locs ls G (lv_sub hl [2, 1, 3, 0] rfl)
set_option maxHeartbeats 4000000 in
set_option maxRecDepth 100000 in
theorem w_X2_digestCells_5 {p : Program} {l : Launch} {e : Env} {s : State} {m : MethodId} {args : Array Value} {below : List Frame} {meth : Method} {c : Code} {D : va_G} {ad : Nat → Nat} {cs : Nat → ClassId} (C : uC p { frames := 1, cells := 0, slots := 0, locals := 23 } s m args c cX2_digestCells 7 wsX2_digestCells RX2 D vwCl (tyX cs) 99 ad (uAd 99 ad s.heap.size) 0 0) (hr : meth.sig.returnType = (some .long)) (hlk : meth.locks = false) {r : Int64} {σ' : St} :
    ∀ (n : Nat) (σ : St) (i0 : Nat) (v3 : Int64) (v5 : Int32) (bi0 : i0 < 4), f_X2_digestCells_5 n σ i0 v3 v5 = some (r, σ') → ∀ (H : Heap) (locs : List Loc) (ls : Array Slot), uG D vwCl 99 ad (enX ad cs) (uAd 99 ad s.heap.size) s σ H locs → lv_has ls 7 [(0, .ref (ad (35 + 9 * i0))), (3, .long v3), (5, .int v5)] → W p l e { frames := 1, cells := 0, slots := 0, locals := 23 } s m args below meth c H locs 0 0 (MQ below (uQl D vwCl 99 ad (enX ad cs) r σ' s.heap.size) args s 0 0 (uAd 99 ad s.heap.size)) (F0 m 5 ls []) := by
  have hx := C.1.1
  have hb := C.1.2.1
  intro n
  induction n with
  | zero => intro σ i0 v3 v5 bi0 h; exact absurd h (by simp [f_X2_digestCells_5])
  | succ fuel ih =>
    intro σ i0 v3 v5 bi0 h H locs ls G hl
    rw [f_X2_digestCells_5] at h
    refine lv_iload hx hb dX2_digestCells_5 (lv_at hl 2 rfl) ?_
    refine lv_bipush (v := 10) hx hb dX2_digestCells_7 (by decide) ?_
    refine lv_icmp_ge (tgt := 50) hx hb dX2_digestCells_9 (by decide) (fun q => ?_) (fun q => ?_)
    · have h := u_pos q h
      refine lv_lload_n hx hb dX2_digestCells_50 rfl (lv_at hl 1 rfl) ?_
      obtain ⟨rfl, rfl⟩ := u_end h
      exact u_lret hx hb hr hlk G dX2_digestCells_51
    · have h := u_neg q h
      refine lv_iconst (v := 0) hx hb dX2_digestCells_12 (by decide) ?_
      refine lv_istore (lv' := [(6, .int 0), (0, .ref (ad (35 + 9 * i0))), (3, .long v3), (5, .int v5)]) hx hb dX2_digestCells_13 hl (by decide) rfl (fun ls hl => ?_)
      exact w_X2_digestCells_15 C hr hlk ih fu σ i0 v3 v5 0 bi0 h H locs ls G (lv_sub hl [1, 2, 3, 0] rfl)
set_option maxHeartbeats 4000000 in
set_option maxRecDepth 100000 in
theorem c_X2_digestCells (l : Launch) (D : va_G) (ad : Nat → Nat) (cs : Nat → ClassId) (J : uJ 99 ad) (σ : St) (i0 : Nat) (v1 : Int64) (bi0 : i0 < 4) (r : Int64) (σ' : St) (h : f_X2_digestCells σ i0 v1 = some (r, σ')) : uMl l yX2_digestCells wsX2_digestCells { frames := 1, cells := 0, slots := 0, locals := 23 } D vwCl (tyX cs) 99 ad (enX ad cs) [.ref (ad (35 + 9 * i0)), .long v1] σ r σ' := by
  refine u_met (Qf := uQl D vwCl 99 ad (enX ad cs) r σ') (cc := cX2_digestCells) (maxL := 7) (ret := (some .long)) (lv := [(0, .ref (ad (35 + 9 * i0))), (1, .long v1)]) J (by decide) rfl (Nat.le_of_ble_eq_true rfl) rfl rfl rfl ?_
  intro p e s m args below meth c ls hx hb C hr hlk G hl
  unfold f_X2_digestCells at h
  obtain ⟨H, eH⟩ : ∃ H, H = s.heap := ⟨_, rfl⟩
  obtain ⟨locs, eL⟩ : ∃ locs : List Loc, locs = [] := ⟨_, rfl⟩
  refine u_start eH eL G ?_
  clear G eH eL
  intro G
  refine lv_lload_n hx hb dX2_digestCells_0 rfl (lv_at hl 1 rfl) ?_
  refine lv_lstore_n (lv' := [(3, .long v1), (0, .ref (ad (35 + 9 * i0))), (1, .long v1)]) hx hb dX2_digestCells_1 rfl hl (by decide) rfl (fun ls hl => ?_)
  refine lv_iconst (v := 0) hx hb dX2_digestCells_2 (by decide) ?_
  refine lv_istore (lv' := [(5, .int 0), (3, .long v1), (0, .ref (ad (35 + 9 * i0))), (1, .long v1)]) hx hb dX2_digestCells_3 hl (by decide) rfl (fun ls hl => ?_)
  exact w_X2_digestCells_5 C hr hlk fu σ i0 v1 0 bi0 h H locs ls G (lv_sub hl [2, 1, 0] rfl)
