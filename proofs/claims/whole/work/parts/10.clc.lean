/-! X6_isYear -/
def f_X6_isYear (σ : St) (v0 : Int32) : Option (Int32 × St) :=
  if v0 < 1700 then
    some ((0 : Int32), σ)
  else
    if 2100 < v0 then
      some ((0 : Int32), σ)
    else
      some ((1 : Int32), σ)
set_option maxHeartbeats 4000000 in
set_option maxRecDepth 100000 in
theorem c_X6_isYear (l : Launch) (D : va_G) (ad : Nat → Nat) (cs : Nat → ClassId) (J : uJ 99 ad) (σ : St) (v0 : Int32) (r : Int32) (σ' : St) (h : f_X6_isYear σ v0 = some (r, σ')) : uMi l yX6_isYear wsX6_isYear { frames := 0, cells := 0, slots := 0, locals := 0 } D vwCl (tyX cs) 99 ad (enX ad cs) [.int v0] σ r σ' := by
  refine u_met (Qf := uQi D vwCl 99 ad (enX ad cs) r σ') (cc := cX6_isYear) (maxL := 1) (ret := (some .boolean)) (lv := [(0, .int v0)]) J (by decide) rfl (Nat.le_of_ble_eq_true rfl) rfl rfl rfl ?_
  intro p e s m args below meth c ls hx hb C hr hlk G hl
  unfold f_X6_isYear at h
  obtain ⟨H, eH⟩ : ∃ H, H = s.heap := ⟨_, rfl⟩
  obtain ⟨locs, eL⟩ : ∃ locs : List Loc, locs = [] := ⟨_, rfl⟩
  refine u_start eH eL G ?_
  clear G eH eL
  intro G
  refine lv_iload_n hx hb dX6_isYear_0 rfl (lv_at hl 0 rfl) ?_
  refine lv_sipush (v := 1700) hx hb dX6_isYear_1 (by decide) ?_
  refine lv_icmp_lt (tgt := 18) hx hb dX6_isYear_4 (by decide) (fun q => ?_) (fun q => ?_)
  · have h := u_pos q h
    refine lv_iconst (v := 0) hx hb dX6_isYear_18 (by decide) ?_
    obtain ⟨rfl, rfl⟩ := u_end h
    exact u_zret hx hb hr hlk G (by decide) dX6_isYear_19
  · have h := u_neg q h
    refine lv_iload_n hx hb dX6_isYear_7 rfl (lv_at hl 0 rfl) ?_
    refine lv_sipush (v := 2100) hx hb dX6_isYear_8 (by decide) ?_
    refine lv_icmp_gt (tgt := 18) hx hb dX6_isYear_11 (by decide) (fun q => ?_) (fun q => ?_)
    · have h := u_pos q h
      refine lv_iconst (v := 0) hx hb dX6_isYear_18 (by decide) ?_
      obtain ⟨rfl, rfl⟩ := u_end h
      exact u_zret hx hb hr hlk G (by decide) dX6_isYear_19
    · have h := u_neg q h
      refine lv_iconst (v := 1) hx hb dX6_isYear_14 (by decide) ?_
      refine lv_goto (tgt := 19) hx hb dX6_isYear_15 (by decide) ?_
      obtain ⟨rfl, rfl⟩ := u_end h
      exact u_zret hx hb hr hlk G (by decide) dX6_isYear_19
/-! X6_isFull -/
def f_X6_isFull (σ : St) : Option (Int32 × St) :=
  if (σ 71 3) < 8 then
    some ((0 : Int32), σ)
  else
    some ((1 : Int32), σ)
theorem fi_X6_isFull_6 : ∀ w ∈ u_ws RX6 TX6 6, w ∈ wsX6_isFull := by decide +kernel
set_option maxHeartbeats 4000000 in
set_option maxRecDepth 100000 in
theorem c_X6_isFull (l : Launch) (D : va_G) (ad : Nat → Nat) (cs : Nat → ClassId) (J : uJ 99 ad) (σ : St) (r : Int32) (σ' : St) (h : f_X6_isFull σ = some (r, σ')) : uMi l yX6_isFull wsX6_isFull { frames := 0, cells := 0, slots := 0, locals := 0 } D vwCl (tyX cs) 99 ad (enX ad cs) [.ref (ad 71)] σ r σ' := by
  refine u_met (Qf := uQi D vwCl 99 ad (enX ad cs) r σ') (cc := cX6_isFull) (maxL := 1) (ret := (some .boolean)) (lv := [(0, .ref (ad 71))]) J (by decide) rfl (Nat.le_of_ble_eq_true rfl) rfl rfl rfl ?_
  intro p e s m args below meth c ls hx hb C hr hlk G hl
  unfold f_X6_isFull at h
  obtain ⟨H, eH⟩ : ∃ H, H = s.heap := ⟨_, rfl⟩
  obtain ⟨locs, eL⟩ : ∃ locs : List Loc, locs = [] := ⟨_, rfl⟩
  refine u_start eH eL G ?_
  clear G eH eL
  intro G
  refine lv_aload_n hx hb dX6_isFull_0 rfl (lv_at hl 0 rfl) ?_
  refine u_get (v := .int (σ 71 3)) C G obX_71 (ci := 6) (N := 6) (Cn := RX6) (T := TX6) rfl fi_X6_isFull_6 3 (by decide) (by decide +kernel) rfl dX6_isFull_1 ?_
  refine lv_bipush (v := 8) hx hb dX6_isFull_4 (by decide) ?_
  refine lv_icmp_lt (tgt := 13) hx hb dX6_isFull_6 (by decide) (fun q => ?_) (fun q => ?_)
  · have h := u_pos q h
    refine lv_iconst (v := 0) hx hb dX6_isFull_13 (by decide) ?_
    obtain ⟨rfl, rfl⟩ := u_end h
    exact u_zret hx hb hr hlk G (by decide) dX6_isFull_14
  · have h := u_neg q h
    refine lv_iconst (v := 1) hx hb dX6_isFull_9 (by decide) ?_
    refine lv_goto (tgt := 14) hx hb dX6_isFull_10 (by decide) ?_
    obtain ⟨rfl, rfl⟩ := u_end h
    exact u_zret hx hb hr hlk G (by decide) dX6_isFull_14
/-! X6_latestYear -/
def f_X6_latestYear (σ : St) : Option (Int32 × St) :=
  if (σ 71 3) ≤ 0 then
    some ((1699 : Int32), σ)
  else
    ui ((σ 71 3) - 1) 8 <|
    some ((σ 72 ((σ 71 3) - 1).toNatClampNeg), σ)
theorem fi_X6_latestYear_6 : ∀ w ∈ u_ws RX6 TX6 6, w ∈ wsX6_latestYear := by decide +kernel
set_option maxHeartbeats 4000000 in
set_option maxRecDepth 100000 in
theorem c_X6_latestYear (l : Launch) (D : va_G) (ad : Nat → Nat) (cs : Nat → ClassId) (J : uJ 99 ad) (σ : St) (r : Int32) (σ' : St) (h : f_X6_latestYear σ = some (r, σ')) : uMi l yX6_latestYear wsX6_latestYear { frames := 0, cells := 0, slots := 0, locals := 0 } D vwCl (tyX cs) 99 ad (enX ad cs) [.ref (ad 71)] σ r σ' := by
  refine u_met (Qf := uQi D vwCl 99 ad (enX ad cs) r σ') (cc := cX6_latestYear) (maxL := 1) (ret := (some .int)) (lv := [(0, .ref (ad 71))]) J (by decide) rfl (Nat.le_of_ble_eq_true rfl) rfl rfl rfl ?_
  intro p e s m args below meth c ls hx hb C hr hlk G hl
  unfold f_X6_latestYear at h
  obtain ⟨H, eH⟩ : ∃ H, H = s.heap := ⟨_, rfl⟩
  obtain ⟨locs, eL⟩ : ∃ locs : List Loc, locs = [] := ⟨_, rfl⟩
  refine u_start eH eL G ?_
  clear G eH eL
  intro G
  refine lv_aload_n hx hb dX6_latestYear_0 rfl (lv_at hl 0 rfl) ?_
  refine u_get (v := .int (σ 71 3)) C G obX_71 (ci := 6) (N := 6) (Cn := RX6) (T := TX6) rfl fi_X6_latestYear_6 3 (by decide) (by decide +kernel) rfl dX6_latestYear_1 ?_
  refine lv_if_le (tgt := 21) hx hb dX6_latestYear_4 (by decide) (fun q => ?_) (fun q => ?_)
  · have h := u_pos q h
    refine lv_sipush (v := 1699) hx hb dX6_latestYear_21 (by decide) ?_
    obtain ⟨rfl, rfl⟩ := u_end h
    exact u_iret hx hb hr hlk G dX6_latestYear_24
  · have h := u_neg q h
    refine lv_aload_n hx hb dX6_latestYear_7 rfl (lv_at hl 0 rfl) ?_
    refine u_get (v := .ref (ad 72)) C G obX_71 (ci := 6) (N := 6) (Cn := RX6) (T := TX6) rfl fi_X6_latestYear_6 0 (by decide) (by decide +kernel) rfl dX6_latestYear_8 ?_
    refine lv_aload_n hx hb dX6_latestYear_11 rfl (lv_at hl 0 rfl) ?_
    refine u_get (v := .int (σ 71 3)) C G obX_71 (ci := 6) (N := 6) (Cn := RX6) (T := TX6) rfl fi_X6_latestYear_6 3 (by decide) (by decide +kernel) rfl dX6_latestYear_12 ?_
    refine lv_iconst (v := 1) hx hb dX6_latestYear_15 (by decide) ?_
    refine lv_isub hx hb dX6_latestYear_16 ?_
    obtain ⟨g1, h⟩ := ui_of h
    refine u_iald C G arX_72 (t0 := 0) rfl g1 dX6_latestYear_17 ?_
    refine lv_goto (tgt := 24) hx hb dX6_latestYear_18 (by decide) ?_
    obtain ⟨rfl, rfl⟩ := u_end h
    exact u_iret hx hb hr hlk G dX6_latestYear_24
/-! X6_add -/
def f_X6_add (σ : St) (v1 : Int32) (v2 : Int32) (v3 : Int32) : Option (Unit × St) :=
  ui (σ 71 3) 8 <|
  ul (us σ 72 (σ 71 3).toNatClampNeg v1) fun σ2 =>
  ui (σ2 71 3) 8 <|
  ul (us σ2 73 (σ2 71 3).toNatClampNeg v2) fun σ4 =>
  ui (σ4 71 3) 8 <|
  ul (us σ4 74 (σ4 71 3).toNatClampNeg v3) fun σ6 =>
  ul (us σ6 71 3 ((σ6 71 3) + 1)) fun σ7 =>
  some ((), σ7)
theorem fi_X6_add_6 : ∀ w ∈ u_ws RX6 TX6 6, w ∈ wsX6_add := by decide +kernel
set_option maxHeartbeats 4000000 in
set_option maxRecDepth 100000 in
theorem c_X6_add (l : Launch) (D : va_G) (ad : Nat → Nat) (cs : Nat → ClassId) (J : uJ 99 ad) (σ : St) (v1 : Int32) (v2 : Int32) (v3 : Int32) (r : Unit) (σ' : St) (h : f_X6_add σ v1 v2 v3 = some (r, σ')) : uMv l yX6_add wsX6_add { frames := 0, cells := 0, slots := 0, locals := 0 } D vwCl (tyX cs) 99 ad (enX ad cs) [.ref (ad 71), .int v1, .int v2, .int v3] σ σ' := by
  refine u_met (Qf := uQv D vwCl 99 ad (enX ad cs) σ') (cc := cX6_add) (maxL := 4) (ret := none) (lv := [(0, .ref (ad 71)), (1, .int v1), (2, .int v2), (3, .int v3)]) J (by decide) rfl (Nat.le_of_ble_eq_true rfl) rfl rfl rfl ?_
  intro p e s m args below meth c ls hx hb C hr hlk G hl
  unfold f_X6_add at h
  obtain ⟨H, eH⟩ : ∃ H, H = s.heap := ⟨_, rfl⟩
  obtain ⟨locs, eL⟩ : ∃ locs : List Loc, locs = [] := ⟨_, rfl⟩
  refine u_start eH eL G ?_
  clear G eH eL
  intro G
  refine lv_aload_n hx hb dX6_add_0 rfl (lv_at hl 0 rfl) ?_
  refine u_get (v := .ref (ad 72)) C G obX_71 (ci := 6) (N := 6) (Cn := RX6) (T := TX6) rfl fi_X6_add_6 0 (by decide) (by decide +kernel) rfl dX6_add_1 ?_
  refine lv_aload_n hx hb dX6_add_4 rfl (lv_at hl 0 rfl) ?_
  refine u_get (v := .int (σ 71 3)) C G obX_71 (ci := 6) (N := 6) (Cn := RX6) (T := TX6) rfl fi_X6_add_6 3 (by decide) (by decide +kernel) rfl dX6_add_5 ?_
  refine lv_iload_n hx hb dX6_add_8 rfl (lv_at hl 1 rfl) ?_
  obtain ⟨g1, h⟩ := ui_of h
  refine u_iast C G arX_72 (t0 := 0) rfl g1 dX6_add_9 (fun H locs G => ?_)
  obtain ⟨σ2, eσ2, h⟩ := ul_of h
  replace G := uG_eq eσ2 G
  refine lv_aload_n hx hb dX6_add_10 rfl (lv_at hl 0 rfl) ?_
  refine u_get (v := .ref (ad 73)) C G obX_71 (ci := 6) (N := 6) (Cn := RX6) (T := TX6) rfl fi_X6_add_6 1 (by decide) (by decide +kernel) rfl dX6_add_11 ?_
  refine lv_aload_n hx hb dX6_add_14 rfl (lv_at hl 0 rfl) ?_
  refine u_get (v := .int (σ2 71 3)) C G obX_71 (ci := 6) (N := 6) (Cn := RX6) (T := TX6) rfl fi_X6_add_6 3 (by decide) (by decide +kernel) rfl dX6_add_15 ?_
  refine lv_iload_n hx hb dX6_add_18 rfl (lv_at hl 2 rfl) ?_
  obtain ⟨g3, h⟩ := ui_of h
  refine u_iast C G arX_73 (t0 := 0) rfl g3 dX6_add_19 (fun H locs G => ?_)
  obtain ⟨σ4, eσ4, h⟩ := ul_of h
  replace G := uG_eq eσ4 G
  refine lv_aload_n hx hb dX6_add_20 rfl (lv_at hl 0 rfl) ?_
  refine u_get (v := .ref (ad 74)) C G obX_71 (ci := 6) (N := 6) (Cn := RX6) (T := TX6) rfl fi_X6_add_6 2 (by decide) (by decide +kernel) rfl dX6_add_21 ?_
  refine lv_aload_n hx hb dX6_add_24 rfl (lv_at hl 0 rfl) ?_
  refine u_get (v := .int (σ4 71 3)) C G obX_71 (ci := 6) (N := 6) (Cn := RX6) (T := TX6) rfl fi_X6_add_6 3 (by decide) (by decide +kernel) rfl dX6_add_25 ?_
  refine lv_iload_n hx hb dX6_add_28 rfl (lv_at hl 3 rfl) ?_
  obtain ⟨g5, h⟩ := ui_of h
  refine u_iast C G arX_74 (t0 := 0) rfl g5 dX6_add_29 (fun H locs G => ?_)
  obtain ⟨σ6, eσ6, h⟩ := ul_of h
  replace G := uG_eq eσ6 G
  refine lv_aload_n hx hb dX6_add_30 rfl (lv_at hl 0 rfl) ?_
  refine lv_dup hx hb dX6_add_31 rfl ?_
  refine u_get (v := .int (σ6 71 3)) C G obX_71 (ci := 6) (N := 6) (Cn := RX6) (T := TX6) rfl fi_X6_add_6 3 (by decide) (by decide +kernel) rfl dX6_add_32 ?_
  refine lv_iconst (v := 1) hx hb dX6_add_35 (by decide) ?_
  refine lv_iadd hx hb dX6_add_36 ?_
  refine u_put (x := ((σ6 71 3) + 1)) (ty := .int) C G obX_71 (ci := 6) (N := 6) (Cn := RX6) (T := TX6) rfl fi_X6_add_6 tyX6 tyX6_ok nmX6 3 (by decide) (by decide +kernel) rfl (by decide +kernel) rfl rfl (fun f => by simp) (fun f => rfl) dX6_add_37 (fun H locs G => ?_)
  obtain ⟨σ7, eσ7, h⟩ := ul_of h
  replace G := uG_eq eσ7 G
  obtain ⟨-, rfl⟩ := u_end h
  exact u_vret hx hb hr hlk G dX6_add_40
/-! X6_became -/
def f_X6_became_14 : Nat → St → Int32 → Int32 → Int32 → Int32 → Option (Int32 × St)
  | 0, _, _, _, _, _ => none
  | fuel + 1, σ, v2, v3, v4, v5 =>
    if (σ 71 3) ≤ v5 then
      some (v4, σ)
    else
      ui v5 8 <|
      if (σ 72 v5.toNatClampNeg) ≤ v2 then
        ul (v5 + 1) fun x2 =>
        f_X6_became_14 fuel σ v2 v3 v4 x2
      else
        ui v5 8 <|
        if v3 < (σ 72 v5.toNatClampNeg) then
          ul (v5 + 1) fun x4 =>
          f_X6_became_14 fuel σ v2 v3 v4 x4
        else
          ui v5 8 <|
          ui v5 8 <|
          ul (if 200 < (if ((v4 * (σ 73 v5.toNatClampNeg)) + (σ 74 v5.toNatClampNeg)) < 1 then 1 else ((v4 * (σ 73 v5.toNatClampNeg)) + (σ 74 v5.toNatClampNeg))) then 200 else (if ((v4 * (σ 73 v5.toNatClampNeg)) + (σ 74 v5.toNatClampNeg)) < 1 then 1 else ((v4 * (σ 73 v5.toNatClampNeg)) + (σ 74 v5.toNatClampNeg)))) fun x7 =>
          ul (v5 + 1) fun x8 =>
          f_X6_became_14 fuel σ v2 v3 x7 x8
def f_X6_became (σ : St) (v1 : Int32) (v2 : Int32) (v3 : Int32) : Option (Int32 × St) :=
  if v2 ≤ v3 then
    f_X6_became_14 fu σ v2 v3 v1 0
  else
    some (((-9) : Int32), σ)
theorem fi_X6_became_6 : ∀ w ∈ u_ws RX6 TX6 6, w ∈ wsX6_became := by decide +kernel
set_option maxHeartbeats 4000000 in
set_option maxRecDepth 100000 in
theorem w_X6_became_14 {p : Program} {l : Launch} {e : Env} {s : State} {m : MethodId} {args : Array Value} {below : List Frame} {meth : Method} {c : Code} {D : va_G} {ad : Nat → Nat} {cs : Nat → ClassId} (C : uC p { frames := 1, cells := 0, slots := 0, locals := 21 } s m args c cX6_became 6 wsX6_became RX6 D vwCl (tyX cs) 99 ad (uAd 99 ad s.heap.size) 0 0) (hr : meth.sig.returnType = (some .int)) (hlk : meth.locks = false) {r : Int32} {σ' : St} :
    ∀ (n : Nat) (σ : St) (v2 : Int32) (v3 : Int32) (v4 : Int32) (v5 : Int32), f_X6_became_14 n σ v2 v3 v4 v5 = some (r, σ') → ∀ (H : Heap) (locs : List Loc) (ls : Array Slot), uG D vwCl 99 ad (enX ad cs) (uAd 99 ad s.heap.size) s σ H locs → lv_has ls 6 [(0, .ref (ad 71)), (2, .int v2), (3, .int v3), (4, .int v4), (5, .int v5)] → W p l e { frames := 1, cells := 0, slots := 0, locals := 21 } s m args below meth c H locs 0 0 (MQ below (uQi D vwCl 99 ad (enX ad cs) r σ' s.heap.size) args s 0 0 (uAd 99 ad s.heap.size)) (F0 m 14 ls []) := by
  have hx := C.1.1
  have hb := C.1.2.1
  intro n
  induction n with
  | zero => intro σ v2 v3 v4 v5  h; exact absurd h (by simp [f_X6_became_14])
  | succ fuel ih =>
    intro σ v2 v3 v4 v5  h H locs ls G hl
    rw [f_X6_became_14] at h
    refine lv_iload hx hb dX6_became_14 (lv_at hl 4 rfl) ?_
    refine lv_aload_n hx hb dX6_became_16 rfl (lv_at hl 0 rfl) ?_
    refine u_get (v := .int (σ 71 3)) C G obX_71 (ci := 6) (N := 6) (Cn := RX6) (T := TX6) rfl fi_X6_became_6 3 (by decide) (by decide +kernel) rfl dX6_became_17 ?_
    refine lv_icmp_ge (tgt := 81) hx hb dX6_became_20 (by decide) (fun q => ?_) (fun q => ?_)
    · have h := u_pos q h
      refine lv_iload hx hb dX6_became_81 (lv_at hl 3 rfl) ?_
      obtain ⟨rfl, rfl⟩ := u_end h
      exact u_iret hx hb hr hlk G dX6_became_83
    · have h := u_neg q h
      refine lv_aload_n hx hb dX6_became_23 rfl (lv_at hl 0 rfl) ?_
      refine u_get (v := .ref (ad 72)) C G obX_71 (ci := 6) (N := 6) (Cn := RX6) (T := TX6) rfl fi_X6_became_6 0 (by decide) (by decide +kernel) rfl dX6_became_24 ?_
      refine lv_iload hx hb dX6_became_27 (lv_at hl 4 rfl) ?_
      obtain ⟨g1, h⟩ := ui_of h
      refine u_iald C G arX_72 (t0 := 0) rfl g1 dX6_became_29 ?_
      refine lv_iload_n hx hb dX6_became_30 rfl (lv_at hl 1 rfl) ?_
      refine lv_icmp_le (tgt := 75) hx hb dX6_became_31 (by decide) (fun q => ?_) (fun q => ?_)
      · have h := u_pos q h
        obtain ⟨x2, ex2, h⟩ := ul_of h
        refine lv_iinc (v := x2) (lv' := [(5, .int x2), (0, .ref (ad 71)), (2, .int v2), (3, .int v3), (4, .int v4)]) hx hb dX6_became_75 hl (k := 4) rfl (by rw [ex2]; rfl) (by decide) rfl (fun ls hl => ?_)
        refine lv_goto (tgt := 14) hx hb dX6_became_78 (by decide) ?_
        exact ih σ v2 v3 v4 x2 h H locs ls G (lv_sub hl [1, 2, 3, 4, 0] rfl)
      · have h := u_neg q h
        refine lv_aload_n hx hb dX6_became_34 rfl (lv_at hl 0 rfl) ?_
        refine u_get (v := .ref (ad 72)) C G obX_71 (ci := 6) (N := 6) (Cn := RX6) (T := TX6) rfl fi_X6_became_6 0 (by decide) (by decide +kernel) rfl dX6_became_35 ?_
        refine lv_iload hx hb dX6_became_38 (lv_at hl 4 rfl) ?_
        obtain ⟨g3, h⟩ := ui_of h
        refine u_iald C G arX_72 (t0 := 0) rfl g3 dX6_became_40 ?_
        refine lv_iload_n hx hb dX6_became_41 rfl (lv_at hl 2 rfl) ?_
        refine lv_icmp_gt (tgt := 75) hx hb dX6_became_42 (by decide) (fun q => ?_) (fun q => ?_)
        · have h := u_pos q h
          obtain ⟨x4, ex4, h⟩ := ul_of h
          refine lv_iinc (v := x4) (lv' := [(5, .int x4), (0, .ref (ad 71)), (2, .int v2), (3, .int v3), (4, .int v4)]) hx hb dX6_became_75 hl (k := 4) rfl (by rw [ex4]; rfl) (by decide) rfl (fun ls hl => ?_)
          refine lv_goto (tgt := 14) hx hb dX6_became_78 (by decide) ?_
          exact ih σ v2 v3 v4 x4 h H locs ls G (lv_sub hl [1, 2, 3, 4, 0] rfl)
        · have h := u_neg q h
          refine lv_iload hx hb dX6_became_45 (lv_at hl 3 rfl) ?_
          refine lv_aload_n hx hb dX6_became_47 rfl (lv_at hl 0 rfl) ?_
          refine u_get (v := .ref (ad 73)) C G obX_71 (ci := 6) (N := 6) (Cn := RX6) (T := TX6) rfl fi_X6_became_6 1 (by decide) (by decide +kernel) rfl dX6_became_48 ?_
          refine lv_iload hx hb dX6_became_51 (lv_at hl 4 rfl) ?_
          obtain ⟨g5, h⟩ := ui_of h
          refine u_iald C G arX_73 (t0 := 0) rfl g5 dX6_became_53 ?_
          refine lv_imul hx hb dX6_became_54 ?_
          refine lv_aload_n hx hb dX6_became_55 rfl (lv_at hl 0 rfl) ?_
          refine u_get (v := .ref (ad 74)) C G obX_71 (ci := 6) (N := 6) (Cn := RX6) (T := TX6) rfl fi_X6_became_6 2 (by decide) (by decide +kernel) rfl dX6_became_56 ?_
          refine lv_iload hx hb dX6_became_59 (lv_at hl 4 rfl) ?_
          obtain ⟨g6, h⟩ := ui_of h
          refine u_iald C G arX_74 (t0 := 0) rfl g6 dX6_became_61 ?_
          refine lv_iadd hx hb dX6_became_62 ?_
          refine lv_iconst (v := 1) hx hb dX6_became_63 (by decide) ?_
          refine va_mmax hx hb (by rw [C.1.2.2.1, hl.1]) C.1.2.2.2.1 (C.1.2.2.2.2 (.methodLink RX6 31 Lib.Math.max.name) (by decide +kernel)) (C.1.2.2.2.2 (.static Lib.Math.max.name) (by decide +kernel)) (C.1.2.2.2.2 (.initialized "java/lang/Math") (by decide +kernel)) (C.1.2.2.2.2 (.code Lib.Math.max.name Lib.Math.max.code 2 (some .int)) (by decide +kernel)) (Nat.le_of_ble_eq_true rfl) (by decide) C.2.2.2.2.2.1 C.2.2.2.2.2.2 dX6_became_64 ?_
          refine lv_sipush (v := 200) hx hb dX6_became_67 (by decide) ?_
          refine va_mmin hx hb (by rw [C.1.2.2.1, hl.1]) C.1.2.2.2.1 (C.1.2.2.2.2 (.methodLink RX6 37 Lib.Math.min.name) (by decide +kernel)) (C.1.2.2.2.2 (.static Lib.Math.min.name) (by decide +kernel)) (C.1.2.2.2.2 (.initialized "java/lang/Math") (by decide +kernel)) (C.1.2.2.2.2 (.code Lib.Math.min.name Lib.Math.min.code 2 (some .int)) (by decide +kernel)) (Nat.le_of_ble_eq_true rfl) (by decide) C.2.2.2.2.2.1 C.2.2.2.2.2.2 dX6_became_70 ?_
          obtain ⟨x7, ex7, h⟩ := ul_of h
          refine u_nmi ex7 ?_
          refine lv_istore (lv' := [(4, .int x7), (0, .ref (ad 71)), (2, .int v2), (3, .int v3), (5, .int v5)]) hx hb dX6_became_73 hl (by decide) rfl (fun ls hl => ?_)
          obtain ⟨x8, ex8, h⟩ := ul_of h
          refine lv_iinc (v := x8) (lv' := [(5, .int x8), (4, .int x7), (0, .ref (ad 71)), (2, .int v2), (3, .int v3)]) hx hb dX6_became_75 hl (k := 4) rfl (by rw [ex8]; rfl) (by decide) rfl (fun ls hl => ?_)
          refine lv_goto (tgt := 14) hx hb dX6_became_78 (by decide) ?_
          exact ih σ v2 v3 x7 x8 h H locs ls G (lv_sub hl [2, 3, 4, 1, 0] rfl)
set_option maxHeartbeats 4000000 in
set_option maxRecDepth 100000 in
theorem c_X6_became (l : Launch) (D : va_G) (ad : Nat → Nat) (cs : Nat → ClassId) (J : uJ 99 ad) (σ : St) (v1 : Int32) (v2 : Int32) (v3 : Int32) (r : Int32) (σ' : St) (h : f_X6_became σ v1 v2 v3 = some (r, σ')) : uMi l yX6_became wsX6_became { frames := 1, cells := 0, slots := 0, locals := 21 } D vwCl (tyX cs) 99 ad (enX ad cs) [.ref (ad 71), .int v1, .int v2, .int v3] σ r σ' := by
  refine u_met (Qf := uQi D vwCl 99 ad (enX ad cs) r σ') (cc := cX6_became) (maxL := 6) (ret := (some .int)) (lv := [(0, .ref (ad 71)), (1, .int v1), (2, .int v2), (3, .int v3)]) J (by decide) rfl (Nat.le_of_ble_eq_true rfl) rfl rfl rfl ?_
  intro p e s m args below meth c ls hx hb C hr hlk G hl
  unfold f_X6_became at h
  obtain ⟨H, eH⟩ : ∃ H, H = s.heap := ⟨_, rfl⟩
  obtain ⟨locs, eL⟩ : ∃ locs : List Loc, locs = [] := ⟨_, rfl⟩
  refine u_start eH eL G ?_
  clear G eH eL
  intro G
  refine lv_iload_n hx hb dX6_became_0 rfl (lv_at hl 3 rfl) ?_
  refine lv_iload_n hx hb dX6_became_1 rfl (lv_at hl 2 rfl) ?_
  refine lv_icmp_ge (tgt := 8) hx hb dX6_became_2 (by decide) (fun q => ?_) (fun q => ?_)
  · have h := u_pos q h
    refine lv_iload_n hx hb dX6_became_8 rfl (lv_at hl 1 rfl) ?_
    refine lv_istore (lv' := [(4, .int v1), (0, .ref (ad 71)), (1, .int v1), (2, .int v2), (3, .int v3)]) hx hb dX6_became_9 hl (by decide) rfl (fun ls hl => ?_)
    refine lv_iconst (v := 0) hx hb dX6_became_11 (by decide) ?_
    refine lv_istore (lv' := [(5, .int 0), (4, .int v1), (0, .ref (ad 71)), (1, .int v1), (2, .int v2), (3, .int v3)]) hx hb dX6_became_12 hl (by decide) rfl (fun ls hl => ?_)
    exact w_X6_became_14 C hr hlk fu σ v2 v3 v1 0 h H locs ls G (lv_sub hl [2, 4, 5, 1, 0] rfl)
  · have h := u_neg q h
    refine lv_bipush (v := (-9)) hx hb dX6_became_5 (by decide) ?_
    obtain ⟨rfl, rfl⟩ := u_end h
    exact u_iret hx hb hr hlk G dX6_became_7
/-! X7_isFull -/
def f_X7_isFull (σ : St) : Option (Int32 × St) :=
  if (σ 83 3) < 12 then
    some ((0 : Int32), σ)
  else
    some ((1 : Int32), σ)
theorem fi_X7_isFull_7 : ∀ w ∈ u_ws RX7 TX7 4, w ∈ wsX7_isFull := by decide +kernel
set_option maxHeartbeats 4000000 in
set_option maxRecDepth 100000 in
theorem c_X7_isFull (l : Launch) (D : va_G) (ad : Nat → Nat) (cs : Nat → ClassId) (J : uJ 99 ad) (σ : St) (r : Int32) (σ' : St) (h : f_X7_isFull σ = some (r, σ')) : uMi l yX7_isFull wsX7_isFull { frames := 0, cells := 0, slots := 0, locals := 0 } D vwCl (tyX cs) 99 ad (enX ad cs) [.ref (ad 83)] σ r σ' := by
  refine u_met (Qf := uQi D vwCl 99 ad (enX ad cs) r σ') (cc := cX7_isFull) (maxL := 1) (ret := (some .boolean)) (lv := [(0, .ref (ad 83))]) J (by decide) rfl (Nat.le_of_ble_eq_true rfl) rfl rfl rfl ?_
  intro p e s m args below meth c ls hx hb C hr hlk G hl
  unfold f_X7_isFull at h
  obtain ⟨H, eH⟩ : ∃ H, H = s.heap := ⟨_, rfl⟩
  obtain ⟨locs, eL⟩ : ∃ locs : List Loc, locs = [] := ⟨_, rfl⟩
  refine u_start eH eL G ?_
  clear G eH eL
  intro G
  refine lv_aload_n hx hb dX7_isFull_0 rfl (lv_at hl 0 rfl) ?_
  refine u_get (v := .int (σ 83 3)) C G obX_83 (ci := 7) (N := 4) (Cn := RX7) (T := TX7) rfl fi_X7_isFull_7 3 (by decide) (by decide +kernel) rfl dX7_isFull_1 ?_
  refine lv_bipush (v := 12) hx hb dX7_isFull_4 (by decide) ?_
  refine lv_icmp_lt (tgt := 13) hx hb dX7_isFull_6 (by decide) (fun q => ?_) (fun q => ?_)
  · have h := u_pos q h
    refine lv_iconst (v := 0) hx hb dX7_isFull_13 (by decide) ?_
    obtain ⟨rfl, rfl⟩ := u_end h
    exact u_zret hx hb hr hlk G (by decide) dX7_isFull_14
  · have h := u_neg q h
    refine lv_iconst (v := 1) hx hb dX7_isFull_9 (by decide) ?_
    refine lv_goto (tgt := 14) hx hb dX7_isFull_10 (by decide) ?_
    obtain ⟨rfl, rfl⟩ := u_end h
    exact u_zret hx hb hr hlk G (by decide) dX7_isFull_14
/-! X7_add -/
def f_X7_add (σ : St) (v1 : Int32) (v2 : Int32) (v3 : Int32) : Option (Int32 × St) :=
  ui (σ 83 3) 12 <|
  ul (us σ 84 (σ 83 3).toNatClampNeg v1) fun σ2 =>
  ui (σ2 83 3) 12 <|
  ul (us σ2 85 (σ2 83 3).toNatClampNeg v2) fun σ4 =>
  if v3 = 0 then
    ul (us σ4 83 3 ((σ4 83 3) + 1)) fun σ5 =>
    some (((σ5 83 3) - 1), σ5)
  else
    ul (us σ4 83 2 ((σ4 83 2) ||| (1 <<< ((σ4 83 3) &&& 31)))) fun σ6 =>
    ul (us σ6 83 3 ((σ6 83 3) + 1)) fun σ7 =>
    some (((σ7 83 3) - 1), σ7)
theorem fi_X7_add_7 : ∀ w ∈ u_ws RX7 TX7 4, w ∈ wsX7_add := by decide +kernel
set_option maxHeartbeats 4000000 in
set_option maxRecDepth 100000 in
theorem c_X7_add (l : Launch) (D : va_G) (ad : Nat → Nat) (cs : Nat → ClassId) (J : uJ 99 ad) (σ : St) (v1 : Int32) (v2 : Int32) (v3 : Int32) (r : Int32) (σ' : St) (h : f_X7_add σ v1 v2 v3 = some (r, σ')) : uMi l yX7_add wsX7_add { frames := 0, cells := 0, slots := 0, locals := 0 } D vwCl (tyX cs) 99 ad (enX ad cs) [.ref (ad 83), .int v1, .int v2, .int v3] σ r σ' := by
  refine u_met (Qf := uQi D vwCl 99 ad (enX ad cs) r σ') (cc := cX7_add) (maxL := 4) (ret := (some .int)) (lv := [(0, .ref (ad 83)), (1, .int v1), (2, .int v2), (3, .int v3)]) J (by decide) rfl (Nat.le_of_ble_eq_true rfl) rfl rfl rfl ?_
  intro p e s m args below meth c ls hx hb C hr hlk G hl
  unfold f_X7_add at h
  obtain ⟨H, eH⟩ : ∃ H, H = s.heap := ⟨_, rfl⟩
  obtain ⟨locs, eL⟩ : ∃ locs : List Loc, locs = [] := ⟨_, rfl⟩
  refine u_start eH eL G ?_
  clear G eH eL
  intro G
  refine lv_aload_n hx hb dX7_add_0 rfl (lv_at hl 0 rfl) ?_
  refine u_get (v := .ref (ad 84)) C G obX_83 (ci := 7) (N := 4) (Cn := RX7) (T := TX7) rfl fi_X7_add_7 0 (by decide) (by decide +kernel) rfl dX7_add_1 ?_
  refine lv_aload_n hx hb dX7_add_4 rfl (lv_at hl 0 rfl) ?_
  refine u_get (v := .int (σ 83 3)) C G obX_83 (ci := 7) (N := 4) (Cn := RX7) (T := TX7) rfl fi_X7_add_7 3 (by decide) (by decide +kernel) rfl dX7_add_5 ?_
  refine lv_iload_n hx hb dX7_add_8 rfl (lv_at hl 1 rfl) ?_
  obtain ⟨g1, h⟩ := ui_of h
  refine u_iast C G arX_84 (t0 := 0) rfl g1 dX7_add_9 (fun H locs G => ?_)
  obtain ⟨σ2, eσ2, h⟩ := ul_of h
  replace G := uG_eq eσ2 G
  refine lv_aload_n hx hb dX7_add_10 rfl (lv_at hl 0 rfl) ?_
  refine u_get (v := .ref (ad 85)) C G obX_83 (ci := 7) (N := 4) (Cn := RX7) (T := TX7) rfl fi_X7_add_7 1 (by decide) (by decide +kernel) rfl dX7_add_11 ?_
  refine lv_aload_n hx hb dX7_add_14 rfl (lv_at hl 0 rfl) ?_
  refine u_get (v := .int (σ2 83 3)) C G obX_83 (ci := 7) (N := 4) (Cn := RX7) (T := TX7) rfl fi_X7_add_7 3 (by decide) (by decide +kernel) rfl dX7_add_15 ?_
  refine lv_iload_n hx hb dX7_add_18 rfl (lv_at hl 2 rfl) ?_
  obtain ⟨g3, h⟩ := ui_of h
  refine u_iast C G arX_85 (t0 := 0) rfl g3 dX7_add_19 (fun H locs G => ?_)
  obtain ⟨σ4, eσ4, h⟩ := ul_of h
  replace G := uG_eq eσ4 G
  refine lv_iload_n hx hb dX7_add_20 rfl (lv_at hl 3 rfl) ?_
  refine lv_if_eq (tgt := 39) hx hb dX7_add_21 (by decide) (fun q => ?_) (fun q => ?_)
  · have h := u_pos q h
    refine lv_aload_n hx hb dX7_add_39 rfl (lv_at hl 0 rfl) ?_
    refine lv_dup hx hb dX7_add_40 rfl ?_
    refine u_get (v := .int (σ4 83 3)) C G obX_83 (ci := 7) (N := 4) (Cn := RX7) (T := TX7) rfl fi_X7_add_7 3 (by decide) (by decide +kernel) rfl dX7_add_41 ?_
    refine lv_iconst (v := 1) hx hb dX7_add_44 (by decide) ?_
    refine lv_iadd hx hb dX7_add_45 ?_
    refine u_put (x := ((σ4 83 3) + 1)) (ty := .int) C G obX_83 (ci := 7) (N := 4) (Cn := RX7) (T := TX7) rfl fi_X7_add_7 tyX7 tyX7_ok nmX7 3 (by decide) (by decide +kernel) rfl (by decide +kernel) rfl rfl (fun f => by simp) (fun f => rfl) dX7_add_46 (fun H locs G => ?_)
    obtain ⟨σ5, eσ5, h⟩ := ul_of h
    replace G := uG_eq eσ5 G
    refine lv_aload_n hx hb dX7_add_49 rfl (lv_at hl 0 rfl) ?_
    refine u_get (v := .int (σ5 83 3)) C G obX_83 (ci := 7) (N := 4) (Cn := RX7) (T := TX7) rfl fi_X7_add_7 3 (by decide) (by decide +kernel) rfl dX7_add_50 ?_
    refine lv_iconst (v := 1) hx hb dX7_add_53 (by decide) ?_
    refine lv_isub hx hb dX7_add_54 ?_
    obtain ⟨rfl, rfl⟩ := u_end h
    exact u_iret hx hb hr hlk G dX7_add_55
  · have h := u_neg q h
    refine lv_aload_n hx hb dX7_add_24 rfl (lv_at hl 0 rfl) ?_
    refine lv_dup hx hb dX7_add_25 rfl ?_
    refine u_get (v := .int (σ4 83 2)) C G obX_83 (ci := 7) (N := 4) (Cn := RX7) (T := TX7) rfl fi_X7_add_7 2 (by decide) (by decide +kernel) rfl dX7_add_26 ?_
    refine lv_iconst (v := 1) hx hb dX7_add_29 (by decide) ?_
    refine lv_aload_n hx hb dX7_add_30 rfl (lv_at hl 0 rfl) ?_
    refine u_get (v := .int (σ4 83 3)) C G obX_83 (ci := 7) (N := 4) (Cn := RX7) (T := TX7) rfl fi_X7_add_7 3 (by decide) (by decide +kernel) rfl dX7_add_31 ?_
    refine lv_ishl hx hb dX7_add_34 ?_
    refine lv_ior hx hb dX7_add_35 ?_
    refine u_put (x := ((σ4 83 2) ||| (1 <<< ((σ4 83 3) &&& 31)))) (ty := .int) C G obX_83 (ci := 7) (N := 4) (Cn := RX7) (T := TX7) rfl fi_X7_add_7 tyX7 tyX7_ok nmX7 2 (by decide) (by decide +kernel) rfl (by decide +kernel) rfl rfl (fun f => by simp) (fun f => rfl) dX7_add_36 (fun H locs G => ?_)
    obtain ⟨σ6, eσ6, h⟩ := ul_of h
    replace G := uG_eq eσ6 G
    refine lv_aload_n hx hb dX7_add_39 rfl (lv_at hl 0 rfl) ?_
    refine lv_dup hx hb dX7_add_40 rfl ?_
    refine u_get (v := .int (σ6 83 3)) C G obX_83 (ci := 7) (N := 4) (Cn := RX7) (T := TX7) rfl fi_X7_add_7 3 (by decide) (by decide +kernel) rfl dX7_add_41 ?_
    refine lv_iconst (v := 1) hx hb dX7_add_44 (by decide) ?_
    refine lv_iadd hx hb dX7_add_45 ?_
    refine u_put (x := ((σ6 83 3) + 1)) (ty := .int) C G obX_83 (ci := 7) (N := 4) (Cn := RX7) (T := TX7) rfl fi_X7_add_7 tyX7 tyX7_ok nmX7 3 (by decide) (by decide +kernel) rfl (by decide +kernel) rfl rfl (fun f => by simp) (fun f => rfl) dX7_add_46 (fun H locs G => ?_)
    obtain ⟨σ7, eσ7, h⟩ := ul_of h
    replace G := uG_eq eσ7 G
    refine lv_aload_n hx hb dX7_add_49 rfl (lv_at hl 0 rfl) ?_
    refine u_get (v := .int (σ7 83 3)) C G obX_83 (ci := 7) (N := 4) (Cn := RX7) (T := TX7) rfl fi_X7_add_7 3 (by decide) (by decide +kernel) rfl dX7_add_50 ?_
    refine lv_iconst (v := 1) hx hb dX7_add_53 (by decide) ?_
    refine lv_isub hx hb dX7_add_54 ?_
    obtain ⟨rfl, rfl⟩ := u_end h
    exact u_iret hx hb hr hlk G dX7_add_55
/-! X7_sumOf -/
def f_X7_sumOf_4 : Nat → St → Nat → Int32 → Int32 → Int32 → Option (Int32 × St)
  | 0, _, _, _, _, _ => none
  | fuel + 1, σ, i0, v1, v2, v3 =>
    if 12 ≤ v3 then
      some (v2, σ)
    else
      if ((v1 >>> (v3 &&& 31)) &&& 1) = 0 then
        ul (v3 + 1) fun x1 =>
        f_X7_sumOf_4 fuel σ i0 v1 v2 x1
      else
        ui v3 12 <|
        ul (v2 + (σ i0 v3.toNatClampNeg)) fun x3 =>
        ul (v3 + 1) fun x4 =>
        f_X7_sumOf_4 fuel σ i0 v1 x3 x4
def f_X7_sumOf (σ : St) (i0 : Nat) (v1 : Int32) : Option (Int32 × St) :=
  f_X7_sumOf_4 fu σ i0 v1 0 0
set_option maxHeartbeats 4000000 in
set_option maxRecDepth 100000 in
theorem w_X7_sumOf_4 {p : Program} {l : Launch} {e : Env} {s : State} {m : MethodId} {args : Array Value} {below : List Frame} {meth : Method} {c : Code} {D : va_G} {ad : Nat → Nat} {cs : Nat → ClassId} (C : uC p { frames := 0, cells := 0, slots := 0, locals := 0 } s m args c cX7_sumOf 4 wsX7_sumOf RX7 D vwCl (tyX cs) 99 ad (uAd 99 ad s.heap.size) 0 0) (hr : meth.sig.returnType = (some .int)) (hlk : meth.locks = false) {r : Int32} {σ' : St} :
    ∀ (n : Nat) (σ : St) (i0 : Nat) (v1 : Int32) (v2 : Int32) (v3 : Int32) (bi0 : uA 99 (enX ad cs) i0 (cs 0) 12), f_X7_sumOf_4 n σ i0 v1 v2 v3 = some (r, σ') → ∀ (H : Heap) (locs : List Loc) (ls : Array Slot), uG D vwCl 99 ad (enX ad cs) (uAd 99 ad s.heap.size) s σ H locs → lv_has ls 4 [(0, .ref (ad i0)), (1, .int v1), (2, .int v2), (3, .int v3)] → W p l e { frames := 0, cells := 0, slots := 0, locals := 0 } s m args below meth c H locs 0 0 (MQ below (uQi D vwCl 99 ad (enX ad cs) r σ' s.heap.size) args s 0 0 (uAd 99 ad s.heap.size)) (F0 m 4 ls []) := by
  have hx := C.1.1
  have hb := C.1.2.1
  intro n
  induction n with
  | zero => intro σ i0 v1 v2 v3 bi0 h; exact absurd h (by simp [f_X7_sumOf_4])
  | succ fuel ih =>
    intro σ i0 v1 v2 v3 bi0 h H locs ls G hl
    rw [f_X7_sumOf_4] at h
    refine lv_iload_n hx hb dX7_sumOf_4 rfl (lv_at hl 3 rfl) ?_
    refine lv_bipush (v := 12) hx hb dX7_sumOf_5 (by decide) ?_
    refine lv_icmp_ge (tgt := 30) hx hb dX7_sumOf_7 (by decide) (fun q => ?_) (fun q => ?_)
    · have h := u_pos q h
      refine lv_iload_n hx hb dX7_sumOf_30 rfl (lv_at hl 2 rfl) ?_
      obtain ⟨rfl, rfl⟩ := u_end h
      exact u_iret hx hb hr hlk G dX7_sumOf_31
    · have h := u_neg q h
      refine lv_iload_n hx hb dX7_sumOf_10 rfl (lv_at hl 1 rfl) ?_
      refine lv_iload_n hx hb dX7_sumOf_11 rfl (lv_at hl 3 rfl) ?_
      refine lv_ishr hx hb dX7_sumOf_12 ?_
      refine lv_iconst (v := 1) hx hb dX7_sumOf_13 (by decide) ?_
      refine lv_iand hx hb dX7_sumOf_14 ?_
      refine lv_if_eq (tgt := 24) hx hb dX7_sumOf_15 (by decide) (fun q => ?_) (fun q => ?_)
      · have h := u_pos q h
        obtain ⟨x1, ex1, h⟩ := ul_of h
        refine lv_iinc (v := x1) (lv' := [(3, .int x1), (0, .ref (ad i0)), (1, .int v1), (2, .int v2)]) hx hb dX7_sumOf_24 hl (k := 3) rfl (by rw [ex1]; rfl) (by decide) rfl (fun ls hl => ?_)
        refine lv_goto (tgt := 4) hx hb dX7_sumOf_27 (by decide) ?_
        exact ih σ i0 v1 v2 x1 bi0 h H locs ls G (lv_sub hl [1, 2, 3, 0] rfl)
      · have h := u_neg q h
        refine lv_iload_n hx hb dX7_sumOf_18 rfl (lv_at hl 2 rfl) ?_
        refine lv_aload_n hx hb dX7_sumOf_19 rfl (lv_at hl 0 rfl) ?_
        refine lv_iload_n hx hb dX7_sumOf_20 rfl (lv_at hl 3 rfl) ?_
        obtain ⟨g2, h⟩ := ui_of h
        refine u_iald C G bi0 (t0 := 0) rfl g2 dX7_sumOf_21 ?_
        refine lv_iadd hx hb dX7_sumOf_22 ?_
        obtain ⟨x3, ex3, h⟩ := ul_of h
        refine u_nmi ex3 ?_
        refine lv_istore_n (lv' := [(2, .int x3), (0, .ref (ad i0)), (1, .int v1), (3, .int v3)]) hx hb dX7_sumOf_23 rfl hl (by decide) rfl (fun ls hl => ?_)
        obtain ⟨x4, ex4, h⟩ := ul_of h
        refine lv_iinc (v := x4) (lv' := [(3, .int x4), (2, .int x3), (0, .ref (ad i0)), (1, .int v1)]) hx hb dX7_sumOf_24 hl (k := 3) rfl (by rw [ex4]; rfl) (by decide) rfl (fun ls hl => ?_)
        refine lv_goto (tgt := 4) hx hb dX7_sumOf_27 (by decide) ?_
        exact ih σ i0 v1 x3 x4 bi0 h H locs ls G (lv_sub hl [2, 3, 1, 0] rfl)
set_option maxHeartbeats 4000000 in
set_option maxRecDepth 100000 in
theorem c_X7_sumOf (l : Launch) (D : va_G) (ad : Nat → Nat) (cs : Nat → ClassId) (J : uJ 99 ad) (σ : St) (i0 : Nat) (v1 : Int32) (bi0 : uA 99 (enX ad cs) i0 (cs 0) 12) (r : Int32) (σ' : St) (h : f_X7_sumOf σ i0 v1 = some (r, σ')) : uMi l yX7_sumOf wsX7_sumOf { frames := 0, cells := 0, slots := 0, locals := 0 } D vwCl (tyX cs) 99 ad (enX ad cs) [.ref (ad i0), .int v1] σ r σ' := by
  refine u_met (Qf := uQi D vwCl 99 ad (enX ad cs) r σ') (cc := cX7_sumOf) (maxL := 4) (ret := (some .int)) (lv := [(0, .ref (ad i0)), (1, .int v1)]) J (by decide) rfl (Nat.le_of_ble_eq_true rfl) rfl rfl rfl ?_
  intro p e s m args below meth c ls hx hb C hr hlk G hl
  unfold f_X7_sumOf at h
  obtain ⟨H, eH⟩ : ∃ H, H = s.heap := ⟨_, rfl⟩
  obtain ⟨locs, eL⟩ : ∃ locs : List Loc, locs = [] := ⟨_, rfl⟩
  refine u_start eH eL G ?_
  clear G eH eL
  intro G
  refine lv_iconst (v := 0) hx hb dX7_sumOf_0 (by decide) ?_
  refine lv_istore_n (lv' := [(2, .int 0), (0, .ref (ad i0)), (1, .int v1)]) hx hb dX7_sumOf_1 rfl hl (by decide) rfl (fun ls hl => ?_)
  refine lv_iconst (v := 0) hx hb dX7_sumOf_2 (by decide) ?_
  refine lv_istore_n (lv' := [(3, .int 0), (2, .int 0), (0, .ref (ad i0)), (1, .int v1)]) hx hb dX7_sumOf_3 rfl hl (by decide) rfl (fun ls hl => ?_)
  exact w_X7_sumOf_4 C hr hlk fu σ i0 v1 0 0 bi0 h H locs ls G (lv_sub hl [2, 3, 1, 0] rfl)
/-! X7_bestSet -/
def f_X7_bestSet_10 : Nat → St → Int32 → Int32 → Int32 → Int32 → Int32 → Option (Int32 × St)
  | 0, _, _, _, _, _, _ => none
  | fuel + 1, σ, v1, v2, v3, v4, v5 =>
    if (1 <<< ((σ 83 3) &&& 31)) ≤ v5 then
      some (v2, σ)
    else
      if (v5 &&& ((σ 83 2) ^^^ (-1))) = 0 then
        ub (f_X7_sumOf σ 85 v5) fun r2 σ3 =>
        ub (f_X7_sumOf σ3 84 v5) fun r4 σ5 =>
        if v3 < r4 then
          if v1 < r2 then
            ul (v5 + 1) fun x6 =>
            f_X7_bestSet_10 fuel σ5 v1 v2 v3 v4 x6
          else
            ul (v5 + 1) fun x7 =>
            f_X7_bestSet_10 fuel σ5 v1 v5 r4 r2 x7
        else
          if r4 = v3 then
            if v4 ≤ r2 then
              if v1 < r2 then
                ul (v5 + 1) fun x10 =>
                f_X7_bestSet_10 fuel σ5 v1 v2 v3 v4 x10
              else
                ul (v5 + 1) fun x11 =>
                f_X7_bestSet_10 fuel σ5 v1 v2 v3 v4 x11
            else
              if v1 < r2 then
                ul (v5 + 1) fun x12 =>
                f_X7_bestSet_10 fuel σ5 v1 v2 v3 v4 x12
              else
                ul (v5 + 1) fun x13 =>
                f_X7_bestSet_10 fuel σ5 v1 v5 r4 r2 x13
          else
            if v1 < r2 then
              ul (v5 + 1) fun x8 =>
              f_X7_bestSet_10 fuel σ5 v1 v2 v3 v4 x8
            else
              ul (v5 + 1) fun x9 =>
              f_X7_bestSet_10 fuel σ5 v1 v2 v3 v4 x9
      else
        ul (v5 + 1) fun x1 =>
        f_X7_bestSet_10 fuel σ v1 v2 v3 v4 x1
def f_X7_bestSet (σ : St) (v1 : Int32) : Option (Int32 × St) :=
  f_X7_bestSet_10 fu σ v1 0 0 0 1
theorem fi_X7_bestSet_7 : ∀ w ∈ u_ws RX7 TX7 4, w ∈ wsX7_bestSet := by decide +kernel
set_option maxHeartbeats 4000000 in
set_option maxRecDepth 100000 in
theorem w_X7_bestSet_10 {p : Program} {l : Launch} {e : Env} {s : State} {m : MethodId} {args : Array Value} {below : List Frame} {meth : Method} {c : Code} {D : va_G} {ad : Nat → Nat} {cs : Nat → ClassId} (C : uC p { frames := 1, cells := 0, slots := 0, locals := 23 } s m args c cX7_bestSet 9 wsX7_bestSet RX7 D vwCl (tyX cs) 99 ad (uAd 99 ad s.heap.size) 0 0) (hr : meth.sig.returnType = (some .int)) (hlk : meth.locks = false) {r : Int32} {σ' : St} :
    ∀ (n : Nat) (σ : St) (v1 : Int32) (v2 : Int32) (v3 : Int32) (v4 : Int32) (v5 : Int32), f_X7_bestSet_10 n σ v1 v2 v3 v4 v5 = some (r, σ') → ∀ (H : Heap) (locs : List Loc) (ls : Array Slot), uG D vwCl 99 ad (enX ad cs) (uAd 99 ad s.heap.size) s σ H locs → lv_has ls 9 [(0, .ref (ad 83)), (1, .int v1), (2, .int v2), (3, .int v3), (4, .int v4), (5, .int v5)] → W p l e { frames := 1, cells := 0, slots := 0, locals := 23 } s m args below meth c H locs 0 0 (MQ below (uQi D vwCl 99 ad (enX ad cs) r σ' s.heap.size) args s 0 0 (uAd 99 ad s.heap.size)) (F0 m 10 ls []) := by
  have hx := C.1.1
  have hb := C.1.2.1
  intro n
  induction n with
  | zero => intro σ v1 v2 v3 v4 v5  h; exact absurd h (by simp [f_X7_bestSet_10])
  | succ fuel ih =>
    intro σ v1 v2 v3 v4 v5  h H locs ls G hl
    rw [f_X7_bestSet_10] at h
    refine lv_iload hx hb dX7_bestSet_10 (lv_at hl 5 rfl) ?_
    refine lv_iconst (v := 1) hx hb dX7_bestSet_12 (by decide) ?_
    refine lv_aload_n hx hb dX7_bestSet_13 rfl (lv_at hl 0 rfl) ?_
    refine u_get (v := .int (σ 83 3)) C G obX_83 (ci := 7) (N := 4) (Cn := RX7) (T := TX7) rfl fi_X7_bestSet_7 3 (by decide) (by decide +kernel) rfl dX7_bestSet_14 ?_
    refine lv_ishl hx hb dX7_bestSet_17 ?_
    refine lv_icmp_ge (tgt := 108) hx hb dX7_bestSet_18 (by decide) (fun q => ?_) (fun q => ?_)
    · have h := u_pos q h
      refine lv_iload_n hx hb dX7_bestSet_108 rfl (lv_at hl 2 rfl) ?_
      obtain ⟨rfl, rfl⟩ := u_end h
      exact u_iret hx hb hr hlk G dX7_bestSet_109
    · have h := u_neg q h
      refine lv_iload hx hb dX7_bestSet_21 (lv_at hl 5 rfl) ?_
      refine lv_aload_n hx hb dX7_bestSet_23 rfl (lv_at hl 0 rfl) ?_
      refine u_get (v := .int (σ 83 2)) C G obX_83 (ci := 7) (N := 4) (Cn := RX7) (T := TX7) rfl fi_X7_bestSet_7 2 (by decide) (by decide +kernel) rfl dX7_bestSet_24 ?_
      refine lv_iconst (v := (-1)) hx hb dX7_bestSet_27 (by decide) ?_
      refine lv_ixor hx hb dX7_bestSet_28 ?_
      refine lv_iand hx hb dX7_bestSet_29 ?_
      refine lv_if_ne (tgt := 102) hx hb dX7_bestSet_30 (by decide) (fun q => ?_) (fun q => ?_)
      · have h := u_neg q h
        obtain ⟨x1, ex1, h⟩ := ul_of h
        refine lv_iinc (v := x1) (lv' := [(5, .int x1), (0, .ref (ad 83)), (1, .int v1), (2, .int v2), (3, .int v3), (4, .int v4)]) hx hb dX7_bestSet_102 hl (k := 5) rfl (by rw [ex1]; rfl) (by decide) rfl (fun ls hl => ?_)
        refine lv_goto (tgt := 10) hx hb dX7_bestSet_105 (by decide) ?_
        exact ih σ v1 v2 v3 v4 x1 h H locs ls G (lv_sub hl [1, 2, 3, 4, 5, 0] rfl)
      · have h := u_pos q h
        refine lv_aload_n hx hb dX7_bestSet_33 rfl (lv_at hl 0 rfl) ?_
        refine u_get (v := .ref (ad 85)) C G obX_83 (ci := 7) (N := 4) (Cn := RX7) (T := TX7) rfl fi_X7_bestSet_7 1 (by decide) (by decide +kernel) rfl dX7_bestSet_34 ?_
        refine lv_iload hx hb dX7_bestSet_37 (lv_at hl 5 rfl) ?_
        obtain ⟨r2, σ3, er2, h⟩ := ub_of h
        refine u_callSi (As := [.ref (ad 85), .int v5]) (rest := []) C G (c_X7_sumOf l D ad cs C.2.2.1 σ 85 v5 arX_85 r2 σ3 er2) (va_cwS 2 C.1.2.2.2.2 gX7_bestSet_X7_sumOf rfl rfl rfl (by decide +kernel) ⟨Nat.le_of_ble_eq_true rfl, Nat.le_of_ble_eq_true rfl⟩) rfl hl rfl (Nat.le_of_ble_eq_true rfl) dX7_bestSet_39 (fun H locs G => ?_)
        refine lv_istore (lv' := [(6, .int r2), (0, .ref (ad 83)), (1, .int v1), (2, .int v2), (3, .int v3), (4, .int v4), (5, .int v5)]) hx hb dX7_bestSet_42 hl (by decide) rfl (fun ls hl => ?_)
        refine lv_aload_n hx hb dX7_bestSet_44 rfl (lv_at hl 1 rfl) ?_
        refine u_get (v := .ref (ad 84)) C G obX_83 (ci := 7) (N := 4) (Cn := RX7) (T := TX7) rfl fi_X7_bestSet_7 0 (by decide) (by decide +kernel) rfl dX7_bestSet_45 ?_
        refine lv_iload hx hb dX7_bestSet_48 (lv_at hl 6 rfl) ?_
        obtain ⟨r4, σ5, er4, h⟩ := ub_of h
        refine u_callSi (As := [.ref (ad 84), .int v5]) (rest := []) C G (c_X7_sumOf l D ad cs C.2.2.1 σ3 84 v5 arX_84 r4 σ5 er4) (va_cwS 2 C.1.2.2.2.2 gX7_bestSet_X7_sumOf rfl rfl rfl (by decide +kernel) ⟨Nat.le_of_ble_eq_true rfl, Nat.le_of_ble_eq_true rfl⟩) rfl hl rfl (Nat.le_of_ble_eq_true rfl) dX7_bestSet_50 (fun H locs G => ?_)
        refine lv_istore (lv' := [(7, .int r4), (6, .int r2), (0, .ref (ad 83)), (1, .int v1), (2, .int v2), (3, .int v3), (4, .int v4), (5, .int v5)]) hx hb dX7_bestSet_53 hl (by decide) rfl (fun ls hl => ?_)
        refine lv_iload hx hb dX7_bestSet_55 (lv_at hl 0 rfl) ?_
        refine lv_iload_n hx hb dX7_bestSet_57 rfl (lv_at hl 5 rfl) ?_
        refine lv_icmp_gt (tgt := 74) hx hb dX7_bestSet_58 (by decide) (fun q => ?_) (fun q => ?_)
        · have h := u_pos q h
          refine lv_iconst (v := 1) hx hb dX7_bestSet_74 (by decide) ?_
          refine lv_goto (tgt := 79) hx hb dX7_bestSet_75 (by decide) ?_
          refine lv_istore (lv' := [(8, .int 1), (7, .int r4), (6, .int r2), (0, .ref (ad 83)), (1, .int v1), (2, .int v2), (3, .int v3), (4, .int v4), (5, .int v5)]) hx hb dX7_bestSet_79 hl (by decide) rfl (fun ls hl => ?_)
          refine lv_iload hx hb dX7_bestSet_81 (lv_at hl 2 rfl) ?_
          refine lv_iload_n hx hb dX7_bestSet_83 rfl (lv_at hl 4 rfl) ?_
          refine lv_icmp_gt (tgt := 102) hx hb dX7_bestSet_84 (by decide) (fun q => ?_) (fun q => ?_)
          · have h := u_pos q h
            obtain ⟨x6, ex6, h⟩ := ul_of h
            refine lv_iinc (v := x6) (lv' := [(5, .int x6), (8, .int 1), (7, .int r4), (6, .int r2), (0, .ref (ad 83)), (1, .int v1), (2, .int v2), (3, .int v3), (4, .int v4)]) hx hb dX7_bestSet_102 hl (k := 8) rfl (by rw [ex6]; rfl) (by decide) rfl (fun ls hl => ?_)
            refine lv_goto (tgt := 10) hx hb dX7_bestSet_105 (by decide) ?_
            exact ih σ5 v1 v2 v3 v4 x6 h H locs ls G (lv_sub hl [4, 5, 6, 7, 8, 0] rfl)
          · have h := u_neg q h
            refine lv_iload hx hb dX7_bestSet_87 (lv_at hl 0 rfl) ?_
            refine lv_if_eq (tgt := 102) hx hb dX7_bestSet_89 (by decide) (fun q => absurd q (by decide)) (fun _ => ?_)
            refine lv_iload hx hb dX7_bestSet_92 (lv_at hl 8 rfl) ?_
            refine lv_istore_n (lv' := [(2, .int v5), (8, .int 1), (7, .int r4), (6, .int r2), (0, .ref (ad 83)), (1, .int v1), (3, .int v3), (4, .int v4), (5, .int v5)]) hx hb dX7_bestSet_94 rfl hl (by decide) rfl (fun ls hl => ?_)
            refine lv_iload hx hb dX7_bestSet_95 (lv_at hl 2 rfl) ?_
            refine lv_istore_n (lv' := [(3, .int r4), (2, .int v5), (8, .int 1), (7, .int r4), (6, .int r2), (0, .ref (ad 83)), (1, .int v1), (4, .int v4), (5, .int v5)]) hx hb dX7_bestSet_97 rfl hl (by decide) rfl (fun ls hl => ?_)
            refine lv_iload hx hb dX7_bestSet_98 (lv_at hl 4 rfl) ?_
            refine lv_istore (lv' := [(4, .int r2), (3, .int r4), (2, .int v5), (8, .int 1), (7, .int r4), (6, .int r2), (0, .ref (ad 83)), (1, .int v1), (5, .int v5)]) hx hb dX7_bestSet_100 hl (by decide) rfl (fun ls hl => ?_)
            obtain ⟨x7, ex7, h⟩ := ul_of h
            refine lv_iinc (v := x7) (lv' := [(5, .int x7), (4, .int r2), (3, .int r4), (2, .int v5), (8, .int 1), (7, .int r4), (6, .int r2), (0, .ref (ad 83)), (1, .int v1)]) hx hb dX7_bestSet_102 hl (k := 8) rfl (by rw [ex7]; rfl) (by decide) rfl (fun ls hl => ?_)
            refine lv_goto (tgt := 10) hx hb dX7_bestSet_105 (by decide) ?_
            exact ih σ5 v1 v5 r4 r2 x7 h H locs ls G (lv_sub hl [7, 8, 3, 2, 1, 0] rfl)
        · have h := u_neg q h
          refine lv_iload hx hb dX7_bestSet_61 (lv_at hl 0 rfl) ?_
          refine lv_iload_n hx hb dX7_bestSet_63 rfl (lv_at hl 5 rfl) ?_
          refine lv_icmp_ne (tgt := 78) hx hb dX7_bestSet_64 (by decide) (fun q => ?_) (fun q => ?_)
          · have h := u_neg q h
            refine lv_iconst (v := 0) hx hb dX7_bestSet_78 (by decide) ?_
            refine lv_istore (lv' := [(8, .int 0), (7, .int r4), (6, .int r2), (0, .ref (ad 83)), (1, .int v1), (2, .int v2), (3, .int v3), (4, .int v4), (5, .int v5)]) hx hb dX7_bestSet_79 hl (by decide) rfl (fun ls hl => ?_)
            refine lv_iload hx hb dX7_bestSet_81 (lv_at hl 2 rfl) ?_
            refine lv_iload_n hx hb dX7_bestSet_83 rfl (lv_at hl 4 rfl) ?_
            refine lv_icmp_gt (tgt := 102) hx hb dX7_bestSet_84 (by decide) (fun q => ?_) (fun q => ?_)
            · have h := u_pos q h
              obtain ⟨x8, ex8, h⟩ := ul_of h
              refine lv_iinc (v := x8) (lv' := [(5, .int x8), (8, .int 0), (7, .int r4), (6, .int r2), (0, .ref (ad 83)), (1, .int v1), (2, .int v2), (3, .int v3), (4, .int v4)]) hx hb dX7_bestSet_102 hl (k := 8) rfl (by rw [ex8]; rfl) (by decide) rfl (fun ls hl => ?_)
              refine lv_goto (tgt := 10) hx hb dX7_bestSet_105 (by decide) ?_
              exact ih σ5 v1 v2 v3 v4 x8 h H locs ls G (lv_sub hl [4, 5, 6, 7, 8, 0] rfl)
            · have h := u_neg q h
              refine lv_iload hx hb dX7_bestSet_87 (lv_at hl 0 rfl) ?_
              refine lv_if_eq (tgt := 102) hx hb dX7_bestSet_89 (by decide) (fun _ => ?_) (fun q => absurd q (by decide))
              obtain ⟨x9, ex9, h⟩ := ul_of h
              refine lv_iinc (v := x9) (lv' := [(5, .int x9), (8, .int 0), (7, .int r4), (6, .int r2), (0, .ref (ad 83)), (1, .int v1), (2, .int v2), (3, .int v3), (4, .int v4)]) hx hb dX7_bestSet_102 hl (k := 8) rfl (by rw [ex9]; rfl) (by decide) rfl (fun ls hl => ?_)
              refine lv_goto (tgt := 10) hx hb dX7_bestSet_105 (by decide) ?_
              exact ih σ5 v1 v2 v3 v4 x9 h H locs ls G (lv_sub hl [4, 5, 6, 7, 8, 0] rfl)
          · have h := u_pos q h
            refine lv_iload hx hb dX7_bestSet_67 (lv_at hl 1 rfl) ?_
            refine lv_iload hx hb dX7_bestSet_69 (lv_at hl 6 rfl) ?_
            refine lv_icmp_ge (tgt := 78) hx hb dX7_bestSet_71 (by decide) (fun q => ?_) (fun q => ?_)
            · have h := u_pos q h
              refine lv_iconst (v := 0) hx hb dX7_bestSet_78 (by decide) ?_
              refine lv_istore (lv' := [(8, .int 0), (7, .int r4), (6, .int r2), (0, .ref (ad 83)), (1, .int v1), (2, .int v2), (3, .int v3), (4, .int v4), (5, .int v5)]) hx hb dX7_bestSet_79 hl (by decide) rfl (fun ls hl => ?_)
              refine lv_iload hx hb dX7_bestSet_81 (lv_at hl 2 rfl) ?_
              refine lv_iload_n hx hb dX7_bestSet_83 rfl (lv_at hl 4 rfl) ?_
              refine lv_icmp_gt (tgt := 102) hx hb dX7_bestSet_84 (by decide) (fun q => ?_) (fun q => ?_)
              · have h := u_pos q h
                obtain ⟨x10, ex10, h⟩ := ul_of h
                refine lv_iinc (v := x10) (lv' := [(5, .int x10), (8, .int 0), (7, .int r4), (6, .int r2), (0, .ref (ad 83)), (1, .int v1), (2, .int v2), (3, .int v3), (4, .int v4)]) hx hb dX7_bestSet_102 hl (k := 8) rfl (by rw [ex10]; rfl) (by decide) rfl (fun ls hl => ?_)
                refine lv_goto (tgt := 10) hx hb dX7_bestSet_105 (by decide) ?_
                exact ih σ5 v1 v2 v3 v4 x10 h H locs ls G (lv_sub hl [4, 5, 6, 7, 8, 0] rfl)
              · have h := u_neg q h
                refine lv_iload hx hb dX7_bestSet_87 (lv_at hl 0 rfl) ?_
                refine lv_if_eq (tgt := 102) hx hb dX7_bestSet_89 (by decide) (fun _ => ?_) (fun q => absurd q (by decide))
                obtain ⟨x11, ex11, h⟩ := ul_of h
                refine lv_iinc (v := x11) (lv' := [(5, .int x11), (8, .int 0), (7, .int r4), (6, .int r2), (0, .ref (ad 83)), (1, .int v1), (2, .int v2), (3, .int v3), (4, .int v4)]) hx hb dX7_bestSet_102 hl (k := 8) rfl (by rw [ex11]; rfl) (by decide) rfl (fun ls hl => ?_)
                refine lv_goto (tgt := 10) hx hb dX7_bestSet_105 (by decide) ?_
                exact ih σ5 v1 v2 v3 v4 x11 h H locs ls G (lv_sub hl [4, 5, 6, 7, 8, 0] rfl)
            · have h := u_neg q h
              refine lv_iconst (v := 1) hx hb dX7_bestSet_74 (by decide) ?_
              refine lv_goto (tgt := 79) hx hb dX7_bestSet_75 (by decide) ?_
              refine lv_istore (lv' := [(8, .int 1), (7, .int r4), (6, .int r2), (0, .ref (ad 83)), (1, .int v1), (2, .int v2), (3, .int v3), (4, .int v4), (5, .int v5)]) hx hb dX7_bestSet_79 hl (by decide) rfl (fun ls hl => ?_)
              refine lv_iload hx hb dX7_bestSet_81 (lv_at hl 2 rfl) ?_
              refine lv_iload_n hx hb dX7_bestSet_83 rfl (lv_at hl 4 rfl) ?_
              refine lv_icmp_gt (tgt := 102) hx hb dX7_bestSet_84 (by decide) (fun q => ?_) (fun q => ?_)
              · have h := u_pos q h
                obtain ⟨x12, ex12, h⟩ := ul_of h
                refine lv_iinc (v := x12) (lv' := [(5, .int x12), (8, .int 1), (7, .int r4), (6, .int r2), (0, .ref (ad 83)), (1, .int v1), (2, .int v2), (3, .int v3), (4, .int v4)]) hx hb dX7_bestSet_102 hl (k := 8) rfl (by rw [ex12]; rfl) (by decide) rfl (fun ls hl => ?_)
                refine lv_goto (tgt := 10) hx hb dX7_bestSet_105 (by decide) ?_
                exact ih σ5 v1 v2 v3 v4 x12 h H locs ls G (lv_sub hl [4, 5, 6, 7, 8, 0] rfl)
              · have h := u_neg q h
                refine lv_iload hx hb dX7_bestSet_87 (lv_at hl 0 rfl) ?_
                refine lv_if_eq (tgt := 102) hx hb dX7_bestSet_89 (by decide) (fun q => absurd q (by decide)) (fun _ => ?_)
                refine lv_iload hx hb dX7_bestSet_92 (lv_at hl 8 rfl) ?_
                refine lv_istore_n (lv' := [(2, .int v5), (8, .int 1), (7, .int r4), (6, .int r2), (0, .ref (ad 83)), (1, .int v1), (3, .int v3), (4, .int v4), (5, .int v5)]) hx hb dX7_bestSet_94 rfl hl (by decide) rfl (fun ls hl => ?_)
                refine lv_iload hx hb dX7_bestSet_95 (lv_at hl 2 rfl) ?_
                refine lv_istore_n (lv' := [(3, .int r4), (2, .int v5), (8, .int 1), (7, .int r4), (6, .int r2), (0, .ref (ad 83)), (1, .int v1), (4, .int v4), (5, .int v5)]) hx hb dX7_bestSet_97 rfl hl (by decide) rfl (fun ls hl => ?_)
                refine lv_iload hx hb dX7_bestSet_98 (lv_at hl 4 rfl) ?_
                refine lv_istore (lv' := [(4, .int r2), (3, .int r4), (2, .int v5), (8, .int 1), (7, .int r4), (6, .int r2), (0, .ref (ad 83)), (1, .int v1), (5, .int v5)]) hx hb dX7_bestSet_100 hl (by decide) rfl (fun ls hl => ?_)
                obtain ⟨x13, ex13, h⟩ := ul_of h
                refine lv_iinc (v := x13) (lv' := [(5, .int x13), (4, .int r2), (3, .int r4), (2, .int v5), (8, .int 1), (7, .int r4), (6, .int r2), (0, .ref (ad 83)), (1, .int v1)]) hx hb dX7_bestSet_102 hl (k := 8) rfl (by rw [ex13]; rfl) (by decide) rfl (fun ls hl => ?_)
                refine lv_goto (tgt := 10) hx hb dX7_bestSet_105 (by decide) ?_
                exact ih σ5 v1 v5 r4 r2 x13 h H locs ls G (lv_sub hl [7, 8, 3, 2, 1, 0] rfl)
set_option maxHeartbeats 4000000 in
set_option maxRecDepth 100000 in
theorem c_X7_bestSet (l : Launch) (D : va_G) (ad : Nat → Nat) (cs : Nat → ClassId) (J : uJ 99 ad) (σ : St) (v1 : Int32) (r : Int32) (σ' : St) (h : f_X7_bestSet σ v1 = some (r, σ')) : uMi l yX7_bestSet wsX7_bestSet { frames := 1, cells := 0, slots := 0, locals := 23 } D vwCl (tyX cs) 99 ad (enX ad cs) [.ref (ad 83), .int v1] σ r σ' := by
  refine u_met (Qf := uQi D vwCl 99 ad (enX ad cs) r σ') (cc := cX7_bestSet) (maxL := 9) (ret := (some .int)) (lv := [(0, .ref (ad 83)), (1, .int v1)]) J (by decide) rfl (Nat.le_of_ble_eq_true rfl) rfl rfl rfl ?_
  intro p e s m args below meth c ls hx hb C hr hlk G hl
  unfold f_X7_bestSet at h
  obtain ⟨H, eH⟩ : ∃ H, H = s.heap := ⟨_, rfl⟩
  obtain ⟨locs, eL⟩ : ∃ locs : List Loc, locs = [] := ⟨_, rfl⟩
  refine u_start eH eL G ?_
  clear G eH eL
  intro G
  refine lv_iconst (v := 0) hx hb dX7_bestSet_0 (by decide) ?_
  refine lv_istore_n (lv' := [(2, .int 0), (0, .ref (ad 83)), (1, .int v1)]) hx hb dX7_bestSet_1 rfl hl (by decide) rfl (fun ls hl => ?_)
  refine lv_iconst (v := 0) hx hb dX7_bestSet_2 (by decide) ?_
  refine lv_istore_n (lv' := [(3, .int 0), (2, .int 0), (0, .ref (ad 83)), (1, .int v1)]) hx hb dX7_bestSet_3 rfl hl (by decide) rfl (fun ls hl => ?_)
  refine lv_iconst (v := 0) hx hb dX7_bestSet_4 (by decide) ?_
  refine lv_istore (lv' := [(4, .int 0), (3, .int 0), (2, .int 0), (0, .ref (ad 83)), (1, .int v1)]) hx hb dX7_bestSet_5 hl (by decide) rfl (fun ls hl => ?_)
  refine lv_iconst (v := 1) hx hb dX7_bestSet_7 (by decide) ?_
  refine lv_istore (lv' := [(5, .int 1), (4, .int 0), (3, .int 0), (2, .int 0), (0, .ref (ad 83)), (1, .int v1)]) hx hb dX7_bestSet_8 hl (by decide) rfl (fun ls hl => ?_)
  exact w_X7_bestSet_10 C hr hlk fu σ v1 0 0 0 1 h H locs ls G (lv_sub hl [4, 5, 3, 2, 1, 0] rfl)
/-! X8_isLetter -/
def f_X8_isLetter (σ : St) (v0 : Int32) : Option (Int32 × St) :=
  if v0 < 97 then
    some ((0 : Int32), σ)
  else
    if 122 < v0 then
      some ((0 : Int32), σ)
    else
      some ((1 : Int32), σ)
set_option maxHeartbeats 4000000 in
set_option maxRecDepth 100000 in
theorem c_X8_isLetter (l : Launch) (D : va_G) (ad : Nat → Nat) (cs : Nat → ClassId) (J : uJ 99 ad) (σ : St) (v0 : Int32) (r : Int32) (σ' : St) (h : f_X8_isLetter σ v0 = some (r, σ')) : uMi l yX8_isLetter wsX8_isLetter { frames := 0, cells := 0, slots := 0, locals := 0 } D vwCl (tyX cs) 99 ad (enX ad cs) [.int v0] σ r σ' := by
  refine u_met (Qf := uQi D vwCl 99 ad (enX ad cs) r σ') (cc := cX8_isLetter) (maxL := 1) (ret := (some .boolean)) (lv := [(0, .int v0)]) J (by decide) rfl (Nat.le_of_ble_eq_true rfl) rfl rfl rfl ?_
  intro p e s m args below meth c ls hx hb C hr hlk G hl
  unfold f_X8_isLetter at h
  obtain ⟨H, eH⟩ : ∃ H, H = s.heap := ⟨_, rfl⟩
  obtain ⟨locs, eL⟩ : ∃ locs : List Loc, locs = [] := ⟨_, rfl⟩
  refine u_start eH eL G ?_
  clear G eH eL
  intro G
  refine lv_iload_n hx hb dX8_isLetter_0 rfl (lv_at hl 0 rfl) ?_
  refine lv_bipush (v := 97) hx hb dX8_isLetter_1 (by decide) ?_
  refine lv_icmp_lt (tgt := 16) hx hb dX8_isLetter_3 (by decide) (fun q => ?_) (fun q => ?_)
  · have h := u_pos q h
    refine lv_iconst (v := 0) hx hb dX8_isLetter_16 (by decide) ?_
    obtain ⟨rfl, rfl⟩ := u_end h
    exact u_zret hx hb hr hlk G (by decide) dX8_isLetter_17
  · have h := u_neg q h
    refine lv_iload_n hx hb dX8_isLetter_6 rfl (lv_at hl 0 rfl) ?_
    refine lv_bipush (v := 122) hx hb dX8_isLetter_7 (by decide) ?_
    refine lv_icmp_gt (tgt := 16) hx hb dX8_isLetter_9 (by decide) (fun q => ?_) (fun q => ?_)
    · have h := u_pos q h
      refine lv_iconst (v := 0) hx hb dX8_isLetter_16 (by decide) ?_
      obtain ⟨rfl, rfl⟩ := u_end h
      exact u_zret hx hb hr hlk G (by decide) dX8_isLetter_17
    · have h := u_neg q h
      refine lv_iconst (v := 1) hx hb dX8_isLetter_12 (by decide) ?_
      refine lv_goto (tgt := 17) hx hb dX8_isLetter_13 (by decide) ?_
      obtain ⟨rfl, rfl⟩ := u_end h
      exact u_zret hx hb hr hlk G (by decide) dX8_isLetter_17
/-! X8_lettersIn -/
def f_X8_lettersIn_4 : Nat → St → Nat → Int32 → Int32 → Int32 → Option (Int32 × St)
  | 0, _, _, _, _, _ => none
  | fuel + 1, σ, i0, v1, v2, v3 =>
    if v1 ≤ v3 then
      some (v2, σ)
    else
      ui v3 10 <|
      ub (f_X8_isLetter σ (σ (4 + i0) v3.toNatClampNeg)) fun r2 σ3 =>
      if r2 = 0 then
        ul (v3 + 1) fun x4 =>
        f_X8_lettersIn_4 fuel σ3 i0 v1 v2 x4
      else
        ul (v2 + 1) fun x5 =>
        ul (v3 + 1) fun x6 =>
        f_X8_lettersIn_4 fuel σ3 i0 v1 x5 x6
def f_X8_lettersIn (σ : St) (i0 : Nat) (v1 : Int32) : Option (Int32 × St) :=
  f_X8_lettersIn_4 fu σ i0 v1 0 0
set_option maxHeartbeats 4000000 in
set_option maxRecDepth 100000 in
theorem w_X8_lettersIn_4 {p : Program} {l : Launch} {e : Env} {s : State} {m : MethodId} {args : Array Value} {below : List Frame} {meth : Method} {c : Code} {D : va_G} {ad : Nat → Nat} {cs : Nat → ClassId} (C : uC p { frames := 1, cells := 0, slots := 0, locals := 20 } s m args c cX8_lettersIn 4 wsX8_lettersIn RX8 D vwCl (tyX cs) 99 ad (uAd 99 ad s.heap.size) 0 0) (hr : meth.sig.returnType = (some .int)) (hlk : meth.locks = false) {r : Int32} {σ' : St} :
    ∀ (n : Nat) (σ : St) (i0 : Nat) (v1 : Int32) (v2 : Int32) (v3 : Int32) (bi0 : i0 < 4), f_X8_lettersIn_4 n σ i0 v1 v2 v3 = some (r, σ') → ∀ (H : Heap) (locs : List Loc) (ls : Array Slot), uG D vwCl 99 ad (enX ad cs) (uAd 99 ad s.heap.size) s σ H locs → lv_has ls 4 [(0, .ref (ad (4 + i0))), (1, .int v1), (2, .int v2), (3, .int v3)] → W p l e { frames := 1, cells := 0, slots := 0, locals := 20 } s m args below meth c H locs 0 0 (MQ below (uQi D vwCl 99 ad (enX ad cs) r σ' s.heap.size) args s 0 0 (uAd 99 ad s.heap.size)) (F0 m 4 ls []) := by
  have hx := C.1.1
  have hb := C.1.2.1
  intro n
  induction n with
  | zero => intro σ i0 v1 v2 v3 bi0 h; exact absurd h (by simp [f_X8_lettersIn_4])
  | succ fuel ih =>
    intro σ i0 v1 v2 v3 bi0 h H locs ls G hl
    rw [f_X8_lettersIn_4] at h
    refine lv_iload_n hx hb dX8_lettersIn_4 rfl (lv_at hl 3 rfl) ?_
    refine lv_iload_n hx hb dX8_lettersIn_5 rfl (lv_at hl 1 rfl) ?_
    refine lv_icmp_ge (tgt := 27) hx hb dX8_lettersIn_6 (by decide) (fun q => ?_) (fun q => ?_)
    · have h := u_pos q h
      refine lv_iload_n hx hb dX8_lettersIn_27 rfl (lv_at hl 2 rfl) ?_
      obtain ⟨rfl, rfl⟩ := u_end h
      exact u_iret hx hb hr hlk G dX8_lettersIn_28
    · have h := u_neg q h
      refine lv_aload_n hx hb dX8_lettersIn_9 rfl (lv_at hl 0 rfl) ?_
      refine lv_iload_n hx hb dX8_lettersIn_10 rfl (lv_at hl 3 rfl) ?_
      obtain ⟨g1, h⟩ := ui_of h
      refine u_bald C G (arX_srow bi0) (t0 := 1) rfl g1 dX8_lettersIn_11 ?_
      obtain ⟨r2, σ3, er2, h⟩ := ub_of h
      refine u_callSi (As := [.int (σ (4 + i0) v3.toNatClampNeg)]) (rest := []) C G (c_X8_isLetter l D ad cs C.2.2.1 σ (σ (4 + i0) v3.toNatClampNeg) r2 σ3 er2) (va_cwS 1 C.1.2.2.2.2 gX8_lettersIn_X8_isLetter rfl rfl rfl (by decide +kernel) ⟨Nat.le_of_ble_eq_true rfl, Nat.le_of_ble_eq_true rfl⟩) rfl hl rfl (Nat.le_of_ble_eq_true rfl) dX8_lettersIn_12 (fun H locs G => ?_)
      refine lv_if_eq (tgt := 21) hx hb dX8_lettersIn_15 (by decide) (fun q => ?_) (fun q => ?_)
      · have h := u_pos q h
        obtain ⟨x4, ex4, h⟩ := ul_of h
        refine lv_iinc (v := x4) (lv' := [(3, .int x4), (0, .ref (ad (4 + i0))), (1, .int v1), (2, .int v2)]) hx hb dX8_lettersIn_21 hl (k := 3) rfl (by rw [ex4]; rfl) (by decide) rfl (fun ls hl => ?_)
        refine lv_goto (tgt := 4) hx hb dX8_lettersIn_24 (by decide) ?_
        exact ih σ3 i0 v1 v2 x4 bi0 h H locs ls G (lv_sub hl [1, 2, 3, 0] rfl)
      · have h := u_neg q h
        obtain ⟨x5, ex5, h⟩ := ul_of h
        refine lv_iinc (v := x5) (lv' := [(2, .int x5), (0, .ref (ad (4 + i0))), (1, .int v1), (3, .int v3)]) hx hb dX8_lettersIn_18 hl (k := 2) rfl (by rw [ex5]; rfl) (by decide) rfl (fun ls hl => ?_)
        obtain ⟨x6, ex6, h⟩ := ul_of h
        refine lv_iinc (v := x6) (lv' := [(3, .int x6), (2, .int x5), (0, .ref (ad (4 + i0))), (1, .int v1)]) hx hb dX8_lettersIn_21 hl (k := 3) rfl (by rw [ex6]; rfl) (by decide) rfl (fun ls hl => ?_)
        refine lv_goto (tgt := 4) hx hb dX8_lettersIn_24 (by decide) ?_
        exact ih σ3 i0 v1 x5 x6 bi0 h H locs ls G (lv_sub hl [2, 3, 1, 0] rfl)
set_option maxHeartbeats 4000000 in
set_option maxRecDepth 100000 in
theorem c_X8_lettersIn (l : Launch) (D : va_G) (ad : Nat → Nat) (cs : Nat → ClassId) (J : uJ 99 ad) (σ : St) (i0 : Nat) (v1 : Int32) (bi0 : i0 < 4) (r : Int32) (σ' : St) (h : f_X8_lettersIn σ i0 v1 = some (r, σ')) : uMi l yX8_lettersIn wsX8_lettersIn { frames := 1, cells := 0, slots := 0, locals := 20 } D vwCl (tyX cs) 99 ad (enX ad cs) [.ref (ad (4 + i0)), .int v1] σ r σ' := by
  refine u_met (Qf := uQi D vwCl 99 ad (enX ad cs) r σ') (cc := cX8_lettersIn) (maxL := 4) (ret := (some .int)) (lv := [(0, .ref (ad (4 + i0))), (1, .int v1)]) J (by decide) rfl (Nat.le_of_ble_eq_true rfl) rfl rfl rfl ?_
  intro p e s m args below meth c ls hx hb C hr hlk G hl
  unfold f_X8_lettersIn at h
  obtain ⟨H, eH⟩ : ∃ H, H = s.heap := ⟨_, rfl⟩
  obtain ⟨locs, eL⟩ : ∃ locs : List Loc, locs = [] := ⟨_, rfl⟩
  refine u_start eH eL G ?_
  clear G eH eL
  intro G
  refine lv_iconst (v := 0) hx hb dX8_lettersIn_0 (by decide) ?_
  refine lv_istore_n (lv' := [(2, .int 0), (0, .ref (ad (4 + i0))), (1, .int v1)]) hx hb dX8_lettersIn_1 rfl hl (by decide) rfl (fun ls hl => ?_)
  refine lv_iconst (v := 0) hx hb dX8_lettersIn_2 (by decide) ?_
  refine lv_istore_n (lv' := [(3, .int 0), (2, .int 0), (0, .ref (ad (4 + i0))), (1, .int v1)]) hx hb dX8_lettersIn_3 rfl hl (by decide) rfl (fun ls hl => ?_)
  exact w_X8_lettersIn_4 C hr hlk fu σ i0 v1 0 0 bi0 h H locs ls G (lv_sub hl [2, 3, 1, 0] rfl)
/-! X8_changeStrokes -/
def f_X8_changeStrokes (σ : St) (v1 : Int32) (v2 : Int32) : Option (Int32 × St) :=
  ui (v1 - 97) 26 <|
  ul (σ 9 (v1 - 97).toNatClampNeg) fun x2 =>
  ui (v1 - 97) 26 <|
  ul (us σ 9 (v1 - 97).toNatClampNeg v2) fun σ4 =>
  some (x2, σ4)
theorem fi_X8_changeStrokes_8 : ∀ w ∈ u_ws RX8 TX8 10, w ∈ wsX8_changeStrokes := by decide +kernel
set_option maxHeartbeats 4000000 in
set_option maxRecDepth 100000 in
theorem c_X8_changeStrokes (l : Launch) (D : va_G) (ad : Nat → Nat) (cs : Nat → ClassId) (J : uJ 99 ad) (σ : St) (v1 : Int32) (v2 : Int32) (r : Int32) (σ' : St) (h : f_X8_changeStrokes σ v1 v2 = some (r, σ')) : uMi l yX8_changeStrokes wsX8_changeStrokes { frames := 0, cells := 0, slots := 0, locals := 0 } D vwCl (tyX cs) 99 ad (enX ad cs) [.ref (ad 8), .int v1, .int v2] σ r σ' := by
  refine u_met (Qf := uQi D vwCl 99 ad (enX ad cs) r σ') (cc := cX8_changeStrokes) (maxL := 4) (ret := (some .int)) (lv := [(0, .ref (ad 8)), (1, .int v1), (2, .int v2)]) J (by decide) rfl (Nat.le_of_ble_eq_true rfl) rfl rfl rfl ?_
  intro p e s m args below meth c ls hx hb C hr hlk G hl
  unfold f_X8_changeStrokes at h
  obtain ⟨H, eH⟩ : ∃ H, H = s.heap := ⟨_, rfl⟩
  obtain ⟨locs, eL⟩ : ∃ locs : List Loc, locs = [] := ⟨_, rfl⟩
  refine u_start eH eL G ?_
  clear G eH eL
  intro G
  refine lv_aload_n hx hb dX8_changeStrokes_0 rfl (lv_at hl 0 rfl) ?_
  refine u_get (v := .ref (ad 9)) C G obX_8 (ci := 8) (N := 10) (Cn := RX8) (T := TX8) rfl fi_X8_changeStrokes_8 0 (by decide) (by decide +kernel) rfl dX8_changeStrokes_1 ?_
  refine lv_iload_n hx hb dX8_changeStrokes_4 rfl (lv_at hl 1 rfl) ?_
  refine lv_bipush (v := 97) hx hb dX8_changeStrokes_5 (by decide) ?_
  refine lv_isub hx hb dX8_changeStrokes_7 ?_
  obtain ⟨g1, h⟩ := ui_of h
  refine u_iald C G arX_9 (t0 := 0) rfl g1 dX8_changeStrokes_8 ?_
  obtain ⟨x2, ex2, h⟩ := ul_of h
  refine u_nmi ex2 ?_
  refine lv_istore_n (lv' := [(3, .int x2), (0, .ref (ad 8)), (1, .int v1), (2, .int v2)]) hx hb dX8_changeStrokes_9 rfl hl (by decide) rfl (fun ls hl => ?_)
  refine lv_aload_n hx hb dX8_changeStrokes_10 rfl (lv_at hl 1 rfl) ?_
  refine u_get (v := .ref (ad 9)) C G obX_8 (ci := 8) (N := 10) (Cn := RX8) (T := TX8) rfl fi_X8_changeStrokes_8 0 (by decide) (by decide +kernel) rfl dX8_changeStrokes_11 ?_
  refine lv_iload_n hx hb dX8_changeStrokes_14 rfl (lv_at hl 2 rfl) ?_
  refine lv_bipush (v := 97) hx hb dX8_changeStrokes_15 (by decide) ?_
  refine lv_isub hx hb dX8_changeStrokes_17 ?_
  refine lv_iload_n hx hb dX8_changeStrokes_18 rfl (lv_at hl 3 rfl) ?_
  obtain ⟨g3, h⟩ := ui_of h
  refine u_iast C G arX_9 (t0 := 0) rfl g3 dX8_changeStrokes_19 (fun H locs G => ?_)
  obtain ⟨σ4, eσ4, h⟩ := ul_of h
  replace G := uG_eq eσ4 G
  refine lv_iload_n hx hb dX8_changeStrokes_20 rfl (lv_at hl 0 rfl) ?_
  obtain ⟨rfl, rfl⟩ := u_end h
  exact u_iret hx hb hr hlk G dX8_changeStrokes_21
/-! X8_isNumber -/
def f_X8_isNumber (σ : St) (v1 : Int32) : Option (Int32 × St) :=
  if v1 < 0 then
    some ((0 : Int32), σ)
  else
    if (σ 8 9) ≤ v1 then
      some ((0 : Int32), σ)
    else
      some ((1 : Int32), σ)
theorem fi_X8_isNumber_8 : ∀ w ∈ u_ws RX8 TX8 10, w ∈ wsX8_isNumber := by decide +kernel
set_option maxHeartbeats 4000000 in
set_option maxRecDepth 100000 in
theorem c_X8_isNumber (l : Launch) (D : va_G) (ad : Nat → Nat) (cs : Nat → ClassId) (J : uJ 99 ad) (σ : St) (v1 : Int32) (r : Int32) (σ' : St) (h : f_X8_isNumber σ v1 = some (r, σ')) : uMi l yX8_isNumber wsX8_isNumber { frames := 0, cells := 0, slots := 0, locals := 0 } D vwCl (tyX cs) 99 ad (enX ad cs) [.ref (ad 8), .int v1] σ r σ' := by
  refine u_met (Qf := uQi D vwCl 99 ad (enX ad cs) r σ') (cc := cX8_isNumber) (maxL := 2) (ret := (some .boolean)) (lv := [(0, .ref (ad 8)), (1, .int v1)]) J (by decide) rfl (Nat.le_of_ble_eq_true rfl) rfl rfl rfl ?_
  intro p e s m args below meth c ls hx hb C hr hlk G hl
  unfold f_X8_isNumber at h
  obtain ⟨H, eH⟩ : ∃ H, H = s.heap := ⟨_, rfl⟩
  obtain ⟨locs, eL⟩ : ∃ locs : List Loc, locs = [] := ⟨_, rfl⟩
  refine u_start eH eL G ?_
  clear G eH eL
  intro G
  refine lv_iload_n hx hb dX8_isNumber_0 rfl (lv_at hl 1 rfl) ?_
  refine lv_if_lt (tgt := 16) hx hb dX8_isNumber_1 (by decide) (fun q => ?_) (fun q => ?_)
  · have h := u_pos q h
    refine lv_iconst (v := 0) hx hb dX8_isNumber_16 (by decide) ?_
    obtain ⟨rfl, rfl⟩ := u_end h
    exact u_zret hx hb hr hlk G (by decide) dX8_isNumber_17
  · have h := u_neg q h
    refine lv_iload_n hx hb dX8_isNumber_4 rfl (lv_at hl 1 rfl) ?_
    refine lv_aload_n hx hb dX8_isNumber_5 rfl (lv_at hl 0 rfl) ?_
    refine u_get (v := .int (σ 8 9)) C G obX_8 (ci := 8) (N := 10) (Cn := RX8) (T := TX8) rfl fi_X8_isNumber_8 9 (by decide) (by decide +kernel) rfl dX8_isNumber_6 ?_
    refine lv_icmp_ge (tgt := 16) hx hb dX8_isNumber_9 (by decide) (fun q => ?_) (fun q => ?_)
    · have h := u_pos q h
      refine lv_iconst (v := 0) hx hb dX8_isNumber_16 (by decide) ?_
      obtain ⟨rfl, rfl⟩ := u_end h
      exact u_zret hx hb hr hlk G (by decide) dX8_isNumber_17
    · have h := u_neg q h
      refine lv_iconst (v := 1) hx hb dX8_isNumber_12 (by decide) ?_
      refine lv_goto (tgt := 17) hx hb dX8_isNumber_13 (by decide) ?_
      obtain ⟨rfl, rfl⟩ := u_end h
      exact u_zret hx hb hr hlk G (by decide) dX8_isNumber_17
/-! X8_isThere -/
def f_X8_isThere (σ : St) (v1 : Int32) : Option (Int32 × St) :=
  ub (f_X8_isNumber σ v1) fun r1 σ2 =>
  if r1 = 0 then
    some ((0 : Int32), σ2)
  else
    ui v1 16 <|
    if (σ2 17 v1.toNatClampNeg) = 0 then
      some ((1 : Int32), σ2)
    else
      some ((0 : Int32), σ2)
theorem fi_X8_isThere_8 : ∀ w ∈ u_ws RX8 TX8 10, w ∈ wsX8_isThere := by decide +kernel
set_option maxHeartbeats 4000000 in
set_option maxRecDepth 100000 in
theorem c_X8_isThere (l : Launch) (D : va_G) (ad : Nat → Nat) (cs : Nat → ClassId) (J : uJ 99 ad) (σ : St) (v1 : Int32) (r : Int32) (σ' : St) (h : f_X8_isThere σ v1 = some (r, σ')) : uMi l yX8_isThere wsX8_isThere { frames := 1, cells := 0, slots := 0, locals := 21 } D vwCl (tyX cs) 99 ad (enX ad cs) [.ref (ad 8), .int v1] σ r σ' := by
  refine u_met (Qf := uQi D vwCl 99 ad (enX ad cs) r σ') (cc := cX8_isThere) (maxL := 2) (ret := (some .boolean)) (lv := [(0, .ref (ad 8)), (1, .int v1)]) J (by decide) rfl (Nat.le_of_ble_eq_true rfl) rfl rfl rfl ?_
  intro p e s m args below meth c ls hx hb C hr hlk G hl
  unfold f_X8_isThere at h
  obtain ⟨H, eH⟩ : ∃ H, H = s.heap := ⟨_, rfl⟩
  obtain ⟨locs, eL⟩ : ∃ locs : List Loc, locs = [] := ⟨_, rfl⟩
  refine u_start eH eL G ?_
  clear G eH eL
  intro G
  refine lv_aload_n hx hb dX8_isThere_0 rfl (lv_at hl 0 rfl) ?_
  refine lv_iload_n hx hb dX8_isThere_1 rfl (lv_at hl 1 rfl) ?_
  obtain ⟨r1, σ2, er1, h⟩ := ub_of h
  refine u_callVi (As := [.int v1]) (rest := []) C G (c_X8_isNumber l D ad cs C.2.2.1 σ v1 r1 σ2 er1) (cwV 1 C.1.2.2.2.2 gX8_isThere_X8_isNumber rfl rfl rfl (by decide +kernel) ⟨Nat.le_of_ble_eq_true rfl, Nat.le_of_ble_eq_true rfl⟩) obX_8 (ci := 8) (T := TX8) rfl rfl hl rfl (Nat.le_of_ble_eq_true rfl) dX8_isThere_2 (fun H locs G => ?_)
  refine lv_if_eq (tgt := 21) hx hb dX8_isThere_5 (by decide) (fun q => ?_) (fun q => ?_)
  · have h := u_pos q h
    refine lv_iconst (v := 0) hx hb dX8_isThere_21 (by decide) ?_
    obtain ⟨rfl, rfl⟩ := u_end h
    exact u_zret hx hb hr hlk G (by decide) dX8_isThere_22
  · have h := u_neg q h
    refine lv_aload_n hx hb dX8_isThere_8 rfl (lv_at hl 0 rfl) ?_
    refine u_get (v := .ref (ad 17)) C G obX_8 (ci := 8) (N := 10) (Cn := RX8) (T := TX8) rfl fi_X8_isThere_8 8 (by decide) (by decide +kernel) rfl dX8_isThere_9 ?_
    refine lv_iload_n hx hb dX8_isThere_12 rfl (lv_at hl 1 rfl) ?_
    obtain ⟨g3, h⟩ := ui_of h
    refine u_zald C G arX_17 (t0 := 2) rfl g3 dX8_isThere_13 ?_
    refine lv_if_ne (tgt := 21) hx hb dX8_isThere_14 (by decide) (fun q => ?_) (fun q => ?_)
    · have h := u_neg q h
      refine lv_iconst (v := 0) hx hb dX8_isThere_21 (by decide) ?_
      obtain ⟨rfl, rfl⟩ := u_end h
      exact u_zret hx hb hr hlk G (by decide) dX8_isThere_22
    · have h := u_pos q h
      refine lv_iconst (v := 1) hx hb dX8_isThere_17 (by decide) ?_
      refine lv_goto (tgt := 22) hx hb dX8_isThere_18 (by decide) ?_
      obtain ⟨rfl, rfl⟩ := u_end h
      exact u_zret hx hb hr hlk G (by decide) dX8_isThere_22
/-! X8_isFull -/
def f_X8_isFull (σ : St) : Option (Int32 × St) :=
  if (σ 8 9) < 16 then
    some ((0 : Int32), σ)
  else
    some ((1 : Int32), σ)
theorem fi_X8_isFull_8 : ∀ w ∈ u_ws RX8 TX8 10, w ∈ wsX8_isFull := by decide +kernel
set_option maxHeartbeats 4000000 in
set_option maxRecDepth 100000 in
theorem c_X8_isFull (l : Launch) (D : va_G) (ad : Nat → Nat) (cs : Nat → ClassId) (J : uJ 99 ad) (σ : St) (r : Int32) (σ' : St) (h : f_X8_isFull σ = some (r, σ')) : uMi l yX8_isFull wsX8_isFull { frames := 0, cells := 0, slots := 0, locals := 0 } D vwCl (tyX cs) 99 ad (enX ad cs) [.ref (ad 8)] σ r σ' := by
  refine u_met (Qf := uQi D vwCl 99 ad (enX ad cs) r σ') (cc := cX8_isFull) (maxL := 1) (ret := (some .boolean)) (lv := [(0, .ref (ad 8))]) J (by decide) rfl (Nat.le_of_ble_eq_true rfl) rfl rfl rfl ?_
  intro p e s m args below meth c ls hx hb C hr hlk G hl
  unfold f_X8_isFull at h
  obtain ⟨H, eH⟩ : ∃ H, H = s.heap := ⟨_, rfl⟩
  obtain ⟨locs, eL⟩ : ∃ locs : List Loc, locs = [] := ⟨_, rfl⟩
  refine u_start eH eL G ?_
  clear G eH eL
  intro G
  refine lv_aload_n hx hb dX8_isFull_0 rfl (lv_at hl 0 rfl) ?_
  refine u_get (v := .int (σ 8 9)) C G obX_8 (ci := 8) (N := 10) (Cn := RX8) (T := TX8) rfl fi_X8_isFull_8 9 (by decide) (by decide +kernel) rfl dX8_isFull_1 ?_
  refine lv_bipush (v := 16) hx hb dX8_isFull_4 (by decide) ?_
  refine lv_icmp_lt (tgt := 13) hx hb dX8_isFull_6 (by decide) (fun q => ?_) (fun q => ?_)
  · have h := u_pos q h
    refine lv_iconst (v := 0) hx hb dX8_isFull_13 (by decide) ?_
    obtain ⟨rfl, rfl⟩ := u_end h
    exact u_zret hx hb hr hlk G (by decide) dX8_isFull_14
  · have h := u_neg q h
    refine lv_iconst (v := 1) hx hb dX8_isFull_9 (by decide) ?_
    refine lv_goto (tgt := 14) hx hb dX8_isFull_10 (by decide) ?_
    obtain ⟨rfl, rfl⟩ := u_end h
    exact u_zret hx hb hr hlk G (by decide) dX8_isFull_14
/-! X8_isOf -/
def f_X8_isOf (σ : St) (v1 : Int32) (v2 : Int32) : Option (Int32 × St) :=
  ui v1 16 <|
  if (σ 12 v1.toNatClampNeg) = v2 then
    some ((1 : Int32), σ)
  else
    if v2 = 1 then
      ui v1 16 <|
      if (σ 12 v1.toNatClampNeg) = 2 then
        some ((1 : Int32), σ)
      else
        some ((0 : Int32), σ)
    else
      some ((0 : Int32), σ)
theorem fi_X8_isOf_8 : ∀ w ∈ u_ws RX8 TX8 10, w ∈ wsX8_isOf := by decide +kernel
set_option maxHeartbeats 4000000 in
set_option maxRecDepth 100000 in
theorem c_X8_isOf (l : Launch) (D : va_G) (ad : Nat → Nat) (cs : Nat → ClassId) (J : uJ 99 ad) (σ : St) (v1 : Int32) (v2 : Int32) (r : Int32) (σ' : St) (h : f_X8_isOf σ v1 v2 = some (r, σ')) : uMi l yX8_isOf wsX8_isOf { frames := 0, cells := 0, slots := 0, locals := 0 } D vwCl (tyX cs) 99 ad (enX ad cs) [.ref (ad 8), .int v1, .int v2] σ r σ' := by
  refine u_met (Qf := uQi D vwCl 99 ad (enX ad cs) r σ') (cc := cX8_isOf) (maxL := 3) (ret := (some .boolean)) (lv := [(0, .ref (ad 8)), (1, .int v1), (2, .int v2)]) J (by decide) rfl (Nat.le_of_ble_eq_true rfl) rfl rfl rfl ?_
  intro p e s m args below meth c ls hx hb C hr hlk G hl
  unfold f_X8_isOf at h
  obtain ⟨H, eH⟩ : ∃ H, H = s.heap := ⟨_, rfl⟩
  obtain ⟨locs, eL⟩ : ∃ locs : List Loc, locs = [] := ⟨_, rfl⟩
  refine u_start eH eL G ?_
  clear G eH eL
  intro G
  refine lv_aload_n hx hb dX8_isOf_0 rfl (lv_at hl 0 rfl) ?_
  refine u_get (v := .ref (ad 12)) C G obX_8 (ci := 8) (N := 10) (Cn := RX8) (T := TX8) rfl fi_X8_isOf_8 3 (by decide) (by decide +kernel) rfl dX8_isOf_1 ?_
  refine lv_iload_n hx hb dX8_isOf_4 rfl (lv_at hl 1 rfl) ?_
  obtain ⟨g1, h⟩ := ui_of h
  refine u_iald C G arX_12 (t0 := 0) rfl g1 dX8_isOf_5 ?_
  refine lv_iload_n hx hb dX8_isOf_6 rfl (lv_at hl 2 rfl) ?_
  refine lv_icmp_eq (tgt := 25) hx hb dX8_isOf_7 (by decide) (fun q => ?_) (fun q => ?_)
  · have h := u_pos q h
    refine lv_iconst (v := 1) hx hb dX8_isOf_25 (by decide) ?_
    refine lv_goto (tgt := 30) hx hb dX8_isOf_26 (by decide) ?_
    obtain ⟨rfl, rfl⟩ := u_end h
    exact u_zret hx hb hr hlk G (by decide) dX8_isOf_30
  · have h := u_neg q h
    refine lv_iload_n hx hb dX8_isOf_10 rfl (lv_at hl 2 rfl) ?_
    refine lv_iconst (v := 1) hx hb dX8_isOf_11 (by decide) ?_
    refine lv_icmp_ne (tgt := 29) hx hb dX8_isOf_12 (by decide) (fun q => ?_) (fun q => ?_)
    · have h := u_neg q h
      refine lv_iconst (v := 0) hx hb dX8_isOf_29 (by decide) ?_
      obtain ⟨rfl, rfl⟩ := u_end h
      exact u_zret hx hb hr hlk G (by decide) dX8_isOf_30
    · have h := u_pos q h
      refine lv_aload_n hx hb dX8_isOf_15 rfl (lv_at hl 0 rfl) ?_
      refine u_get (v := .ref (ad 12)) C G obX_8 (ci := 8) (N := 10) (Cn := RX8) (T := TX8) rfl fi_X8_isOf_8 3 (by decide) (by decide +kernel) rfl dX8_isOf_16 ?_
      refine lv_iload_n hx hb dX8_isOf_19 rfl (lv_at hl 1 rfl) ?_
      obtain ⟨g2, h⟩ := ui_of h
      refine u_iald C G arX_12 (t0 := 0) rfl g2 dX8_isOf_20 ?_
      refine lv_iconst (v := 2) hx hb dX8_isOf_21 (by decide) ?_
      refine lv_icmp_ne (tgt := 29) hx hb dX8_isOf_22 (by decide) (fun q => ?_) (fun q => ?_)
      · have h := u_neg q h
        refine lv_iconst (v := 0) hx hb dX8_isOf_29 (by decide) ?_
        obtain ⟨rfl, rfl⟩ := u_end h
        exact u_zret hx hb hr hlk G (by decide) dX8_isOf_30
      · have h := u_pos q h
        refine lv_iconst (v := 1) hx hb dX8_isOf_25 (by decide) ?_
        refine lv_goto (tgt := 30) hx hb dX8_isOf_26 (by decide) ?_
        obtain ⟨rfl, rfl⟩ := u_end h
        exact u_zret hx hb hr hlk G (by decide) dX8_isOf_30
/-! X8_settle -/
def f_X8_settle (σ : St) (v1 : Int32) (v2 : Int32) (v3 : Int32) (v4 : Int32) : Option (Unit × St) :=
  ui v1 16 <|
  ul (us σ 14 v1.toNatClampNeg v2) fun σ2 =>
  ui v1 16 <|
  ul (us σ2 15 v1.toNatClampNeg v3) fun σ4 =>
  ui v1 16 <|
  ul (us σ4 16 v1.toNatClampNeg v4) fun σ6 =>
  some ((), σ6)
theorem fi_X8_settle_8 : ∀ w ∈ u_ws RX8 TX8 10, w ∈ wsX8_settle := by decide +kernel
set_option maxHeartbeats 4000000 in
set_option maxRecDepth 100000 in
theorem c_X8_settle (l : Launch) (D : va_G) (ad : Nat → Nat) (cs : Nat → ClassId) (J : uJ 99 ad) (σ : St) (v1 : Int32) (v2 : Int32) (v3 : Int32) (v4 : Int32) (r : Unit) (σ' : St) (h : f_X8_settle σ v1 v2 v3 v4 = some (r, σ')) : uMv l yX8_settle wsX8_settle { frames := 0, cells := 0, slots := 0, locals := 0 } D vwCl (tyX cs) 99 ad (enX ad cs) [.ref (ad 8), .int v1, .int v2, .int v3, .int v4] σ σ' := by
  refine u_met (Qf := uQv D vwCl 99 ad (enX ad cs) σ') (cc := cX8_settle) (maxL := 5) (ret := none) (lv := [(0, .ref (ad 8)), (1, .int v1), (2, .int v2), (3, .int v3), (4, .int v4)]) J (by decide) rfl (Nat.le_of_ble_eq_true rfl) rfl rfl rfl ?_
  intro p e s m args below meth c ls hx hb C hr hlk G hl
  unfold f_X8_settle at h
  obtain ⟨H, eH⟩ : ∃ H, H = s.heap := ⟨_, rfl⟩
  obtain ⟨locs, eL⟩ : ∃ locs : List Loc, locs = [] := ⟨_, rfl⟩
  refine u_start eH eL G ?_
  clear G eH eL
  intro G
  refine lv_aload_n hx hb dX8_settle_0 rfl (lv_at hl 0 rfl) ?_
  refine u_get (v := .ref (ad 14)) C G obX_8 (ci := 8) (N := 10) (Cn := RX8) (T := TX8) rfl fi_X8_settle_8 5 (by decide) (by decide +kernel) rfl dX8_settle_1 ?_
  refine lv_iload_n hx hb dX8_settle_4 rfl (lv_at hl 1 rfl) ?_
  refine lv_iload_n hx hb dX8_settle_5 rfl (lv_at hl 2 rfl) ?_
  obtain ⟨g1, h⟩ := ui_of h
  refine u_iast C G arX_14 (t0 := 0) rfl g1 dX8_settle_6 (fun H locs G => ?_)
  obtain ⟨σ2, eσ2, h⟩ := ul_of h
  replace G := uG_eq eσ2 G
  refine lv_aload_n hx hb dX8_settle_7 rfl (lv_at hl 0 rfl) ?_
  refine u_get (v := .ref (ad 15)) C G obX_8 (ci := 8) (N := 10) (Cn := RX8) (T := TX8) rfl fi_X8_settle_8 6 (by decide) (by decide +kernel) rfl dX8_settle_8 ?_
  refine lv_iload_n hx hb dX8_settle_11 rfl (lv_at hl 1 rfl) ?_
  refine lv_iload_n hx hb dX8_settle_12 rfl (lv_at hl 3 rfl) ?_
  obtain ⟨g3, h⟩ := ui_of h
  refine u_iast C G arX_15 (t0 := 0) rfl g3 dX8_settle_13 (fun H locs G => ?_)
  obtain ⟨σ4, eσ4, h⟩ := ul_of h
  replace G := uG_eq eσ4 G
  refine lv_aload_n hx hb dX8_settle_14 rfl (lv_at hl 0 rfl) ?_
  refine u_get (v := .ref (ad 16)) C G obX_8 (ci := 8) (N := 10) (Cn := RX8) (T := TX8) rfl fi_X8_settle_8 7 (by decide) (by decide +kernel) rfl dX8_settle_15 ?_
  refine lv_iload_n hx hb dX8_settle_18 rfl (lv_at hl 1 rfl) ?_
  refine lv_iload hx hb dX8_settle_19 (lv_at hl 4 rfl) ?_
  obtain ⟨g5, h⟩ := ui_of h
  refine u_iast C G arX_16 (t0 := 0) rfl g5 dX8_settle_21 (fun H locs G => ?_)
  obtain ⟨σ6, eσ6, h⟩ := ul_of h
  replace G := uG_eq eσ6 G
  obtain ⟨-, rfl⟩ := u_end h
  exact u_vret hx hb hr hlk G dX8_settle_22
/-! X8_add -/
def f_X8_add_58 (σ : St) (v3 : Int32) (v4 : Int32) (v5 : Int32) (v6 : Int32) : Option (Int32 × St) :=
  ui v5 16 <|
  ul (us σ 11 v5.toNatClampNeg v6) fun σ14 =>
  ui v5 16 <|
  ul (us σ14 12 v5.toNatClampNeg v3) fun σ16 =>
  ui v5 16 <|
  ul (us σ16 13 v5.toNatClampNeg v4) fun σ18 =>
  ub (f_X8_settle σ18 v5 ((-9) : Int32) ((-9) : Int32) ((-9) : Int32)) fun r19 σ20 =>
  ul (us σ20 8 9 ((σ20 8 9) + 1)) fun σ21 =>
  some (v5, σ21)
def f_X8_add_12 : Nat → St → Nat → Int32 → Int32 → Int32 → Int32 → Int32 → Int32 → Option (Int32 × St)
  | 0, _, _, _, _, _, _, _, _ => none
  | fuel + 1, σ, i1, v2, v3, v4, v5, v6, v7 =>
    if v2 ≤ v7 then
      f_X8_add_58 σ v3 v4 v5 v6
    else
      if 8 ≤ v6 then
        f_X8_add_58 σ v3 v4 v5 v6
      else
        ui v7 10 <|
        ub (f_X8_isLetter σ (σ (4 + i1) v7.toNatClampNeg)) fun r3 σ4 =>
        if r3 = 0 then
          ul (v7 + 1) fun x5 =>
          f_X8_add_12 fuel σ4 i1 v2 v3 v4 v5 v6 x5
        else
          ui v5 16 <|
          ui v7 10 <|
          ui v6 8 <|
          ul (us σ4 (18 + v5.toNatClampNeg) v6.toNatClampNeg (vp_nar .byte (σ4 (4 + i1) v7.toNatClampNeg))) fun σ10 =>
          ul (v6 + 1) fun x11 =>
          ul (v7 + 1) fun x12 =>
          f_X8_add_12 fuel σ10 i1 v2 v3 v4 v5 x11 x12
def f_X8_add (σ : St) (i1 : Nat) (v2 : Int32) (v3 : Int32) (v4 : Int32) : Option (Int32 × St) :=
  ul (σ 8 9) fun x1 =>
  f_X8_add_12 fu σ i1 v2 v3 v4 x1 0 0
theorem fi_X8_add_8 : ∀ w ∈ u_ws RX8 TX8 10, w ∈ wsX8_add := by decide +kernel
set_option maxHeartbeats 4000000 in
set_option maxRecDepth 100000 in
theorem w_X8_add_58 {p : Program} {l : Launch} {e : Env} {s : State} {m : MethodId} {args : Array Value} {below : List Frame} {meth : Method} {c : Code} {D : va_G} {ad : Nat → Nat} {cs : Nat → ClassId} (C : uC p { frames := 1, cells := 0, slots := 0, locals := 24 } s m args c cX8_add 8 wsX8_add RX8 D vwCl (tyX cs) 99 ad (uAd 99 ad s.heap.size) 0 0) (hr : meth.sig.returnType = (some .int)) (hlk : meth.locks = false) {r : Int32} {σ' : St} :
    ∀ (σ : St) (v3 : Int32) (v4 : Int32) (v5 : Int32) (v6 : Int32), f_X8_add_58 σ v3 v4 v5 v6 = some (r, σ') → ∀ (H : Heap) (locs : List Loc) (ls : Array Slot), uG D vwCl 99 ad (enX ad cs) (uAd 99 ad s.heap.size) s σ H locs → lv_has ls 8 [(0, .ref (ad 8)), (3, .int v3), (4, .int v4), (5, .int v5), (6, .int v6)] → W p l e { frames := 1, cells := 0, slots := 0, locals := 24 } s m args below meth c H locs 0 0 (MQ below (uQi D vwCl 99 ad (enX ad cs) r σ' s.heap.size) args s 0 0 (uAd 99 ad s.heap.size)) (F0 m 58 ls []) := by
  have hx := C.1.1
  have hb := C.1.2.1
  intro σ v3 v4 v5 v6  h H locs ls G hl
  unfold f_X8_add_58 at h
  refine lv_aload_n hx hb dX8_add_58 rfl (lv_at hl 0 rfl) ?_
  refine u_get (v := .ref (ad 11)) C G obX_8 (ci := 8) (N := 10) (Cn := RX8) (T := TX8) rfl fi_X8_add_8 2 (by decide) (by decide +kernel) rfl dX8_add_59 ?_
  refine lv_iload hx hb dX8_add_62 (lv_at hl 3 rfl) ?_
  refine lv_iload hx hb dX8_add_64 (lv_at hl 4 rfl) ?_
  obtain ⟨g13, h⟩ := ui_of h
  refine u_iast C G arX_11 (t0 := 0) rfl g13 dX8_add_66 (fun H locs G => ?_)
  obtain ⟨σ14, eσ14, h⟩ := ul_of h
  replace G := uG_eq eσ14 G
  refine lv_aload_n hx hb dX8_add_67 rfl (lv_at hl 0 rfl) ?_
  refine u_get (v := .ref (ad 12)) C G obX_8 (ci := 8) (N := 10) (Cn := RX8) (T := TX8) rfl fi_X8_add_8 3 (by decide) (by decide +kernel) rfl dX8_add_68 ?_
  refine lv_iload hx hb dX8_add_71 (lv_at hl 3 rfl) ?_
  refine lv_iload_n hx hb dX8_add_73 rfl (lv_at hl 1 rfl) ?_
  obtain ⟨g15, h⟩ := ui_of h
  refine u_iast C G arX_12 (t0 := 0) rfl g15 dX8_add_74 (fun H locs G => ?_)
  obtain ⟨σ16, eσ16, h⟩ := ul_of h
  replace G := uG_eq eσ16 G
  refine lv_aload_n hx hb dX8_add_75 rfl (lv_at hl 0 rfl) ?_
  refine u_get (v := .ref (ad 13)) C G obX_8 (ci := 8) (N := 10) (Cn := RX8) (T := TX8) rfl fi_X8_add_8 4 (by decide) (by decide +kernel) rfl dX8_add_76 ?_
  refine lv_iload hx hb dX8_add_79 (lv_at hl 3 rfl) ?_
  refine lv_iload hx hb dX8_add_81 (lv_at hl 2 rfl) ?_
  obtain ⟨g17, h⟩ := ui_of h
  refine u_iast C G arX_13 (t0 := 0) rfl g17 dX8_add_83 (fun H locs G => ?_)
  obtain ⟨σ18, eσ18, h⟩ := ul_of h
  replace G := uG_eq eσ18 G
  refine lv_aload_n hx hb dX8_add_84 rfl (lv_at hl 0 rfl) ?_
  refine lv_iload hx hb dX8_add_85 (lv_at hl 3 rfl) ?_
  refine lv_bipush (v := (-9)) hx hb dX8_add_87 (by decide) ?_
  refine lv_bipush (v := (-9)) hx hb dX8_add_89 (by decide) ?_
  refine lv_bipush (v := (-9)) hx hb dX8_add_91 (by decide) ?_
  obtain ⟨r19, σ20, er19, h⟩ := ub_of h
  refine u_callVv (As := [.int v5, .int (-9), .int (-9), .int (-9)]) (rest := []) C G (c_X8_settle l D ad cs C.2.2.1 σ18 v5 ((-9) : Int32) ((-9) : Int32) ((-9) : Int32) r19 σ20 er19) (cwV 4 C.1.2.2.2.2 gX8_add_X8_settle rfl rfl rfl (by decide +kernel) ⟨Nat.le_of_ble_eq_true rfl, Nat.le_of_ble_eq_true rfl⟩) obX_8 (ci := 8) (T := TX8) rfl rfl hl rfl (Nat.le_of_ble_eq_true rfl) dX8_add_93 (fun H locs G => ?_)
  refine lv_aload_n hx hb dX8_add_96 rfl (lv_at hl 0 rfl) ?_
  refine lv_dup hx hb dX8_add_97 rfl ?_
  refine u_get (v := .int (σ20 8 9)) C G obX_8 (ci := 8) (N := 10) (Cn := RX8) (T := TX8) rfl fi_X8_add_8 9 (by decide) (by decide +kernel) rfl dX8_add_98 ?_
  refine lv_iconst (v := 1) hx hb dX8_add_101 (by decide) ?_
  refine lv_iadd hx hb dX8_add_102 ?_
  refine u_put (x := ((σ20 8 9) + 1)) (ty := .int) C G obX_8 (ci := 8) (N := 10) (Cn := RX8) (T := TX8) rfl fi_X8_add_8 tyX8 tyX8_ok nmX8 9 (by decide) (by decide +kernel) rfl (by decide +kernel) rfl rfl (fun f => by simp) (fun f => rfl) dX8_add_103 (fun H locs G => ?_)
  obtain ⟨σ21, eσ21, h⟩ := ul_of h
  replace G := uG_eq eσ21 G
  refine lv_iload hx hb dX8_add_106 (lv_at hl 3 rfl) ?_
  obtain ⟨rfl, rfl⟩ := u_end h
  exact u_iret hx hb hr hlk G dX8_add_108
set_option maxHeartbeats 4000000 in
set_option maxRecDepth 100000 in
theorem w_X8_add_12 {p : Program} {l : Launch} {e : Env} {s : State} {m : MethodId} {args : Array Value} {below : List Frame} {meth : Method} {c : Code} {D : va_G} {ad : Nat → Nat} {cs : Nat → ClassId} (C : uC p { frames := 1, cells := 0, slots := 0, locals := 24 } s m args c cX8_add 8 wsX8_add RX8 D vwCl (tyX cs) 99 ad (uAd 99 ad s.heap.size) 0 0) (hr : meth.sig.returnType = (some .int)) (hlk : meth.locks = false) {r : Int32} {σ' : St} :
    ∀ (n : Nat) (σ : St) (i1 : Nat) (v2 : Int32) (v3 : Int32) (v4 : Int32) (v5 : Int32) (v6 : Int32) (v7 : Int32) (bi1 : i1 < 4), f_X8_add_12 n σ i1 v2 v3 v4 v5 v6 v7 = some (r, σ') → ∀ (H : Heap) (locs : List Loc) (ls : Array Slot), uG D vwCl 99 ad (enX ad cs) (uAd 99 ad s.heap.size) s σ H locs → lv_has ls 8 [(0, .ref (ad 8)), (1, .ref (ad (4 + i1))), (2, .int v2), (3, .int v3), (4, .int v4), (5, .int v5), (6, .int v6), (7, .int v7)] → W p l e { frames := 1, cells := 0, slots := 0, locals := 24 } s m args below meth c H locs 0 0 (MQ below (uQi D vwCl 99 ad (enX ad cs) r σ' s.heap.size) args s 0 0 (uAd 99 ad s.heap.size)) (F0 m 12 ls []) := by
  have hx := C.1.1
  have hb := C.1.2.1
  intro n
  induction n with
  | zero => intro σ i1 v2 v3 v4 v5 v6 v7 bi1 h; exact absurd h (by simp [f_X8_add_12])
  | succ fuel ih =>
    intro σ i1 v2 v3 v4 v5 v6 v7 bi1 h H locs ls G hl
    rw [f_X8_add_12] at h
    refine lv_iload hx hb dX8_add_12 (lv_at hl 7 rfl) ?_
    refine lv_iload_n hx hb dX8_add_14 rfl (lv_at hl 2 rfl) ?_
    refine lv_icmp_ge (tgt := 58) hx hb dX8_add_15 (by decide) (fun q => ?_) (fun q => ?_)
    · have h := u_pos q h
      exact w_X8_add_58 C hr hlk σ v3 v4 v5 v6 h H locs ls G (lv_sub hl [0, 3, 4, 5, 6] rfl)
    · have h := u_neg q h
      refine lv_iload hx hb dX8_add_18 (lv_at hl 6 rfl) ?_
      refine lv_bipush (v := 8) hx hb dX8_add_20 (by decide) ?_
      refine lv_icmp_ge (tgt := 58) hx hb dX8_add_22 (by decide) (fun q => ?_) (fun q => ?_)
      · have h := u_pos q h
        exact w_X8_add_58 C hr hlk σ v3 v4 v5 v6 h H locs ls G (lv_sub hl [0, 3, 4, 5, 6] rfl)
      · have h := u_neg q h
        refine lv_aload_n hx hb dX8_add_25 rfl (lv_at hl 1 rfl) ?_
        refine lv_iload hx hb dX8_add_26 (lv_at hl 7 rfl) ?_
        obtain ⟨g2, h⟩ := ui_of h
        refine u_bald C G (arX_srow bi1) (t0 := 1) rfl g2 dX8_add_28 ?_
        obtain ⟨r3, σ4, er3, h⟩ := ub_of h
        refine u_callSi (As := [.int (σ (4 + i1) v7.toNatClampNeg)]) (rest := []) C G (c_X8_isLetter l D ad cs C.2.2.1 σ (σ (4 + i1) v7.toNatClampNeg) r3 σ4 er3) (va_cwS 1 C.1.2.2.2.2 gX8_add_X8_isLetter rfl rfl rfl (by decide +kernel) ⟨Nat.le_of_ble_eq_true rfl, Nat.le_of_ble_eq_true rfl⟩) rfl hl rfl (Nat.le_of_ble_eq_true rfl) dX8_add_29 (fun H locs G => ?_)
        refine lv_if_eq (tgt := 52) hx hb dX8_add_32 (by decide) (fun q => ?_) (fun q => ?_)
        · have h := u_pos q h
          obtain ⟨x5, ex5, h⟩ := ul_of h
          refine lv_iinc (v := x5) (lv' := [(7, .int x5), (0, .ref (ad 8)), (1, .ref (ad (4 + i1))), (2, .int v2), (3, .int v3), (4, .int v4), (5, .int v5), (6, .int v6)]) hx hb dX8_add_52 hl (k := 7) rfl (by rw [ex5]; rfl) (by decide) rfl (fun ls hl => ?_)
          refine lv_goto (tgt := 12) hx hb dX8_add_55 (by decide) ?_
          exact ih σ4 i1 v2 v3 v4 v5 v6 x5 bi1 h H locs ls G (lv_sub hl [1, 2, 3, 4, 5, 6, 7, 0] rfl)
        · have h := u_neg q h
          refine lv_aload_n hx hb dX8_add_35 rfl (lv_at hl 0 rfl) ?_
          refine u_get (v := .ref (ad 10)) C G obX_8 (ci := 8) (N := 10) (Cn := RX8) (T := TX8) rfl fi_X8_add_8 1 (by decide) (by decide +kernel) rfl dX8_add_36 ?_
          refine lv_iload hx hb dX8_add_39 (lv_at hl 5 rfl) ?_
          obtain ⟨g6, h⟩ := ui_of h
          refine u_aald C G rrX_10 (t0 := 4) rfl rfl g6 dX8_add_41 (fun b7 => ?_)
          refine lv_iload hx hb dX8_add_42 (lv_at hl 6 rfl) ?_
          refine lv_aload_n hx hb dX8_add_44 rfl (lv_at hl 1 rfl) ?_
          refine lv_iload hx hb dX8_add_45 (lv_at hl 7 rfl) ?_
          obtain ⟨g8, h⟩ := ui_of h
          refine u_bald C G (arX_srow bi1) (t0 := 1) rfl g8 dX8_add_47 ?_
          obtain ⟨g9, h⟩ := ui_of h
          refine u_bast C G (arX_lrow b7) (t0 := 1) rfl g9 dX8_add_48 (fun H locs G => ?_)
          obtain ⟨σ10, eσ10, h⟩ := ul_of h
          replace G := uG_eq eσ10 G
          obtain ⟨x11, ex11, h⟩ := ul_of h
          refine lv_iinc (v := x11) (lv' := [(6, .int x11), (0, .ref (ad 8)), (1, .ref (ad (4 + i1))), (2, .int v2), (3, .int v3), (4, .int v4), (5, .int v5), (7, .int v7)]) hx hb dX8_add_49 hl (k := 6) rfl (by rw [ex11]; rfl) (by decide) rfl (fun ls hl => ?_)
          obtain ⟨x12, ex12, h⟩ := ul_of h
          refine lv_iinc (v := x12) (lv' := [(7, .int x12), (6, .int x11), (0, .ref (ad 8)), (1, .ref (ad (4 + i1))), (2, .int v2), (3, .int v3), (4, .int v4), (5, .int v5)]) hx hb dX8_add_52 hl (k := 7) rfl (by rw [ex12]; rfl) (by decide) rfl (fun ls hl => ?_)
          refine lv_goto (tgt := 12) hx hb dX8_add_55 (by decide) ?_
          exact ih σ10 i1 v2 v3 v4 v5 x11 x12 bi1 h H locs ls G (lv_sub hl [2, 3, 4, 5, 6, 7, 1, 0] rfl)
set_option maxHeartbeats 4000000 in
set_option maxRecDepth 100000 in
theorem c_X8_add (l : Launch) (D : va_G) (ad : Nat → Nat) (cs : Nat → ClassId) (J : uJ 99 ad) (σ : St) (i1 : Nat) (v2 : Int32) (v3 : Int32) (v4 : Int32) (bi1 : i1 < 4) (r : Int32) (σ' : St) (h : f_X8_add σ i1 v2 v3 v4 = some (r, σ')) : uMi l yX8_add wsX8_add { frames := 1, cells := 0, slots := 0, locals := 24 } D vwCl (tyX cs) 99 ad (enX ad cs) [.ref (ad 8), .ref (ad (4 + i1)), .int v2, .int v3, .int v4] σ r σ' := by
  refine u_met (Qf := uQi D vwCl 99 ad (enX ad cs) r σ') (cc := cX8_add) (maxL := 8) (ret := (some .int)) (lv := [(0, .ref (ad 8)), (1, .ref (ad (4 + i1))), (2, .int v2), (3, .int v3), (4, .int v4)]) J (by decide) rfl (Nat.le_of_ble_eq_true rfl) rfl rfl rfl ?_
  intro p e s m args below meth c ls hx hb C hr hlk G hl
  unfold f_X8_add at h
  obtain ⟨H, eH⟩ : ∃ H, H = s.heap := ⟨_, rfl⟩
  obtain ⟨locs, eL⟩ : ∃ locs : List Loc, locs = [] := ⟨_, rfl⟩
  refine u_start eH eL G ?_
  clear G eH eL
  intro G
  refine lv_aload_n hx hb dX8_add_0 rfl (lv_at hl 0 rfl) ?_
  refine u_get (v := .int (σ 8 9)) C G obX_8 (ci := 8) (N := 10) (Cn := RX8) (T := TX8) rfl fi_X8_add_8 9 (by decide) (by decide +kernel) rfl dX8_add_1 ?_
  obtain ⟨x1, ex1, h⟩ := ul_of h
  refine u_nmi ex1 ?_
  refine lv_istore (lv' := [(5, .int x1), (0, .ref (ad 8)), (1, .ref (ad (4 + i1))), (2, .int v2), (3, .int v3), (4, .int v4)]) hx hb dX8_add_4 hl (by decide) rfl (fun ls hl => ?_)
  refine lv_iconst (v := 0) hx hb dX8_add_6 (by decide) ?_
  refine lv_istore (lv' := [(6, .int 0), (5, .int x1), (0, .ref (ad 8)), (1, .ref (ad (4 + i1))), (2, .int v2), (3, .int v3), (4, .int v4)]) hx hb dX8_add_7 hl (by decide) rfl (fun ls hl => ?_)
  refine lv_iconst (v := 0) hx hb dX8_add_9 (by decide) ?_
  refine lv_istore (lv' := [(7, .int 0), (6, .int 0), (5, .int x1), (0, .ref (ad 8)), (1, .ref (ad (4 + i1))), (2, .int v2), (3, .int v3), (4, .int v4)]) hx hb dX8_add_10 hl (by decide) rfl (fun ls hl => ?_)
  exact w_X8_add_12 C hr hlk fu σ i1 v2 v3 v4 x1 0 0 bi1 h H locs ls G (lv_sub hl [3, 4, 5, 6, 7, 2, 1, 0] rfl)
