/-! X9_lastYear -/
def f_X9_lastYear (σ : St) (v1 : Int32) : Option (Int32 × St) :=
  ui v1 16 <|
  if (σ 12 v1.toNatClampNeg) = 0 then
    some ((2100 : Int32), σ)
  else
    ui v1 16 <|
    some ((σ 16 v1.toNatClampNeg), σ)
theorem fi_X9_lastYear_8 : ∀ w ∈ u_ws RX8 TX8 10, w ∈ wsX9_lastYear := by decide +kernel
theorem fi_X9_lastYear_9 : ∀ w ∈ u_ws RX9 TX9 14, w ∈ wsX9_lastYear := by decide +kernel
set_option maxHeartbeats 4000000 in
set_option maxRecDepth 100000 in
theorem c_X9_lastYear (l : Launch) (D : va_G) (ad : Nat → Nat) (cs : Nat → ClassId) (J : uJ 99 ad) (σ : St) (v1 : Int32) (r : Int32) (σ' : St) (h : f_X9_lastYear σ v1 = some (r, σ')) : uMi l yX9_lastYear wsX9_lastYear { frames := 0, cells := 0, slots := 0, locals := 0 } D vwCl (tyX cs) 99 ad (enX ad cs) [.ref (ad 0), .int v1] σ r σ' := by
  refine u_met (Qf := uQi D vwCl 99 ad (enX ad cs) r σ') (cc := cX9_lastYear) (maxL := 2) (ret := (some .int)) (lv := [(0, .ref (ad 0)), (1, .int v1)]) J (by decide) rfl (Nat.le_of_ble_eq_true rfl) rfl rfl rfl ?_
  intro p e s m args below meth c ls hx hb C hr hlk G hl
  unfold f_X9_lastYear at h
  obtain ⟨H, eH⟩ : ∃ H, H = s.heap := ⟨_, rfl⟩
  obtain ⟨locs, eL⟩ : ∃ locs : List Loc, locs = [] := ⟨_, rfl⟩
  refine u_start eH eL G ?_
  clear G eH eL
  intro G
  refine lv_aload_n hx hb dX9_lastYear_0 rfl (lv_at hl 0 rfl) ?_
  refine u_get (v := .ref (ad 8)) C G obX_0 (ci := 9) (N := 14) (Cn := RX9) (T := TX9) rfl fi_X9_lastYear_9 1 (by decide) (by decide +kernel) rfl dX9_lastYear_1 ?_
  refine u_get (v := .ref (ad 12)) C G obX_8 (ci := 8) (N := 10) (Cn := RX8) (T := TX8) rfl fi_X9_lastYear_8 3 (by decide) (by decide +kernel) rfl dX9_lastYear_4 ?_
  refine lv_iload_n hx hb dX9_lastYear_7 rfl (lv_at hl 1 rfl) ?_
  obtain ⟨g1, h⟩ := ui_of h
  refine u_iald C G arX_12 (t0 := 0) rfl g1 dX9_lastYear_8 ?_
  refine lv_if_ne (tgt := 18) hx hb dX9_lastYear_9 (by decide) (fun q => ?_) (fun q => ?_)
  · have h := u_neg q h
    refine lv_aload_n hx hb dX9_lastYear_18 rfl (lv_at hl 0 rfl) ?_
    refine u_get (v := .ref (ad 8)) C G obX_0 (ci := 9) (N := 14) (Cn := RX9) (T := TX9) rfl fi_X9_lastYear_9 1 (by decide) (by decide +kernel) rfl dX9_lastYear_19 ?_
    refine u_get (v := .ref (ad 16)) C G obX_8 (ci := 8) (N := 10) (Cn := RX8) (T := TX8) rfl fi_X9_lastYear_8 7 (by decide) (by decide +kernel) rfl dX9_lastYear_22 ?_
    refine lv_iload_n hx hb dX9_lastYear_25 rfl (lv_at hl 1 rfl) ?_
    obtain ⟨g2, h⟩ := ui_of h
    refine u_iald C G arX_16 (t0 := 0) rfl g2 dX9_lastYear_26 ?_
    obtain ⟨rfl, rfl⟩ := u_end h
    exact u_iret hx hb hr hlk G dX9_lastYear_27
  · have h := u_pos q h
    refine lv_sipush (v := 2100) hx hb dX9_lastYear_12 (by decide) ?_
    refine lv_goto (tgt := 27) hx hb dX9_lastYear_15 (by decide) ?_
    obtain ⟨rfl, rfl⟩ := u_end h
    exact u_iret hx hb hr hlk G dX9_lastYear_27
/-! X9_firstYear -/
def f_X9_firstYear (σ : St) (v1 : Int32) : Option (Int32 × St) :=
  ui v1 16 <|
  if (σ 12 v1.toNatClampNeg) = 0 then
    some ((1700 : Int32), σ)
  else
    ui v1 16 <|
    some ((σ 15 v1.toNatClampNeg), σ)
theorem fi_X9_firstYear_8 : ∀ w ∈ u_ws RX8 TX8 10, w ∈ wsX9_firstYear := by decide +kernel
theorem fi_X9_firstYear_9 : ∀ w ∈ u_ws RX9 TX9 14, w ∈ wsX9_firstYear := by decide +kernel
set_option maxHeartbeats 4000000 in
set_option maxRecDepth 100000 in
theorem c_X9_firstYear (l : Launch) (D : va_G) (ad : Nat → Nat) (cs : Nat → ClassId) (J : uJ 99 ad) (σ : St) (v1 : Int32) (r : Int32) (σ' : St) (h : f_X9_firstYear σ v1 = some (r, σ')) : uMi l yX9_firstYear wsX9_firstYear { frames := 0, cells := 0, slots := 0, locals := 0 } D vwCl (tyX cs) 99 ad (enX ad cs) [.ref (ad 0), .int v1] σ r σ' := by
  refine u_met (Qf := uQi D vwCl 99 ad (enX ad cs) r σ') (cc := cX9_firstYear) (maxL := 2) (ret := (some .int)) (lv := [(0, .ref (ad 0)), (1, .int v1)]) J (by decide) rfl (Nat.le_of_ble_eq_true rfl) rfl rfl rfl ?_
  intro p e s m args below meth c ls hx hb C hr hlk G hl
  unfold f_X9_firstYear at h
  obtain ⟨H, eH⟩ : ∃ H, H = s.heap := ⟨_, rfl⟩
  obtain ⟨locs, eL⟩ : ∃ locs : List Loc, locs = [] := ⟨_, rfl⟩
  refine u_start eH eL G ?_
  clear G eH eL
  intro G
  refine lv_aload_n hx hb dX9_firstYear_0 rfl (lv_at hl 0 rfl) ?_
  refine u_get (v := .ref (ad 8)) C G obX_0 (ci := 9) (N := 14) (Cn := RX9) (T := TX9) rfl fi_X9_firstYear_9 1 (by decide) (by decide +kernel) rfl dX9_firstYear_1 ?_
  refine u_get (v := .ref (ad 12)) C G obX_8 (ci := 8) (N := 10) (Cn := RX8) (T := TX8) rfl fi_X9_firstYear_8 3 (by decide) (by decide +kernel) rfl dX9_firstYear_4 ?_
  refine lv_iload_n hx hb dX9_firstYear_7 rfl (lv_at hl 1 rfl) ?_
  obtain ⟨g1, h⟩ := ui_of h
  refine u_iald C G arX_12 (t0 := 0) rfl g1 dX9_firstYear_8 ?_
  refine lv_if_ne (tgt := 18) hx hb dX9_firstYear_9 (by decide) (fun q => ?_) (fun q => ?_)
  · have h := u_neg q h
    refine lv_aload_n hx hb dX9_firstYear_18 rfl (lv_at hl 0 rfl) ?_
    refine u_get (v := .ref (ad 8)) C G obX_0 (ci := 9) (N := 14) (Cn := RX9) (T := TX9) rfl fi_X9_firstYear_9 1 (by decide) (by decide +kernel) rfl dX9_firstYear_19 ?_
    refine u_get (v := .ref (ad 15)) C G obX_8 (ci := 8) (N := 10) (Cn := RX8) (T := TX8) rfl fi_X9_firstYear_8 6 (by decide) (by decide +kernel) rfl dX9_firstYear_22 ?_
    refine lv_iload_n hx hb dX9_firstYear_25 rfl (lv_at hl 1 rfl) ?_
    obtain ⟨g2, h⟩ := ui_of h
    refine u_iald C G arX_15 (t0 := 0) rfl g2 dX9_firstYear_26 ?_
    obtain ⟨rfl, rfl⟩ := u_end h
    exact u_iret hx hb hr hlk G dX9_firstYear_27
  · have h := u_pos q h
    refine lv_sipush (v := 1700) hx hb dX9_firstYear_12 (by decide) ?_
    refine lv_goto (tgt := 27) hx hb dX9_firstYear_15 (by decide) ?_
    obtain ⟨rfl, rfl⟩ := u_end h
    exact u_iret hx hb hr hlk G dX9_firstYear_27
/-! X9_span -/
def f_X9_span (σ : St) (v1 : Int32) (v2 : Int32) : Option (Int32 × St) :=
  ub (f_X8_isNumber σ v1) fun r1 σ2 =>
  if r1 = 0 then
    some (((-1) : Int32), σ2)
  else
    ui v1 16 <|
    if (σ2 17 v1.toNatClampNeg) = 0 then
      ub (f_X9_hasSpan σ2 v1) fun r4 σ5 =>
      if r4 = 0 then
        some (((-9) : Int32), σ5)
      else
        if v2 = 0 then
          ub (f_X9_firstYear σ5 v1) fun r6 σ7 =>
          some (r6, σ7)
        else
          ub (f_X9_lastYear σ5 v1) fun r8 σ9 =>
          some (r8, σ9)
    else
      ub (f_X9_refuse σ2 (1 : Int32)) fun r10 σ11 =>
      some (r10, σ11)
theorem fi_X9_span_8 : ∀ w ∈ u_ws RX8 TX8 10, w ∈ wsX9_span := by decide +kernel
theorem fi_X9_span_9 : ∀ w ∈ u_ws RX9 TX9 14, w ∈ wsX9_span := by decide +kernel
set_option maxHeartbeats 4000000 in
set_option maxRecDepth 100000 in
theorem c_X9_span (l : Launch) (D : va_G) (ad : Nat → Nat) (cs : Nat → ClassId) (J : uJ 99 ad) (σ : St) (v1 : Int32) (v2 : Int32) (r : Int32) (σ' : St) (h : f_X9_span σ v1 v2 = some (r, σ')) : uMi l yX9_span wsX9_span { frames := 3, cells := 0, slots := 0, locals := 69 } D vwCl (tyX cs) 99 ad (enX ad cs) [.ref (ad 0), .int v1, .int v2] σ r σ' := by
  refine u_met (Qf := uQi D vwCl 99 ad (enX ad cs) r σ') (cc := cX9_span) (maxL := 3) (ret := (some .int)) (lv := [(0, .ref (ad 0)), (1, .int v1), (2, .int v2)]) J (by decide) rfl (Nat.le_of_ble_eq_true rfl) rfl rfl rfl ?_
  intro p e s m args below meth c ls hx hb C hr hlk G hl
  unfold f_X9_span at h
  obtain ⟨H, eH⟩ : ∃ H, H = s.heap := ⟨_, rfl⟩
  obtain ⟨locs, eL⟩ : ∃ locs : List Loc, locs = [] := ⟨_, rfl⟩
  refine u_start eH eL G ?_
  clear G eH eL
  intro G
  refine lv_aload_n hx hb dX9_span_0 rfl (lv_at hl 0 rfl) ?_
  refine u_get (v := .ref (ad 8)) C G obX_0 (ci := 9) (N := 14) (Cn := RX9) (T := TX9) rfl fi_X9_span_9 1 (by decide) (by decide +kernel) rfl dX9_span_1 ?_
  refine lv_iload_n hx hb dX9_span_4 rfl (lv_at hl 1 rfl) ?_
  obtain ⟨r1, σ2, er1, h⟩ := ub_of h
  refine u_callVi (As := [.int v1]) (rest := []) C G (c_X8_isNumber l D ad cs C.2.2.1 σ v1 r1 σ2 er1) (cwV 1 C.1.2.2.2.2 gX9_span_X8_isNumber rfl rfl rfl (by decide +kernel) ⟨Nat.le_of_ble_eq_true rfl, Nat.le_of_ble_eq_true rfl⟩) obX_8 (ci := 8) (T := TX8) rfl rfl hl rfl (Nat.le_of_ble_eq_true rfl) dX9_span_5 (fun H locs G => ?_)
  refine lv_if_ne (tgt := 13) hx hb dX9_span_8 (by decide) (fun q => ?_) (fun q => ?_)
  · have h := u_neg q h
    refine lv_aload_n hx hb dX9_span_13 rfl (lv_at hl 0 rfl) ?_
    refine u_get (v := .ref (ad 8)) C G obX_0 (ci := 9) (N := 14) (Cn := RX9) (T := TX9) rfl fi_X9_span_9 1 (by decide) (by decide +kernel) rfl dX9_span_14 ?_
    refine u_get (v := .ref (ad 17)) C G obX_8 (ci := 8) (N := 10) (Cn := RX8) (T := TX8) rfl fi_X9_span_8 8 (by decide) (by decide +kernel) rfl dX9_span_17 ?_
    refine lv_iload_n hx hb dX9_span_20 rfl (lv_at hl 1 rfl) ?_
    obtain ⟨g3, h⟩ := ui_of h
    refine u_zald C G arX_17 (t0 := 2) rfl g3 dX9_span_21 ?_
    refine lv_if_eq (tgt := 31) hx hb dX9_span_22 (by decide) (fun q => ?_) (fun q => ?_)
    · have h := u_pos q h
      refine lv_aload_n hx hb dX9_span_31 rfl (lv_at hl 0 rfl) ?_
      refine lv_iload_n hx hb dX9_span_32 rfl (lv_at hl 1 rfl) ?_
      obtain ⟨r4, σ5, er4, h⟩ := ub_of h
      refine u_callVi (As := [.int v1]) (rest := []) C G (c_X9_hasSpan l D ad cs C.2.2.1 σ2 v1 r4 σ5 er4) (cwV 1 C.1.2.2.2.2 gX9_span_X9_hasSpan rfl rfl rfl (by decide +kernel) ⟨Nat.le_of_ble_eq_true rfl, Nat.le_of_ble_eq_true rfl⟩) obX_0 (ci := 9) (T := TX9) rfl rfl hl rfl (Nat.le_of_ble_eq_true rfl) dX9_span_33 (fun H locs G => ?_)
      refine lv_if_ne (tgt := 42) hx hb dX9_span_36 (by decide) (fun q => ?_) (fun q => ?_)
      · have h := u_neg q h
        refine lv_iload_n hx hb dX9_span_42 rfl (lv_at hl 2 rfl) ?_
        refine lv_if_eq (tgt := 54) hx hb dX9_span_43 (by decide) (fun q => ?_) (fun q => ?_)
        · have h := u_pos q h
          refine lv_aload_n hx hb dX9_span_54 rfl (lv_at hl 0 rfl) ?_
          refine lv_iload_n hx hb dX9_span_55 rfl (lv_at hl 1 rfl) ?_
          obtain ⟨r6, σ7, er6, h⟩ := ub_of h
          refine u_callVi (As := [.int v1]) (rest := []) C G (c_X9_firstYear l D ad cs C.2.2.1 σ5 v1 r6 σ7 er6) (cwV 1 C.1.2.2.2.2 gX9_span_X9_firstYear rfl rfl rfl (by decide +kernel) ⟨Nat.le_of_ble_eq_true rfl, Nat.le_of_ble_eq_true rfl⟩) obX_0 (ci := 9) (T := TX9) rfl rfl hl rfl (Nat.le_of_ble_eq_true rfl) dX9_span_56 (fun H locs G => ?_)
          obtain ⟨rfl, rfl⟩ := u_end h
          exact u_iret hx hb hr hlk G dX9_span_59
        · have h := u_neg q h
          refine lv_aload_n hx hb dX9_span_46 rfl (lv_at hl 0 rfl) ?_
          refine lv_iload_n hx hb dX9_span_47 rfl (lv_at hl 1 rfl) ?_
          obtain ⟨r8, σ9, er8, h⟩ := ub_of h
          refine u_callVi (As := [.int v1]) (rest := []) C G (c_X9_lastYear l D ad cs C.2.2.1 σ5 v1 r8 σ9 er8) (cwV 1 C.1.2.2.2.2 gX9_span_X9_lastYear rfl rfl rfl (by decide +kernel) ⟨Nat.le_of_ble_eq_true rfl, Nat.le_of_ble_eq_true rfl⟩) obX_0 (ci := 9) (T := TX9) rfl rfl hl rfl (Nat.le_of_ble_eq_true rfl) dX9_span_48 (fun H locs G => ?_)
          refine lv_goto (tgt := 59) hx hb dX9_span_51 (by decide) ?_
          obtain ⟨rfl, rfl⟩ := u_end h
          exact u_iret hx hb hr hlk G dX9_span_59
      · have h := u_pos q h
        refine lv_bipush (v := (-9)) hx hb dX9_span_39 (by decide) ?_
        obtain ⟨rfl, rfl⟩ := u_end h
        exact u_iret hx hb hr hlk G dX9_span_41
    · have h := u_neg q h
      refine lv_aload_n hx hb dX9_span_25 rfl (lv_at hl 0 rfl) ?_
      refine lv_iconst (v := 1) hx hb dX9_span_26 (by decide) ?_
      obtain ⟨r10, σ11, er10, h⟩ := ub_of h
      refine u_callVi (As := [.int 1]) (rest := []) C G (c_X9_refuse l D ad cs C.2.2.1 σ2 (1 : Int32) r10 σ11 er10) (cwV 1 C.1.2.2.2.2 gX9_span_X9_refuse rfl rfl rfl (by decide +kernel) ⟨Nat.le_of_ble_eq_true rfl, Nat.le_of_ble_eq_true rfl⟩) obX_0 (ci := 9) (T := TX9) rfl rfl hl rfl (Nat.le_of_ble_eq_true rfl) dX9_span_27 (fun H locs G => ?_)
      obtain ⟨rfl, rfl⟩ := u_end h
      exact u_iret hx hb hr hlk G dX9_span_30
  · have h := u_pos q h
    refine lv_iconst (v := (-1)) hx hb dX9_span_11 (by decide) ?_
    obtain ⟨rfl, rfl⟩ := u_end h
    exact u_iret hx hb hr hlk G dX9_span_12
/-! X9_agrees -/
def f_X9_agrees_33 : Nat → St → Nat → Int32 → Int32 → Option (Int32 × St)
  | 0, _, _, _, _ => none
  | fuel + 1, σ, i2, v3, v4 =>
    if (σ (35 + 9 * i2) 4) ≤ v4 then
      some (v3, σ)
    else
      ui v4 3 <|
      ul (σ (35 + 9 * i2 + 6) v4.toNatClampNeg) fun x6 =>
      ub (f_X9_firstYear σ x6) fun r7 σ8 =>
      ul (if v3 < r7 then r7 else v3) fun x9 =>
      ub (f_X9_hasSpan σ8 x6) fun r10 σ11 =>
      if r10 = 0 then
        some (((-9) : Int32), σ11)
      else
        ub (f_X9_lastYear σ11 x6) fun r12 σ13 =>
        if x9 ≤ r12 then
          ul (v4 + 1) fun x14 =>
          f_X9_agrees_33 fuel σ13 i2 x9 x14
        else
          some (((-9) : Int32), σ13)
def f_X9_agrees (σ : St) (v1 : Int32) : Option (Int32 × St) :=
  ub (f_X9_isLine σ v1) fun r1 σ2 =>
  if r1 = 0 then
    some (((-1) : Int32), σ2)
  else
    ui v1 4 <|
    if (σ2 (35 + 9 * v1.toNatClampNeg) 4) = 0 then
      some (((-4) : Int32), σ2)
    else
      f_X9_agrees_33 fu σ2 v1.toNatClampNeg 1700 0
theorem fi_X9_agrees_2 : ∀ w ∈ u_ws RX2 TX2 5, w ∈ wsX9_agrees := by decide +kernel
theorem fi_X9_agrees_9 : ∀ w ∈ u_ws RX9 TX9 14, w ∈ wsX9_agrees := by decide +kernel
set_option maxHeartbeats 4000000 in
set_option maxRecDepth 100000 in
theorem w_X9_agrees_33 {p : Program} {l : Launch} {e : Env} {s : State} {m : MethodId} {args : Array Value} {below : List Frame} {meth : Method} {c : Code} {D : va_G} {ad : Nat → Nat} {cs : Nat → ClassId} (C : uC p { frames := 3, cells := 0, slots := 0, locals := 69 } s m args c cX9_agrees 6 wsX9_agrees RX9 D vwCl (tyX cs) 99 ad (uAd 99 ad s.heap.size) 0 0) (hr : meth.sig.returnType = (some .int)) (hlk : meth.locks = false) {r : Int32} {σ' : St} :
    ∀ (n : Nat) (σ : St) (i2 : Nat) (v3 : Int32) (v4 : Int32) (bi2 : i2 < 4), f_X9_agrees_33 n σ i2 v3 v4 = some (r, σ') → ∀ (H : Heap) (locs : List Loc) (ls : Array Slot), uG D vwCl 99 ad (enX ad cs) (uAd 99 ad s.heap.size) s σ H locs → lv_has ls 6 [(0, .ref (ad 0)), (2, .ref (ad (35 + 9 * i2))), (3, .int v3), (4, .int v4)] → W p l e { frames := 3, cells := 0, slots := 0, locals := 69 } s m args below meth c H locs 0 0 (MQ below (uQi D vwCl 99 ad (enX ad cs) r σ' s.heap.size) args s 0 0 (uAd 99 ad s.heap.size)) (F0 m 33 ls []) := by
  have hx := C.1.1
  have hb := C.1.2.1
  intro n
  induction n with
  | zero => intro σ i2 v3 v4 bi2 h; exact absurd h (by simp [f_X9_agrees_33])
  | succ fuel ih =>
    intro σ i2 v3 v4 bi2 h H locs ls G hl
    rw [f_X9_agrees_33] at h
    refine lv_iload hx hb dX9_agrees_33 (lv_at hl 3 rfl) ?_
    refine lv_aload_n hx hb dX9_agrees_35 rfl (lv_at hl 1 rfl) ?_
    refine u_get (v := .int (σ (35 + 9 * i2) 4)) C G (obX_line bi2) (ci := 2) (N := 5) (Cn := RX2) (T := TX2) rfl fi_X9_agrees_2 4 (by decide) (by decide +kernel) rfl dX9_agrees_36 ?_
    refine lv_icmp_ge (tgt := 90) hx hb dX9_agrees_39 (by decide) (fun q => ?_) (fun q => ?_)
    · have h := u_pos q h
      refine lv_iload_n hx hb dX9_agrees_90 rfl (lv_at hl 2 rfl) ?_
      obtain ⟨rfl, rfl⟩ := u_end h
      exact u_iret hx hb hr hlk G dX9_agrees_91
    · have h := u_neg q h
      refine lv_aload_n hx hb dX9_agrees_42 rfl (lv_at hl 1 rfl) ?_
      refine u_get (v := .ref (ad (35 + 9 * i2 + 6))) C G (obX_line bi2) (ci := 2) (N := 5) (Cn := RX2) (T := TX2) rfl fi_X9_agrees_2 1 (by decide) (by decide +kernel) rfl dX9_agrees_43 ?_
      refine lv_iload hx hb dX9_agrees_46 (lv_at hl 3 rfl) ?_
      obtain ⟨g5, h⟩ := ui_of h
      refine u_iald C G (arX_lw bi2) (t0 := 0) rfl g5 dX9_agrees_48 ?_
      obtain ⟨x6, ex6, h⟩ := ul_of h
      refine u_nmi ex6 ?_
      refine lv_istore (lv' := [(5, .int x6), (0, .ref (ad 0)), (2, .ref (ad (35 + 9 * i2))), (3, .int v3), (4, .int v4)]) hx hb dX9_agrees_49 hl (by decide) rfl (fun ls hl => ?_)
      refine lv_iload_n hx hb dX9_agrees_51 rfl (lv_at hl 3 rfl) ?_
      refine lv_aload_n hx hb dX9_agrees_52 rfl (lv_at hl 1 rfl) ?_
      refine lv_iload hx hb dX9_agrees_53 (lv_at hl 0 rfl) ?_
      obtain ⟨r7, σ8, er7, h⟩ := ub_of h
      refine u_callVi (As := [.int x6]) (rest := [.int v3]) C G (c_X9_firstYear l D ad cs C.2.2.1 σ x6 r7 σ8 er7) (cwV 1 C.1.2.2.2.2 gX9_agrees_X9_firstYear rfl rfl rfl (by decide +kernel) ⟨Nat.le_of_ble_eq_true rfl, Nat.le_of_ble_eq_true rfl⟩) obX_0 (ci := 9) (T := TX9) rfl rfl hl rfl (Nat.le_of_ble_eq_true rfl) dX9_agrees_55 (fun H locs G => ?_)
      refine va_mmax hx hb (by rw [C.1.2.2.1, hl.1]) C.1.2.2.2.1 (C.1.2.2.2.2 (.methodLink RX9 308 Lib.Math.max.name) (by decide +kernel)) (C.1.2.2.2.2 (.static Lib.Math.max.name) (by decide +kernel)) (C.1.2.2.2.2 (.initialized "java/lang/Math") (by decide +kernel)) (C.1.2.2.2.2 (.code Lib.Math.max.name Lib.Math.max.code 2 (some .int)) (by decide +kernel)) (Nat.le_of_ble_eq_true rfl) (by decide) C.2.2.2.2.2.1 C.2.2.2.2.2.2 dX9_agrees_58 ?_
      obtain ⟨x9, ex9, h⟩ := ul_of h
      refine u_nmi ex9 ?_
      refine lv_istore_n (lv' := [(3, .int x9), (5, .int x6), (0, .ref (ad 0)), (2, .ref (ad (35 + 9 * i2))), (4, .int v4)]) hx hb dX9_agrees_61 rfl hl (by decide) rfl (fun ls hl => ?_)
      refine lv_aload_n hx hb dX9_agrees_62 rfl (lv_at hl 2 rfl) ?_
      refine lv_iload hx hb dX9_agrees_63 (lv_at hl 1 rfl) ?_
      obtain ⟨r10, σ11, er10, h⟩ := ub_of h
      refine u_callVi (As := [.int x6]) (rest := []) C G (c_X9_hasSpan l D ad cs C.2.2.1 σ8 x6 r10 σ11 er10) (cwV 1 C.1.2.2.2.2 gX9_agrees_X9_hasSpan rfl rfl rfl (by decide +kernel) ⟨Nat.le_of_ble_eq_true rfl, Nat.le_of_ble_eq_true rfl⟩) obX_0 (ci := 9) (T := TX9) rfl rfl hl rfl (Nat.le_of_ble_eq_true rfl) dX9_agrees_65 (fun H locs G => ?_)
      refine lv_if_eq (tgt := 81) hx hb dX9_agrees_68 (by decide) (fun q => ?_) (fun q => ?_)
      · have h := u_pos q h
        refine lv_bipush (v := (-9)) hx hb dX9_agrees_81 (by decide) ?_
        obtain ⟨rfl, rfl⟩ := u_end h
        exact u_iret hx hb hr hlk G dX9_agrees_83
      · have h := u_neg q h
        refine lv_iload_n hx hb dX9_agrees_71 rfl (lv_at hl 0 rfl) ?_
        refine lv_aload_n hx hb dX9_agrees_72 rfl (lv_at hl 2 rfl) ?_
        refine lv_iload hx hb dX9_agrees_73 (lv_at hl 1 rfl) ?_
        obtain ⟨r12, σ13, er12, h⟩ := ub_of h
        refine u_callVi (As := [.int x6]) (rest := [.int x9]) C G (c_X9_lastYear l D ad cs C.2.2.1 σ11 x6 r12 σ13 er12) (cwV 1 C.1.2.2.2.2 gX9_agrees_X9_lastYear rfl rfl rfl (by decide +kernel) ⟨Nat.le_of_ble_eq_true rfl, Nat.le_of_ble_eq_true rfl⟩) obX_0 (ci := 9) (T := TX9) rfl rfl hl rfl (Nat.le_of_ble_eq_true rfl) dX9_agrees_75 (fun H locs G => ?_)
        refine lv_icmp_le (tgt := 84) hx hb dX9_agrees_78 (by decide) (fun q => ?_) (fun q => ?_)
        · have h := u_pos q h
          obtain ⟨x14, ex14, h⟩ := ul_of h
          refine lv_iinc (v := x14) (lv' := [(4, .int x14), (3, .int x9), (5, .int x6), (0, .ref (ad 0)), (2, .ref (ad (35 + 9 * i2)))]) hx hb dX9_agrees_84 hl (k := 4) rfl (by rw [ex14]; rfl) (by decide) rfl (fun ls hl => ?_)
          refine lv_goto (tgt := 33) hx hb dX9_agrees_87 (by decide) ?_
          exact ih σ13 i2 x9 x14 bi2 h H locs ls G (lv_sub hl [3, 4, 1, 0] rfl)
        · have h := u_neg q h
          refine lv_bipush (v := (-9)) hx hb dX9_agrees_81 (by decide) ?_
          obtain ⟨rfl, rfl⟩ := u_end h
          exact u_iret hx hb hr hlk G dX9_agrees_83
set_option maxHeartbeats 4000000 in
set_option maxRecDepth 100000 in
theorem c_X9_agrees (l : Launch) (D : va_G) (ad : Nat → Nat) (cs : Nat → ClassId) (J : uJ 99 ad) (σ : St) (v1 : Int32) (r : Int32) (σ' : St) (h : f_X9_agrees σ v1 = some (r, σ')) : uMi l yX9_agrees wsX9_agrees { frames := 3, cells := 0, slots := 0, locals := 69 } D vwCl (tyX cs) 99 ad (enX ad cs) [.ref (ad 0), .int v1] σ r σ' := by
  refine u_met (Qf := uQi D vwCl 99 ad (enX ad cs) r σ') (cc := cX9_agrees) (maxL := 6) (ret := (some .int)) (lv := [(0, .ref (ad 0)), (1, .int v1)]) J (by decide) rfl (Nat.le_of_ble_eq_true rfl) rfl rfl rfl ?_
  intro p e s m args below meth c ls hx hb C hr hlk G hl
  unfold f_X9_agrees at h
  obtain ⟨H, eH⟩ : ∃ H, H = s.heap := ⟨_, rfl⟩
  obtain ⟨locs, eL⟩ : ∃ locs : List Loc, locs = [] := ⟨_, rfl⟩
  refine u_start eH eL G ?_
  clear G eH eL
  intro G
  refine lv_iload_n hx hb dX9_agrees_0 rfl (lv_at hl 1 rfl) ?_
  obtain ⟨r1, σ2, er1, h⟩ := ub_of h
  refine u_callSi (As := [.int v1]) (rest := []) C G (c_X9_isLine l D ad cs C.2.2.1 σ v1 r1 σ2 er1) (va_cwS 1 C.1.2.2.2.2 gX9_agrees_X9_isLine rfl rfl rfl (by decide +kernel) ⟨Nat.le_of_ble_eq_true rfl, Nat.le_of_ble_eq_true rfl⟩) rfl hl rfl (Nat.le_of_ble_eq_true rfl) dX9_agrees_1 (fun H locs G => ?_)
  refine lv_if_ne (tgt := 9) hx hb dX9_agrees_4 (by decide) (fun q => ?_) (fun q => ?_)
  · have h := u_neg q h
    refine lv_aload_n hx hb dX9_agrees_9 rfl (lv_at hl 0 rfl) ?_
    refine u_get (v := .ref (ad 34)) C G obX_0 (ci := 9) (N := 14) (Cn := RX9) (T := TX9) rfl fi_X9_agrees_9 2 (by decide) (by decide +kernel) rfl dX9_agrees_10 ?_
    refine lv_iload_n hx hb dX9_agrees_13 rfl (lv_at hl 1 rfl) ?_
    obtain ⟨g3, h⟩ := ui_of h
    refine u_aald C G rrX_34 (t0 := 3) rfl rfl g3 dX9_agrees_14 (fun b4 => ?_)
    refine lv_astore_n (lv' := [(2, .ref (ad (35 + 9 * v1.toNatClampNeg))), (0, .ref (ad 0)), (1, .int v1)]) hx hb dX9_agrees_15 rfl hl (by decide) rfl (fun ls hl => ?_)
    refine lv_aload_n hx hb dX9_agrees_16 rfl (lv_at hl 0 rfl) ?_
    refine u_get (v := .int (σ2 (35 + 9 * v1.toNatClampNeg) 4)) C G (obX_line b4) (ci := 2) (N := 5) (Cn := RX2) (T := TX2) rfl fi_X9_agrees_2 4 (by decide) (by decide +kernel) rfl dX9_agrees_17 ?_
    refine lv_if_ne (tgt := 26) hx hb dX9_agrees_20 (by decide) (fun q => ?_) (fun q => ?_)
    · have h := u_neg q h
      refine lv_sipush (v := 1700) hx hb dX9_agrees_26 (by decide) ?_
      refine lv_istore_n (lv' := [(3, .int 1700), (2, .ref (ad (35 + 9 * v1.toNatClampNeg))), (0, .ref (ad 0)), (1, .int v1)]) hx hb dX9_agrees_29 rfl hl (by decide) rfl (fun ls hl => ?_)
      refine lv_iconst (v := 0) hx hb dX9_agrees_30 (by decide) ?_
      refine lv_istore (lv' := [(4, .int 0), (3, .int 1700), (2, .ref (ad (35 + 9 * v1.toNatClampNeg))), (0, .ref (ad 0)), (1, .int v1)]) hx hb dX9_agrees_31 hl (by decide) rfl (fun ls hl => ?_)
      exact w_X9_agrees_33 C hr hlk fu σ2 v1.toNatClampNeg 1700 0 b4 h H locs ls G (lv_sub hl [3, 2, 1, 0] rfl)
    · have h := u_pos q h
      refine lv_bipush (v := (-4)) hx hb dX9_agrees_23 (by decide) ?_
      obtain ⟨rfl, rfl⟩ := u_end h
      exact u_iret hx hb hr hlk G dX9_agrees_25
  · have h := u_pos q h
    refine lv_iconst (v := (-1)) hx hb dX9_agrees_7 (by decide) ?_
    obtain ⟨rfl, rfl⟩ := u_end h
    exact u_iret hx hb hr hlk G dX9_agrees_8
/-! X9_light -/
def f_X9_light (σ : St) (v1 : Int32) (v2 : Int32) (v3 : Int32) (v4 : Int32) : Option (Int32 × St) :=
  ub (f_X1_isNumber σ v1) fun r1 σ2 =>
  if r1 = 0 then
    some (((-1) : Int32), σ2)
  else
    ub (f_X9_isLine σ2 v2) fun r3 σ4 =>
    if r3 = 0 then
      some (((-1) : Int32), σ4)
    else
      ub (f_X9_isCells σ4 v4) fun r5 σ6 =>
      if r5 = 0 then
        some (((-1) : Int32), σ6)
      else
        ub (f_X1_isFull σ6) fun r7 σ8 =>
        if r7 = 0 then
          ub (f_X9_isSlot σ8 v3) fun r9 σ10 =>
          if r9 = 0 then
            ub (f_X9_refuse σ10 (2 : Int32)) fun r13 σ14 =>
            some (r13, σ14)
          else
            ub (f_X1_add σ10 v1 v2 v3 v4) fun r11 σ12 =>
            some ((σ12 75 4), σ12)
        else
          some (((-2) : Int32), σ8)
theorem fi_X9_light_1 : ∀ w ∈ u_ws RX1 TX1 5, w ∈ wsX9_light := by decide +kernel
theorem fi_X9_light_9 : ∀ w ∈ u_ws RX9 TX9 14, w ∈ wsX9_light := by decide +kernel
set_option maxHeartbeats 4000000 in
set_option maxRecDepth 100000 in
theorem c_X9_light (l : Launch) (D : va_G) (ad : Nat → Nat) (cs : Nat → ClassId) (J : uJ 99 ad) (σ : St) (v1 : Int32) (v2 : Int32) (v3 : Int32) (v4 : Int32) (r : Int32) (σ' : St) (h : f_X9_light σ v1 v2 v3 v4 = some (r, σ')) : uMi l yX9_light wsX9_light { frames := 1, cells := 0, slots := 0, locals := 24 } D vwCl (tyX cs) 99 ad (enX ad cs) [.ref (ad 0), .int v1, .int v2, .int v3, .int v4] σ r σ' := by
  refine u_met (Qf := uQi D vwCl 99 ad (enX ad cs) r σ') (cc := cX9_light) (maxL := 5) (ret := (some .int)) (lv := [(0, .ref (ad 0)), (1, .int v1), (2, .int v2), (3, .int v3), (4, .int v4)]) J (by decide) rfl (Nat.le_of_ble_eq_true rfl) rfl rfl rfl ?_
  intro p e s m args below meth c ls hx hb C hr hlk G hl
  unfold f_X9_light at h
  obtain ⟨H, eH⟩ : ∃ H, H = s.heap := ⟨_, rfl⟩
  obtain ⟨locs, eL⟩ : ∃ locs : List Loc, locs = [] := ⟨_, rfl⟩
  refine u_start eH eL G ?_
  clear G eH eL
  intro G
  refine lv_iload_n hx hb dX9_light_0 rfl (lv_at hl 1 rfl) ?_
  obtain ⟨r1, σ2, er1, h⟩ := ub_of h
  refine u_callSi (As := [.int v1]) (rest := []) C G (c_X1_isNumber l D ad cs C.2.2.1 σ v1 r1 σ2 er1) (va_cwS 1 C.1.2.2.2.2 gX9_light_X1_isNumber rfl rfl rfl (by decide +kernel) ⟨Nat.le_of_ble_eq_true rfl, Nat.le_of_ble_eq_true rfl⟩) rfl hl rfl (Nat.le_of_ble_eq_true rfl) dX9_light_1 (fun H locs G => ?_)
  refine lv_if_eq (tgt := 22) hx hb dX9_light_4 (by decide) (fun q => ?_) (fun q => ?_)
  · have h := u_pos q h
    refine lv_iconst (v := (-1)) hx hb dX9_light_22 (by decide) ?_
    obtain ⟨rfl, rfl⟩ := u_end h
    exact u_iret hx hb hr hlk G dX9_light_23
  · have h := u_neg q h
    refine lv_iload_n hx hb dX9_light_7 rfl (lv_at hl 2 rfl) ?_
    obtain ⟨r3, σ4, er3, h⟩ := ub_of h
    refine u_callSi (As := [.int v2]) (rest := []) C G (c_X9_isLine l D ad cs C.2.2.1 σ2 v2 r3 σ4 er3) (va_cwS 1 C.1.2.2.2.2 gX9_light_X9_isLine rfl rfl rfl (by decide +kernel) ⟨Nat.le_of_ble_eq_true rfl, Nat.le_of_ble_eq_true rfl⟩) rfl hl rfl (Nat.le_of_ble_eq_true rfl) dX9_light_8 (fun H locs G => ?_)
    refine lv_if_eq (tgt := 22) hx hb dX9_light_11 (by decide) (fun q => ?_) (fun q => ?_)
    · have h := u_pos q h
      refine lv_iconst (v := (-1)) hx hb dX9_light_22 (by decide) ?_
      obtain ⟨rfl, rfl⟩ := u_end h
      exact u_iret hx hb hr hlk G dX9_light_23
    · have h := u_neg q h
      refine lv_iload hx hb dX9_light_14 (lv_at hl 4 rfl) ?_
      obtain ⟨r5, σ6, er5, h⟩ := ub_of h
      refine u_callSi (As := [.int v4]) (rest := []) C G (c_X9_isCells l D ad cs C.2.2.1 σ4 v4 r5 σ6 er5) (va_cwS 1 C.1.2.2.2.2 gX9_light_X9_isCells rfl rfl rfl (by decide +kernel) ⟨Nat.le_of_ble_eq_true rfl, Nat.le_of_ble_eq_true rfl⟩) rfl hl rfl (Nat.le_of_ble_eq_true rfl) dX9_light_16 (fun H locs G => ?_)
      refine lv_if_ne (tgt := 24) hx hb dX9_light_19 (by decide) (fun q => ?_) (fun q => ?_)
      · have h := u_neg q h
        refine lv_aload_n hx hb dX9_light_24 rfl (lv_at hl 0 rfl) ?_
        refine u_get (v := .ref (ad 75)) C G obX_0 (ci := 9) (N := 14) (Cn := RX9) (T := TX9) rfl fi_X9_light_9 4 (by decide) (by decide +kernel) rfl dX9_light_25 ?_
        obtain ⟨r7, σ8, er7, h⟩ := ub_of h
        refine u_callVi (As := []) (rest := []) C G (c_X1_isFull l D ad cs C.2.2.1 σ6 r7 σ8 er7) (cwV 0 C.1.2.2.2.2 gX9_light_X1_isFull rfl rfl rfl (by decide +kernel) ⟨Nat.le_of_ble_eq_true rfl, Nat.le_of_ble_eq_true rfl⟩) obX_75 (ci := 1) (T := TX1) rfl rfl hl rfl (Nat.le_of_ble_eq_true rfl) dX9_light_28 (fun H locs G => ?_)
        refine lv_if_eq (tgt := 37) hx hb dX9_light_31 (by decide) (fun q => ?_) (fun q => ?_)
        · have h := u_pos q h
          refine lv_iload_n hx hb dX9_light_37 rfl (lv_at hl 3 rfl) ?_
          obtain ⟨r9, σ10, er9, h⟩ := ub_of h
          refine u_callSi (As := [.int v3]) (rest := []) C G (c_X9_isSlot l D ad cs C.2.2.1 σ8 v3 r9 σ10 er9) (va_cwS 1 C.1.2.2.2.2 gX9_light_X9_isSlot rfl rfl rfl (by decide +kernel) ⟨Nat.le_of_ble_eq_true rfl, Nat.le_of_ble_eq_true rfl⟩) rfl hl rfl (Nat.le_of_ble_eq_true rfl) dX9_light_38 (fun H locs G => ?_)
          refine lv_if_ne (tgt := 50) hx hb dX9_light_41 (by decide) (fun q => ?_) (fun q => ?_)
          · have h := u_neg q h
            refine lv_aload_n hx hb dX9_light_50 rfl (lv_at hl 0 rfl) ?_
            refine u_get (v := .ref (ad 75)) C G obX_0 (ci := 9) (N := 14) (Cn := RX9) (T := TX9) rfl fi_X9_light_9 4 (by decide) (by decide +kernel) rfl dX9_light_51 ?_
            refine lv_iload_n hx hb dX9_light_54 rfl (lv_at hl 1 rfl) ?_
            refine lv_iload_n hx hb dX9_light_55 rfl (lv_at hl 2 rfl) ?_
            refine lv_iload_n hx hb dX9_light_56 rfl (lv_at hl 3 rfl) ?_
            refine lv_iload hx hb dX9_light_57 (lv_at hl 4 rfl) ?_
            obtain ⟨r11, σ12, er11, h⟩ := ub_of h
            refine u_callVv (As := [.int v1, .int v2, .int v3, .int v4]) (rest := []) C G (c_X1_add l D ad cs C.2.2.1 σ10 v1 v2 v3 v4 r11 σ12 er11) (cwV 4 C.1.2.2.2.2 gX9_light_X1_add rfl rfl rfl (by decide +kernel) ⟨Nat.le_of_ble_eq_true rfl, Nat.le_of_ble_eq_true rfl⟩) obX_75 (ci := 1) (T := TX1) rfl rfl hl rfl (Nat.le_of_ble_eq_true rfl) dX9_light_59 (fun H locs G => ?_)
            refine lv_aload_n hx hb dX9_light_62 rfl (lv_at hl 0 rfl) ?_
            refine u_get (v := .ref (ad 75)) C G obX_0 (ci := 9) (N := 14) (Cn := RX9) (T := TX9) rfl fi_X9_light_9 4 (by decide) (by decide +kernel) rfl dX9_light_63 ?_
            refine u_get (v := .int (σ12 75 4)) C G obX_75 (ci := 1) (N := 5) (Cn := RX1) (T := TX1) rfl fi_X9_light_1 4 (by decide) (by decide +kernel) rfl dX9_light_66 ?_
            obtain ⟨rfl, rfl⟩ := u_end h
            exact u_iret hx hb hr hlk G dX9_light_69
          · have h := u_pos q h
            refine lv_aload_n hx hb dX9_light_44 rfl (lv_at hl 0 rfl) ?_
            refine lv_iconst (v := 2) hx hb dX9_light_45 (by decide) ?_
            obtain ⟨r13, σ14, er13, h⟩ := ub_of h
            refine u_callVi (As := [.int 2]) (rest := []) C G (c_X9_refuse l D ad cs C.2.2.1 σ10 (2 : Int32) r13 σ14 er13) (cwV 1 C.1.2.2.2.2 gX9_light_X9_refuse rfl rfl rfl (by decide +kernel) ⟨Nat.le_of_ble_eq_true rfl, Nat.le_of_ble_eq_true rfl⟩) obX_0 (ci := 9) (T := TX9) rfl rfl hl rfl (Nat.le_of_ble_eq_true rfl) dX9_light_46 (fun H locs G => ?_)
            obtain ⟨rfl, rfl⟩ := u_end h
            exact u_iret hx hb hr hlk G dX9_light_49
        · have h := u_neg q h
          refine lv_bipush (v := (-2)) hx hb dX9_light_34 (by decide) ?_
          obtain ⟨rfl, rfl⟩ := u_end h
          exact u_iret hx hb hr hlk G dX9_light_36
      · have h := u_pos q h
        refine lv_iconst (v := (-1)) hx hb dX9_light_22 (by decide) ?_
        obtain ⟨rfl, rfl⟩ := u_end h
        exact u_iret hx hb hr hlk G dX9_light_23
/-! X9_splitRivals -/
def f_X9_splitRivals_39 (k21 : St → Int32 → Int32 → Option (Unit × St)) : Nat → St → Int32 → Int32 → Int32 → Int32 → Int32 → Option (Unit × St)
  | 0, _, _, _, _, _, _ => none
  | fuel + 1, σ, v3, v4, v5, v6, v7 =>
    if (σ (86 + 5 * 0) 4) ≤ v7 then
      ui v4 10 <|
      ul (us σ 97 v4.toNatClampNeg (v5 &&& (v6 ^^^ (-1)))) fun σ6 =>
      ul (v4 + 1) fun x7 =>
      k21 σ6 v3 x7
    else
      ui v7 160 <|
      if (σ (86 + 5 * 0 + 3) v7.toNatClampNeg) = v3 then
        ui v7 160 <|
        ui v7 160 <|
        ub (f_X8_cellsIn σ (σ (86 + 5 * 0 + 1) v7.toNatClampNeg) (σ (86 + 5 * 0 + 2) v7.toNatClampNeg) v4) fun r12 σ13 =>
        ul (v5 ||| r12) fun x14 =>
        ul (v6 &&& r12) fun x15 =>
        ul (v7 + 1) fun x16 =>
        f_X9_splitRivals_39 k21 fuel σ13 v3 v4 x14 x15 x16
      else
        ul (v7 + 1) fun x9 =>
        f_X9_splitRivals_39 k21 fuel σ v3 v4 v5 v6 x9
def f_X9_splitRivals_21 : Nat → St → Int32 → Int32 → Option (Unit × St)
  | 0, _, _, _ => none
  | fuel + 1, σ, v3, v4 =>
    if 10 ≤ v4 then
      some ((), σ)
    else
      f_X9_splitRivals_39 (f_X9_splitRivals_21 fuel) fu σ v3 v4 0 32767 0
def f_X9_splitRivals (σ : St) (i1 : Nat) (v2 : Int32) : Option (Unit × St) :=
  ub (f_X9_gatherPlaces σ i1 v2 0) fun r1 σ2 =>
  ub (f_X4_leastLack σ2 0) fun r3 σ4 =>
  f_X9_splitRivals_21 fu σ4 r3 0
theorem fi_X9_splitRivals_4 : ∀ w ∈ u_ws RX4 TX4 5, w ∈ wsX9_splitRivals := by decide +kernel
theorem fi_X9_splitRivals_9 : ∀ w ∈ u_ws RX9 TX9 14, w ∈ wsX9_splitRivals := by decide +kernel
set_option maxHeartbeats 4000000 in
set_option maxRecDepth 100000 in
theorem w_X9_splitRivals_39 {p : Program} {l : Launch} {e : Env} {s : State} {m : MethodId} {args : Array Value} {below : List Frame} {meth : Method} {c : Code} {D : va_G} {ad : Nat → Nat} {cs : Nat → ClassId} (C : uC p { frames := 3, cells := 0, slots := 0, locals := 78 } s m args c cX9_splitRivals 9 wsX9_splitRivals RX9 D vwCl (tyX cs) 99 ad (uAd 99 ad s.heap.size) 0 0) (hr : meth.sig.returnType = none) (hlk : meth.locks = false) {σ' : St} {k21 : St → Int32 → Int32 → Option (Unit × St)} (hk21 : ∀ (σ : St) (v3 : Int32) (v4 : Int32), k21 σ v3 v4 = some ((), σ') → ∀ (H : Heap) (locs : List Loc) (ls : Array Slot), uG D vwCl 99 ad (enX ad cs) (uAd 99 ad s.heap.size) s σ H locs → lv_has ls 9 [(0, .ref (ad 0)), (3, .int v3), (4, .int v4)] → W p l e { frames := 3, cells := 0, slots := 0, locals := 78 } s m args below meth c H locs 0 0 (MQ below (uQv D vwCl 99 ad (enX ad cs) σ' s.heap.size) args s 0 0 (uAd 99 ad s.heap.size)) (F0 m 21 ls [])) :
    ∀ (n : Nat) (σ : St) (v3 : Int32) (v4 : Int32) (v5 : Int32) (v6 : Int32) (v7 : Int32), f_X9_splitRivals_39 k21 n σ v3 v4 v5 v6 v7 = some ((), σ') → ∀ (H : Heap) (locs : List Loc) (ls : Array Slot), uG D vwCl 99 ad (enX ad cs) (uAd 99 ad s.heap.size) s σ H locs → lv_has ls 9 [(0, .ref (ad 0)), (3, .int v3), (4, .int v4), (5, .int v5), (6, .int v6), (7, .int v7)] → W p l e { frames := 3, cells := 0, slots := 0, locals := 78 } s m args below meth c H locs 0 0 (MQ below (uQv D vwCl 99 ad (enX ad cs) σ' s.heap.size) args s 0 0 (uAd 99 ad s.heap.size)) (F0 m 39 ls []) := by
  have hx := C.1.1
  have hb := C.1.2.1
  intro n
  induction n with
  | zero => intro σ v3 v4 v5 v6 v7  h; exact absurd h (by simp [f_X9_splitRivals_39])
  | succ fuel ih =>
    intro σ v3 v4 v5 v6 v7  h H locs ls G hl
    rw [f_X9_splitRivals_39] at h
    refine lv_iload hx hb dX9_splitRivals_39 (lv_at hl 5 rfl) ?_
    refine lv_aload_n hx hb dX9_splitRivals_41 rfl (lv_at hl 0 rfl) ?_
    refine u_get (v := .ref (ad (86 + 5 * 0))) C G obX_0 (ci := 9) (N := 14) (Cn := RX9) (T := TX9) rfl fi_X9_splitRivals_9 7 (by decide) (by decide +kernel) rfl dX9_splitRivals_42 ?_
    refine u_get (v := .int (σ (86 + 5 * 0) 4)) C G (obX_places (show 0 < 2 by decide)) (ci := 4) (N := 5) (Cn := RX4) (T := TX4) rfl fi_X9_splitRivals_4 4 (by decide) (by decide +kernel) rfl dX9_splitRivals_45 ?_
    refine lv_icmp_ge (tgt := 116) hx hb dX9_splitRivals_48 (by decide) (fun q => ?_) (fun q => ?_)
    · have h := u_pos q h
      refine lv_aload_n hx hb dX9_splitRivals_116 rfl (lv_at hl 0 rfl) ?_
      refine u_get (v := .ref (ad 97)) C G obX_0 (ci := 9) (N := 14) (Cn := RX9) (T := TX9) rfl fi_X9_splitRivals_9 10 (by decide) (by decide +kernel) rfl dX9_splitRivals_117 ?_
      refine lv_iload hx hb dX9_splitRivals_120 (lv_at hl 2 rfl) ?_
      refine lv_iload hx hb dX9_splitRivals_122 (lv_at hl 3 rfl) ?_
      refine lv_iload hx hb dX9_splitRivals_124 (lv_at hl 4 rfl) ?_
      refine lv_iconst (v := (-1)) hx hb dX9_splitRivals_126 (by decide) ?_
      refine lv_ixor hx hb dX9_splitRivals_127 ?_
      refine lv_iand hx hb dX9_splitRivals_128 ?_
      obtain ⟨g5, h⟩ := ui_of h
      refine u_iast C G arX_97 (t0 := 0) rfl g5 dX9_splitRivals_129 (fun H locs G => ?_)
      obtain ⟨σ6, eσ6, h⟩ := ul_of h
      replace G := uG_eq eσ6 G
      obtain ⟨x7, ex7, h⟩ := ul_of h
      refine lv_iinc (v := x7) (lv' := [(4, .int x7), (0, .ref (ad 0)), (3, .int v3), (5, .int v5), (6, .int v6), (7, .int v7)]) hx hb dX9_splitRivals_130 hl (k := 2) rfl (by rw [ex7]; rfl) (by decide) rfl (fun ls hl => ?_)
      refine lv_goto (tgt := 21) hx hb dX9_splitRivals_133 (by decide) ?_
      exact hk21 σ6 v3 x7 h H locs ls G (lv_sub hl [1, 2, 0] rfl)
    · have h := u_neg q h
      refine lv_aload_n hx hb dX9_splitRivals_51 rfl (lv_at hl 0 rfl) ?_
      refine u_get (v := .ref (ad (86 + 5 * 0))) C G obX_0 (ci := 9) (N := 14) (Cn := RX9) (T := TX9) rfl fi_X9_splitRivals_9 7 (by decide) (by decide +kernel) rfl dX9_splitRivals_52 ?_
      refine u_get (v := .ref (ad (86 + 5 * 0 + 3))) C G (obX_places (show 0 < 2 by decide)) (ci := 4) (N := 5) (Cn := RX4) (T := TX4) rfl fi_X9_splitRivals_4 2 (by decide) (by decide +kernel) rfl dX9_splitRivals_55 ?_
      refine lv_iload hx hb dX9_splitRivals_58 (lv_at hl 5 rfl) ?_
      obtain ⟨g8, h⟩ := ui_of h
      refine u_iald C G (arX_pl3 (show 0 < 2 by decide)) (t0 := 0) rfl g8 dX9_splitRivals_60 ?_
      refine lv_iload_n hx hb dX9_splitRivals_61 rfl (lv_at hl 1 rfl) ?_
      refine lv_icmp_ne (tgt := 110) hx hb dX9_splitRivals_62 (by decide) (fun q => ?_) (fun q => ?_)
      · have h := u_neg q h
        obtain ⟨x9, ex9, h⟩ := ul_of h
        refine lv_iinc (v := x9) (lv' := [(7, .int x9), (0, .ref (ad 0)), (3, .int v3), (4, .int v4), (5, .int v5), (6, .int v6)]) hx hb dX9_splitRivals_110 hl (k := 5) rfl (by rw [ex9]; rfl) (by decide) rfl (fun ls hl => ?_)
        refine lv_goto (tgt := 39) hx hb dX9_splitRivals_113 (by decide) ?_
        exact ih σ v3 v4 v5 v6 x9 h H locs ls G (lv_sub hl [1, 2, 3, 4, 5, 0] rfl)
      · have h := u_pos q h
        refine lv_aload_n hx hb dX9_splitRivals_65 rfl (lv_at hl 0 rfl) ?_
        refine u_get (v := .ref (ad 8)) C G obX_0 (ci := 9) (N := 14) (Cn := RX9) (T := TX9) rfl fi_X9_splitRivals_9 1 (by decide) (by decide +kernel) rfl dX9_splitRivals_66 ?_
        refine lv_aload_n hx hb dX9_splitRivals_69 rfl (lv_at hl 0 rfl) ?_
        refine u_get (v := .ref (ad (86 + 5 * 0))) C G obX_0 (ci := 9) (N := 14) (Cn := RX9) (T := TX9) rfl fi_X9_splitRivals_9 7 (by decide) (by decide +kernel) rfl dX9_splitRivals_70 ?_
        refine u_get (v := .ref (ad (86 + 5 * 0 + 1))) C G (obX_places (show 0 < 2 by decide)) (ci := 4) (N := 5) (Cn := RX4) (T := TX4) rfl fi_X9_splitRivals_4 0 (by decide) (by decide +kernel) rfl dX9_splitRivals_73 ?_
        refine lv_iload hx hb dX9_splitRivals_76 (lv_at hl 5 rfl) ?_
        obtain ⟨g10, h⟩ := ui_of h
        refine u_iald C G (arX_pl1 (show 0 < 2 by decide)) (t0 := 0) rfl g10 dX9_splitRivals_78 ?_
        refine lv_aload_n hx hb dX9_splitRivals_79 rfl (lv_at hl 0 rfl) ?_
        refine u_get (v := .ref (ad (86 + 5 * 0))) C G obX_0 (ci := 9) (N := 14) (Cn := RX9) (T := TX9) rfl fi_X9_splitRivals_9 7 (by decide) (by decide +kernel) rfl dX9_splitRivals_80 ?_
        refine u_get (v := .ref (ad (86 + 5 * 0 + 2))) C G (obX_places (show 0 < 2 by decide)) (ci := 4) (N := 5) (Cn := RX4) (T := TX4) rfl fi_X9_splitRivals_4 1 (by decide) (by decide +kernel) rfl dX9_splitRivals_83 ?_
        refine lv_iload hx hb dX9_splitRivals_86 (lv_at hl 5 rfl) ?_
        obtain ⟨g11, h⟩ := ui_of h
        refine u_iald C G (arX_pl2 (show 0 < 2 by decide)) (t0 := 0) rfl g11 dX9_splitRivals_88 ?_
        refine lv_iload hx hb dX9_splitRivals_89 (lv_at hl 2 rfl) ?_
        obtain ⟨r12, σ13, er12, h⟩ := ub_of h
        refine u_callVi (As := [.int (σ (86 + 5 * 0 + 1) v7.toNatClampNeg), .int (σ (86 + 5 * 0 + 2) v7.toNatClampNeg), .int v4]) (rest := []) C G (c_X8_cellsIn l D ad cs C.2.2.1 σ (σ (86 + 5 * 0 + 1) v7.toNatClampNeg) (σ (86 + 5 * 0 + 2) v7.toNatClampNeg) v4 r12 σ13 er12) (cwV 3 C.1.2.2.2.2 gX9_splitRivals_X8_cellsIn rfl rfl rfl (by decide +kernel) ⟨Nat.le_of_ble_eq_true rfl, Nat.le_of_ble_eq_true rfl⟩) obX_8 (ci := 8) (T := TX8) rfl rfl hl rfl (Nat.le_of_ble_eq_true rfl) dX9_splitRivals_91 (fun H locs G => ?_)
        refine lv_istore (lv' := [(8, .int r12), (0, .ref (ad 0)), (3, .int v3), (4, .int v4), (5, .int v5), (6, .int v6), (7, .int v7)]) hx hb dX9_splitRivals_94 hl (by decide) rfl (fun ls hl => ?_)
        refine lv_iload hx hb dX9_splitRivals_96 (lv_at hl 4 rfl) ?_
        refine lv_iload hx hb dX9_splitRivals_98 (lv_at hl 0 rfl) ?_
        refine lv_ior hx hb dX9_splitRivals_100 ?_
        obtain ⟨x14, ex14, h⟩ := ul_of h
        refine u_nmi ex14 ?_
        refine lv_istore (lv' := [(5, .int x14), (8, .int r12), (0, .ref (ad 0)), (3, .int v3), (4, .int v4), (6, .int v6), (7, .int v7)]) hx hb dX9_splitRivals_101 hl (by decide) rfl (fun ls hl => ?_)
        refine lv_iload hx hb dX9_splitRivals_103 (lv_at hl 5 rfl) ?_
        refine lv_iload hx hb dX9_splitRivals_105 (lv_at hl 1 rfl) ?_
        refine lv_iand hx hb dX9_splitRivals_107 ?_
        obtain ⟨x15, ex15, h⟩ := ul_of h
        refine u_nmi ex15 ?_
        refine lv_istore (lv' := [(6, .int x15), (5, .int x14), (8, .int r12), (0, .ref (ad 0)), (3, .int v3), (4, .int v4), (7, .int v7)]) hx hb dX9_splitRivals_108 hl (by decide) rfl (fun ls hl => ?_)
        obtain ⟨x16, ex16, h⟩ := ul_of h
        refine lv_iinc (v := x16) (lv' := [(7, .int x16), (6, .int x15), (5, .int x14), (8, .int r12), (0, .ref (ad 0)), (3, .int v3), (4, .int v4)]) hx hb dX9_splitRivals_110 hl (k := 6) rfl (by rw [ex16]; rfl) (by decide) rfl (fun ls hl => ?_)
        refine lv_goto (tgt := 39) hx hb dX9_splitRivals_113 (by decide) ?_
        exact ih σ13 v3 v4 x14 x15 x16 h H locs ls G (lv_sub hl [4, 5, 6, 2, 1, 0] rfl)
set_option maxHeartbeats 4000000 in
set_option maxRecDepth 100000 in
theorem w_X9_splitRivals_21 {p : Program} {l : Launch} {e : Env} {s : State} {m : MethodId} {args : Array Value} {below : List Frame} {meth : Method} {c : Code} {D : va_G} {ad : Nat → Nat} {cs : Nat → ClassId} (C : uC p { frames := 3, cells := 0, slots := 0, locals := 78 } s m args c cX9_splitRivals 9 wsX9_splitRivals RX9 D vwCl (tyX cs) 99 ad (uAd 99 ad s.heap.size) 0 0) (hr : meth.sig.returnType = none) (hlk : meth.locks = false) {σ' : St} :
    ∀ (n : Nat) (σ : St) (v3 : Int32) (v4 : Int32), f_X9_splitRivals_21 n σ v3 v4 = some ((), σ') → ∀ (H : Heap) (locs : List Loc) (ls : Array Slot), uG D vwCl 99 ad (enX ad cs) (uAd 99 ad s.heap.size) s σ H locs → lv_has ls 9 [(0, .ref (ad 0)), (3, .int v3), (4, .int v4)] → W p l e { frames := 3, cells := 0, slots := 0, locals := 78 } s m args below meth c H locs 0 0 (MQ below (uQv D vwCl 99 ad (enX ad cs) σ' s.heap.size) args s 0 0 (uAd 99 ad s.heap.size)) (F0 m 21 ls []) := by
  have hx := C.1.1
  have hb := C.1.2.1
  intro n
  induction n with
  | zero => intro σ v3 v4  h; exact absurd h (by simp [f_X9_splitRivals_21])
  | succ fuel ih =>
    intro σ v3 v4  h H locs ls G hl
    rw [f_X9_splitRivals_21] at h
    refine lv_iload hx hb dX9_splitRivals_21 (lv_at hl 2 rfl) ?_
    refine lv_bipush (v := 10) hx hb dX9_splitRivals_23 (by decide) ?_
    refine lv_icmp_ge (tgt := 136) hx hb dX9_splitRivals_25 (by decide) (fun q => ?_) (fun q => ?_)
    · have h := u_pos q h
      obtain ⟨-, rfl⟩ := u_end h
      exact u_vret hx hb hr hlk G dX9_splitRivals_136
    · have h := u_neg q h
      refine lv_iconst (v := 0) hx hb dX9_splitRivals_28 (by decide) ?_
      refine lv_istore (lv' := [(5, .int 0), (0, .ref (ad 0)), (3, .int v3), (4, .int v4)]) hx hb dX9_splitRivals_29 hl (by decide) rfl (fun ls hl => ?_)
      refine lv_sipush (v := 32767) hx hb dX9_splitRivals_31 (by decide) ?_
      refine lv_istore (lv' := [(6, .int 32767), (5, .int 0), (0, .ref (ad 0)), (3, .int v3), (4, .int v4)]) hx hb dX9_splitRivals_34 hl (by decide) rfl (fun ls hl => ?_)
      refine lv_iconst (v := 0) hx hb dX9_splitRivals_36 (by decide) ?_
      refine lv_istore (lv' := [(7, .int 0), (6, .int 32767), (5, .int 0), (0, .ref (ad 0)), (3, .int v3), (4, .int v4)]) hx hb dX9_splitRivals_37 hl (by decide) rfl (fun ls hl => ?_)
      exact w_X9_splitRivals_39 C hr hlk ih fu σ v3 v4 0 32767 0 h H locs ls G (lv_sub hl [3, 4, 5, 2, 1, 0] rfl)
set_option maxHeartbeats 4000000 in
set_option maxRecDepth 100000 in
theorem c_X9_splitRivals (l : Launch) (D : va_G) (ad : Nat → Nat) (cs : Nat → ClassId) (J : uJ 99 ad) (σ : St) (i1 : Nat) (v2 : Int32) (bi1 : i1 < 4) (r : Unit) (σ' : St) (h : f_X9_splitRivals σ i1 v2 = some (r, σ')) : uMv l yX9_splitRivals wsX9_splitRivals { frames := 3, cells := 0, slots := 0, locals := 78 } D vwCl (tyX cs) 99 ad (enX ad cs) [.ref (ad 0), .ref (ad (35 + 9 * i1)), .int v2] σ σ' := by
  refine u_met (Qf := uQv D vwCl 99 ad (enX ad cs) σ') (cc := cX9_splitRivals) (maxL := 9) (ret := none) (lv := [(0, .ref (ad 0)), (1, .ref (ad (35 + 9 * i1))), (2, .int v2)]) J (by decide) rfl (Nat.le_of_ble_eq_true rfl) rfl rfl rfl ?_
  intro p e s m args below meth c ls hx hb C hr hlk G hl
  unfold f_X9_splitRivals at h
  obtain ⟨H, eH⟩ : ∃ H, H = s.heap := ⟨_, rfl⟩
  obtain ⟨locs, eL⟩ : ∃ locs : List Loc, locs = [] := ⟨_, rfl⟩
  refine u_start eH eL G ?_
  clear G eH eL
  intro G
  refine lv_aload_n hx hb dX9_splitRivals_0 rfl (lv_at hl 0 rfl) ?_
  refine lv_aload_n hx hb dX9_splitRivals_1 rfl (lv_at hl 1 rfl) ?_
  refine lv_iload_n hx hb dX9_splitRivals_2 rfl (lv_at hl 2 rfl) ?_
  refine lv_aload_n hx hb dX9_splitRivals_3 rfl (lv_at hl 0 rfl) ?_
  refine u_get (v := .ref (ad (86 + 5 * 0))) C G obX_0 (ci := 9) (N := 14) (Cn := RX9) (T := TX9) rfl fi_X9_splitRivals_9 7 (by decide) (by decide +kernel) rfl dX9_splitRivals_4 ?_
  obtain ⟨r1, σ2, er1, h⟩ := ub_of h
  refine u_callVv (As := [.ref (ad (35 + 9 * i1)), .int v2, .ref (ad (86 + 5 * 0))]) (rest := []) C G (c_X9_gatherPlaces l D ad cs C.2.2.1 σ i1 v2 0 bi1 (show 0 < 2 by decide) r1 σ2 er1) (cwV 3 C.1.2.2.2.2 gX9_splitRivals_X9_gatherPlaces rfl rfl rfl (by decide +kernel) ⟨Nat.le_of_ble_eq_true rfl, Nat.le_of_ble_eq_true rfl⟩) obX_0 (ci := 9) (T := TX9) rfl rfl hl rfl (Nat.le_of_ble_eq_true rfl) dX9_splitRivals_7 (fun H locs G => ?_)
  refine lv_aload_n hx hb dX9_splitRivals_10 rfl (lv_at hl 0 rfl) ?_
  refine u_get (v := .ref (ad (86 + 5 * 0))) C G obX_0 (ci := 9) (N := 14) (Cn := RX9) (T := TX9) rfl fi_X9_splitRivals_9 7 (by decide) (by decide +kernel) rfl dX9_splitRivals_11 ?_
  obtain ⟨r3, σ4, er3, h⟩ := ub_of h
  refine u_callVi (As := []) (rest := []) C G (c_X4_leastLack l D ad cs C.2.2.1 σ2 0 (show 0 < 2 by decide) r3 σ4 er3) (cwV 0 C.1.2.2.2.2 gX9_splitRivals_X4_leastLack rfl rfl rfl (by decide +kernel) ⟨Nat.le_of_ble_eq_true rfl, Nat.le_of_ble_eq_true rfl⟩) (obX_places (show 0 < 2 by decide)) (ci := 4) (T := TX4) rfl rfl hl rfl (Nat.le_of_ble_eq_true rfl) dX9_splitRivals_14 (fun H locs G => ?_)
  refine lv_istore_n (lv' := [(3, .int r3), (0, .ref (ad 0)), (1, .ref (ad (35 + 9 * i1))), (2, .int v2)]) hx hb dX9_splitRivals_17 rfl hl (by decide) rfl (fun ls hl => ?_)
  refine lv_iconst (v := 0) hx hb dX9_splitRivals_18 (by decide) ?_
  refine lv_istore (lv' := [(4, .int 0), (3, .int r3), (0, .ref (ad 0)), (1, .ref (ad (35 + 9 * i1))), (2, .int v2)]) hx hb dX9_splitRivals_19 hl (by decide) rfl (fun ls hl => ?_)
  exact w_X9_splitRivals_21 C hr hlk fu σ4 r3 0 h H locs ls G (lv_sub hl [2, 1, 0] rfl)
/-! X9_gainOf -/
def f_X9_gainOf_5 : Nat → St → Int32 → Int32 → Int32 → Int32 → Option (Int32 × St)
  | 0, _, _, _, _, _ => none
  | fuel + 1, σ, v1, v2, v3, v4 =>
    if 10 ≤ v4 then
      some (v3, σ)
    else
      ub (f_X1_cellsIn σ v1 v2 v4) fun r1 σ2 =>
      ui v2 4 <|
      ub (f_X2_known σ2 v2.toNatClampNeg v4) fun r5 σ6 =>
      ul (r1 &&& (r5 ^^^ (-1))) fun x7 =>
      ui v4 10 <|
      ub (f_J6_bitCount_0f7a4 σ6 (x7 &&& (σ6 97 v4.toNatClampNeg))) fun r9 σ10 =>
      ul (v3 + r9) fun x11 =>
      ul (v4 + 1) fun x12 =>
      f_X9_gainOf_5 fuel σ10 v1 v2 x11 x12
def f_X9_gainOf (σ : St) (v1 : Int32) (v2 : Int32) : Option (Int32 × St) :=
  f_X9_gainOf_5 fu σ v1 v2 0 0
theorem fi_X9_gainOf_9 : ∀ w ∈ u_ws RX9 TX9 14, w ∈ wsX9_gainOf := by decide +kernel
set_option maxHeartbeats 4000000 in
set_option maxRecDepth 100000 in
theorem w_X9_gainOf_5 {p : Program} {l : Launch} {e : Env} {s : State} {m : MethodId} {args : Array Value} {below : List Frame} {meth : Method} {c : Code} {D : va_G} {ad : Nat → Nat} {cs : Nat → ClassId} (C : uC p { frames := 1, cells := 0, slots := 0, locals := 25 } s m args c cX9_gainOf 6 wsX9_gainOf RX9 D vwCl (tyX cs) 99 ad (uAd 99 ad s.heap.size) 0 0) (hr : meth.sig.returnType = (some .int)) (hlk : meth.locks = false) {r : Int32} {σ' : St} :
    ∀ (n : Nat) (σ : St) (v1 : Int32) (v2 : Int32) (v3 : Int32) (v4 : Int32), f_X9_gainOf_5 n σ v1 v2 v3 v4 = some (r, σ') → ∀ (H : Heap) (locs : List Loc) (ls : Array Slot), uG D vwCl 99 ad (enX ad cs) (uAd 99 ad s.heap.size) s σ H locs → lv_has ls 6 [(0, .ref (ad 0)), (1, .int v1), (2, .int v2), (3, .int v3), (4, .int v4)] → W p l e { frames := 1, cells := 0, slots := 0, locals := 25 } s m args below meth c H locs 0 0 (MQ below (uQi D vwCl 99 ad (enX ad cs) r σ' s.heap.size) args s 0 0 (uAd 99 ad s.heap.size)) (F0 m 5 ls []) := by
  have hx := C.1.1
  have hb := C.1.2.1
  intro n
  induction n with
  | zero => intro σ v1 v2 v3 v4  h; exact absurd h (by simp [f_X9_gainOf_5])
  | succ fuel ih =>
    intro σ v1 v2 v3 v4  h H locs ls G hl
    rw [f_X9_gainOf_5] at h
    refine lv_iload hx hb dX9_gainOf_5 (lv_at hl 4 rfl) ?_
    refine lv_bipush (v := 10) hx hb dX9_gainOf_7 (by decide) ?_
    refine lv_icmp_ge (tgt := 61) hx hb dX9_gainOf_9 (by decide) (fun q => ?_) (fun q => ?_)
    · have h := u_pos q h
      refine lv_iload_n hx hb dX9_gainOf_61 rfl (lv_at hl 3 rfl) ?_
      obtain ⟨rfl, rfl⟩ := u_end h
      exact u_iret hx hb hr hlk G dX9_gainOf_62
    · have h := u_neg q h
      refine lv_aload_n hx hb dX9_gainOf_12 rfl (lv_at hl 0 rfl) ?_
      refine u_get (v := .ref (ad 75)) C G obX_0 (ci := 9) (N := 14) (Cn := RX9) (T := TX9) rfl fi_X9_gainOf_9 4 (by decide) (by decide +kernel) rfl dX9_gainOf_13 ?_
      refine lv_iload_n hx hb dX9_gainOf_16 rfl (lv_at hl 1 rfl) ?_
      refine lv_iload_n hx hb dX9_gainOf_17 rfl (lv_at hl 2 rfl) ?_
      refine lv_iload hx hb dX9_gainOf_18 (lv_at hl 4 rfl) ?_
      obtain ⟨r1, σ2, er1, h⟩ := ub_of h
      refine u_callVi (As := [.int v1, .int v2, .int v4]) (rest := []) C G (c_X1_cellsIn l D ad cs C.2.2.1 σ v1 v2 v4 r1 σ2 er1) (cwV 3 C.1.2.2.2.2 gX9_gainOf_X1_cellsIn rfl rfl rfl (by decide +kernel) ⟨Nat.le_of_ble_eq_true rfl, Nat.le_of_ble_eq_true rfl⟩) obX_75 (ci := 1) (T := TX1) rfl rfl hl rfl (Nat.le_of_ble_eq_true rfl) dX9_gainOf_20 (fun H locs G => ?_)
      refine lv_aload_n hx hb dX9_gainOf_23 rfl (lv_at hl 0 rfl) ?_
      refine u_get (v := .ref (ad 34)) C G obX_0 (ci := 9) (N := 14) (Cn := RX9) (T := TX9) rfl fi_X9_gainOf_9 2 (by decide) (by decide +kernel) rfl dX9_gainOf_24 ?_
      refine lv_iload_n hx hb dX9_gainOf_27 rfl (lv_at hl 2 rfl) ?_
      obtain ⟨g3, h⟩ := ui_of h
      refine u_aald C G rrX_34 (t0 := 3) rfl rfl g3 dX9_gainOf_28 (fun b4 => ?_)
      refine lv_iload hx hb dX9_gainOf_29 (lv_at hl 4 rfl) ?_
      obtain ⟨r5, σ6, er5, h⟩ := ub_of h
      refine u_callVi (As := [.int v4]) (rest := [.int r1]) C G (c_X2_known l D ad cs C.2.2.1 σ2 v2.toNatClampNeg v4 b4 r5 σ6 er5) (cwV 1 C.1.2.2.2.2 gX9_gainOf_X2_known rfl rfl rfl (by decide +kernel) ⟨Nat.le_of_ble_eq_true rfl, Nat.le_of_ble_eq_true rfl⟩) (obX_line b4) (ci := 2) (T := TX2) rfl rfl hl rfl (Nat.le_of_ble_eq_true rfl) dX9_gainOf_31 (fun H locs G => ?_)
      refine lv_iconst (v := (-1)) hx hb dX9_gainOf_34 (by decide) ?_
      refine lv_ixor hx hb dX9_gainOf_35 ?_
      refine lv_iand hx hb dX9_gainOf_36 ?_
      obtain ⟨x7, ex7, h⟩ := ul_of h
      refine u_nmi ex7 ?_
      refine lv_istore (lv' := [(5, .int x7), (0, .ref (ad 0)), (1, .int v1), (2, .int v2), (3, .int v3), (4, .int v4)]) hx hb dX9_gainOf_37 hl (by decide) rfl (fun ls hl => ?_)
      refine lv_iload_n hx hb dX9_gainOf_39 rfl (lv_at hl 4 rfl) ?_
      refine lv_iload hx hb dX9_gainOf_40 (lv_at hl 0 rfl) ?_
      refine lv_aload_n hx hb dX9_gainOf_42 rfl (lv_at hl 1 rfl) ?_
      refine u_get (v := .ref (ad 97)) C G obX_0 (ci := 9) (N := 14) (Cn := RX9) (T := TX9) rfl fi_X9_gainOf_9 10 (by decide) (by decide +kernel) rfl dX9_gainOf_43 ?_
      refine lv_iload hx hb dX9_gainOf_46 (lv_at hl 5 rfl) ?_
      obtain ⟨g8, h⟩ := ui_of h
      refine u_iald C G arX_97 (t0 := 0) rfl g8 dX9_gainOf_48 ?_
      refine lv_iand hx hb dX9_gainOf_49 ?_
      obtain ⟨r9, σ10, er9, h⟩ := ub_of h
      refine u_callSi (As := [.int (x7 &&& (σ6 97 v4.toNatClampNeg))]) (rest := [.int v3]) C G (c_J6_bitCount_0f7a4 l D ad cs C.2.2.1 σ6 (x7 &&& (σ6 97 v4.toNatClampNeg)) r9 σ10 er9) (va_cwS 1 C.1.2.2.2.2 gX9_gainOf_J6_bitCount_0f7a4 rfl rfl rfl (by decide +kernel) ⟨Nat.le_of_ble_eq_true rfl, Nat.le_of_ble_eq_true rfl⟩) rfl hl rfl (Nat.le_of_ble_eq_true rfl) dX9_gainOf_50 (fun H locs G => ?_)
      refine lv_iadd hx hb dX9_gainOf_53 ?_
      obtain ⟨x11, ex11, h⟩ := ul_of h
      refine u_nmi ex11 ?_
      refine lv_istore_n (lv' := [(3, .int x11), (5, .int x7), (0, .ref (ad 0)), (1, .int v1), (2, .int v2), (4, .int v4)]) hx hb dX9_gainOf_54 rfl hl (by decide) rfl (fun ls hl => ?_)
      obtain ⟨x12, ex12, h⟩ := ul_of h
      refine lv_iinc (v := x12) (lv' := [(4, .int x12), (3, .int x11), (5, .int x7), (0, .ref (ad 0)), (1, .int v1), (2, .int v2)]) hx hb dX9_gainOf_55 hl (k := 5) rfl (by rw [ex12]; rfl) (by decide) rfl (fun ls hl => ?_)
      refine lv_goto (tgt := 5) hx hb dX9_gainOf_58 (by decide) ?_
      exact ih σ10 v1 v2 x11 x12 h H locs ls G (lv_sub hl [3, 4, 5, 1, 0] rfl)
set_option maxHeartbeats 4000000 in
set_option maxRecDepth 100000 in
theorem c_X9_gainOf (l : Launch) (D : va_G) (ad : Nat → Nat) (cs : Nat → ClassId) (J : uJ 99 ad) (σ : St) (v1 : Int32) (v2 : Int32) (r : Int32) (σ' : St) (h : f_X9_gainOf σ v1 v2 = some (r, σ')) : uMi l yX9_gainOf wsX9_gainOf { frames := 1, cells := 0, slots := 0, locals := 25 } D vwCl (tyX cs) 99 ad (enX ad cs) [.ref (ad 0), .int v1, .int v2] σ r σ' := by
  refine u_met (Qf := uQi D vwCl 99 ad (enX ad cs) r σ') (cc := cX9_gainOf) (maxL := 6) (ret := (some .int)) (lv := [(0, .ref (ad 0)), (1, .int v1), (2, .int v2)]) J (by decide) rfl (Nat.le_of_ble_eq_true rfl) rfl rfl rfl ?_
  intro p e s m args below meth c ls hx hb C hr hlk G hl
  unfold f_X9_gainOf at h
  obtain ⟨H, eH⟩ : ∃ H, H = s.heap := ⟨_, rfl⟩
  obtain ⟨locs, eL⟩ : ∃ locs : List Loc, locs = [] := ⟨_, rfl⟩
  refine u_start eH eL G ?_
  clear G eH eL
  intro G
  refine lv_iconst (v := 0) hx hb dX9_gainOf_0 (by decide) ?_
  refine lv_istore_n (lv' := [(3, .int 0), (0, .ref (ad 0)), (1, .int v1), (2, .int v2)]) hx hb dX9_gainOf_1 rfl hl (by decide) rfl (fun ls hl => ?_)
  refine lv_iconst (v := 0) hx hb dX9_gainOf_2 (by decide) ?_
  refine lv_istore (lv' := [(4, .int 0), (3, .int 0), (0, .ref (ad 0)), (1, .int v1), (2, .int v2)]) hx hb dX9_gainOf_3 hl (by decide) rfl (fun ls hl => ?_)
  exact w_X9_gainOf_5 C hr hlk fu σ v1 v2 0 0 h H locs ls G (lv_sub hl [2, 3, 4, 1, 0] rfl)
/-! X9_gain -/
def f_X9_gain (σ : St) (v1 : Int32) (v2 : Int32) (v3 : Int32) : Option (Int32 × St) :=
  ub (f_X1_isNumber σ v1) fun r1 σ2 =>
  if r1 = 0 then
    some (((-1) : Int32), σ2)
  else
    ub (f_X9_isLine σ2 v2) fun r3 σ4 =>
    if r3 = 0 then
      some (((-1) : Int32), σ4)
    else
      ub (f_X9_isColour σ4 v3) fun r5 σ6 =>
      if r5 = 0 then
        some (((-1) : Int32), σ6)
      else
        ui v2 4 <|
        ub (f_X9_splitRivals σ6 v2.toNatClampNeg v3) fun r9 σ10 =>
        ub (f_X9_gainOf σ10 v1 v2) fun r11 σ12 =>
        some (r11, σ12)
theorem fi_X9_gain_9 : ∀ w ∈ u_ws RX9 TX9 14, w ∈ wsX9_gain := by decide +kernel
set_option maxHeartbeats 4000000 in
set_option maxRecDepth 100000 in
theorem c_X9_gain (l : Launch) (D : va_G) (ad : Nat → Nat) (cs : Nat → ClassId) (J : uJ 99 ad) (σ : St) (v1 : Int32) (v2 : Int32) (v3 : Int32) (r : Int32) (σ' : St) (h : f_X9_gain σ v1 v2 v3 = some (r, σ')) : uMi l yX9_gain wsX9_gain { frames := 4, cells := 0, slots := 0, locals := 106 } D vwCl (tyX cs) 99 ad (enX ad cs) [.ref (ad 0), .int v1, .int v2, .int v3] σ r σ' := by
  refine u_met (Qf := uQi D vwCl 99 ad (enX ad cs) r σ') (cc := cX9_gain) (maxL := 4) (ret := (some .int)) (lv := [(0, .ref (ad 0)), (1, .int v1), (2, .int v2), (3, .int v3)]) J (by decide) rfl (Nat.le_of_ble_eq_true rfl) rfl rfl rfl ?_
  intro p e s m args below meth c ls hx hb C hr hlk G hl
  unfold f_X9_gain at h
  obtain ⟨H, eH⟩ : ∃ H, H = s.heap := ⟨_, rfl⟩
  obtain ⟨locs, eL⟩ : ∃ locs : List Loc, locs = [] := ⟨_, rfl⟩
  refine u_start eH eL G ?_
  clear G eH eL
  intro G
  refine lv_iload_n hx hb dX9_gain_0 rfl (lv_at hl 1 rfl) ?_
  obtain ⟨r1, σ2, er1, h⟩ := ub_of h
  refine u_callSi (As := [.int v1]) (rest := []) C G (c_X1_isNumber l D ad cs C.2.2.1 σ v1 r1 σ2 er1) (va_cwS 1 C.1.2.2.2.2 gX9_gain_X1_isNumber rfl rfl rfl (by decide +kernel) ⟨Nat.le_of_ble_eq_true rfl, Nat.le_of_ble_eq_true rfl⟩) rfl hl rfl (Nat.le_of_ble_eq_true rfl) dX9_gain_1 (fun H locs G => ?_)
  refine lv_if_eq (tgt := 21) hx hb dX9_gain_4 (by decide) (fun q => ?_) (fun q => ?_)
  · have h := u_pos q h
    refine lv_iconst (v := (-1)) hx hb dX9_gain_21 (by decide) ?_
    obtain ⟨rfl, rfl⟩ := u_end h
    exact u_iret hx hb hr hlk G dX9_gain_22
  · have h := u_neg q h
    refine lv_iload_n hx hb dX9_gain_7 rfl (lv_at hl 2 rfl) ?_
    obtain ⟨r3, σ4, er3, h⟩ := ub_of h
    refine u_callSi (As := [.int v2]) (rest := []) C G (c_X9_isLine l D ad cs C.2.2.1 σ2 v2 r3 σ4 er3) (va_cwS 1 C.1.2.2.2.2 gX9_gain_X9_isLine rfl rfl rfl (by decide +kernel) ⟨Nat.le_of_ble_eq_true rfl, Nat.le_of_ble_eq_true rfl⟩) rfl hl rfl (Nat.le_of_ble_eq_true rfl) dX9_gain_8 (fun H locs G => ?_)
    refine lv_if_eq (tgt := 21) hx hb dX9_gain_11 (by decide) (fun q => ?_) (fun q => ?_)
    · have h := u_pos q h
      refine lv_iconst (v := (-1)) hx hb dX9_gain_21 (by decide) ?_
      obtain ⟨rfl, rfl⟩ := u_end h
      exact u_iret hx hb hr hlk G dX9_gain_22
    · have h := u_neg q h
      refine lv_iload_n hx hb dX9_gain_14 rfl (lv_at hl 3 rfl) ?_
      obtain ⟨r5, σ6, er5, h⟩ := ub_of h
      refine u_callSi (As := [.int v3]) (rest := []) C G (c_X9_isColour l D ad cs C.2.2.1 σ4 v3 r5 σ6 er5) (va_cwS 1 C.1.2.2.2.2 gX9_gain_X9_isColour rfl rfl rfl (by decide +kernel) ⟨Nat.le_of_ble_eq_true rfl, Nat.le_of_ble_eq_true rfl⟩) rfl hl rfl (Nat.le_of_ble_eq_true rfl) dX9_gain_15 (fun H locs G => ?_)
      refine lv_if_ne (tgt := 23) hx hb dX9_gain_18 (by decide) (fun q => ?_) (fun q => ?_)
      · have h := u_neg q h
        refine lv_aload_n hx hb dX9_gain_23 rfl (lv_at hl 0 rfl) ?_
        refine lv_aload_n hx hb dX9_gain_24 rfl (lv_at hl 0 rfl) ?_
        refine u_get (v := .ref (ad 34)) C G obX_0 (ci := 9) (N := 14) (Cn := RX9) (T := TX9) rfl fi_X9_gain_9 2 (by decide) (by decide +kernel) rfl dX9_gain_25 ?_
        refine lv_iload_n hx hb dX9_gain_28 rfl (lv_at hl 2 rfl) ?_
        obtain ⟨g7, h⟩ := ui_of h
        refine u_aald C G rrX_34 (t0 := 3) rfl rfl g7 dX9_gain_29 (fun b8 => ?_)
        refine lv_iload_n hx hb dX9_gain_30 rfl (lv_at hl 3 rfl) ?_
        obtain ⟨r9, σ10, er9, h⟩ := ub_of h
        refine u_callVv (As := [.ref (ad (35 + 9 * v2.toNatClampNeg)), .int v3]) (rest := []) C G (c_X9_splitRivals l D ad cs C.2.2.1 σ6 v2.toNatClampNeg v3 b8 r9 σ10 er9) (cwV 2 C.1.2.2.2.2 gX9_gain_X9_splitRivals rfl rfl rfl (by decide +kernel) ⟨Nat.le_of_ble_eq_true rfl, Nat.le_of_ble_eq_true rfl⟩) obX_0 (ci := 9) (T := TX9) rfl rfl hl rfl (Nat.le_of_ble_eq_true rfl) dX9_gain_31 (fun H locs G => ?_)
        refine lv_aload_n hx hb dX9_gain_34 rfl (lv_at hl 0 rfl) ?_
        refine lv_iload_n hx hb dX9_gain_35 rfl (lv_at hl 1 rfl) ?_
        refine lv_iload_n hx hb dX9_gain_36 rfl (lv_at hl 2 rfl) ?_
        obtain ⟨r11, σ12, er11, h⟩ := ub_of h
        refine u_callVi (As := [.int v1, .int v2]) (rest := []) C G (c_X9_gainOf l D ad cs C.2.2.1 σ10 v1 v2 r11 σ12 er11) (cwV 2 C.1.2.2.2.2 gX9_gain_X9_gainOf rfl rfl rfl (by decide +kernel) ⟨Nat.le_of_ble_eq_true rfl, Nat.le_of_ble_eq_true rfl⟩) obX_0 (ci := 9) (T := TX9) rfl rfl hl rfl (Nat.le_of_ble_eq_true rfl) dX9_gain_37 (fun H locs G => ?_)
        obtain ⟨rfl, rfl⟩ := u_end h
        exact u_iret hx hb hr hlk G dX9_gain_40
      · have h := u_pos q h
        refine lv_iconst (v := (-1)) hx hb dX9_gain_21 (by decide) ?_
        obtain ⟨rfl, rfl⟩ := u_end h
        exact u_iret hx hb hr hlk G dX9_gain_22
/-! X9_next -/
def f_X9_next_36 : Nat → St → Int32 → Int32 → Int32 → Int32 → Option (Int32 × St)
  | 0, _, _, _, _, _ => none
  | fuel + 1, σ, v1, v3, v4, v5 =>
    if 6 ≤ v5 then
      some (v3, σ)
    else
      ub (f_X9_gainOf σ v5 v1) fun r9 σ10 =>
      if r9 ≤ v4 then
        ul (v5 + 1) fun x11 =>
        f_X9_next_36 fuel σ10 v1 v3 v4 x11
      else
        ul (v5 + 1) fun x12 =>
        f_X9_next_36 fuel σ10 v1 v5 r9 x12
def f_X9_next (σ : St) (v1 : Int32) (v2 : Int32) : Option (Int32 × St) :=
  ub (f_X9_isLine σ v1) fun r1 σ2 =>
  if r1 = 0 then
    some (((-1) : Int32), σ2)
  else
    ub (f_X9_isColour σ2 v2) fun r3 σ4 =>
    if r3 = 0 then
      some (((-1) : Int32), σ4)
    else
      ui v1 4 <|
      ub (f_X9_splitRivals σ4 v1.toNatClampNeg v2) fun r7 σ8 =>
      f_X9_next_36 fu σ8 v1 (-9) 0 0
theorem fi_X9_next_9 : ∀ w ∈ u_ws RX9 TX9 14, w ∈ wsX9_next := by decide +kernel
set_option maxHeartbeats 4000000 in
set_option maxRecDepth 100000 in
theorem w_X9_next_36 {p : Program} {l : Launch} {e : Env} {s : State} {m : MethodId} {args : Array Value} {below : List Frame} {meth : Method} {c : Code} {D : va_G} {ad : Nat → Nat} {cs : Nat → ClassId} (C : uC p { frames := 4, cells := 0, slots := 0, locals := 106 } s m args c cX9_next 7 wsX9_next RX9 D vwCl (tyX cs) 99 ad (uAd 99 ad s.heap.size) 0 0) (hr : meth.sig.returnType = (some .int)) (hlk : meth.locks = false) {r : Int32} {σ' : St} :
    ∀ (n : Nat) (σ : St) (v1 : Int32) (v3 : Int32) (v4 : Int32) (v5 : Int32), f_X9_next_36 n σ v1 v3 v4 v5 = some (r, σ') → ∀ (H : Heap) (locs : List Loc) (ls : Array Slot), uG D vwCl 99 ad (enX ad cs) (uAd 99 ad s.heap.size) s σ H locs → lv_has ls 7 [(0, .ref (ad 0)), (1, .int v1), (3, .int v3), (4, .int v4), (5, .int v5)] → W p l e { frames := 4, cells := 0, slots := 0, locals := 106 } s m args below meth c H locs 0 0 (MQ below (uQi D vwCl 99 ad (enX ad cs) r σ' s.heap.size) args s 0 0 (uAd 99 ad s.heap.size)) (F0 m 36 ls []) := by
  have hx := C.1.1
  have hb := C.1.2.1
  intro n
  induction n with
  | zero => intro σ v1 v3 v4 v5  h; exact absurd h (by simp [f_X9_next_36])
  | succ fuel ih =>
    intro σ v1 v3 v4 v5  h H locs ls G hl
    rw [f_X9_next_36] at h
    refine lv_iload hx hb dX9_next_36 (lv_at hl 4 rfl) ?_
    refine lv_bipush (v := 6) hx hb dX9_next_38 (by decide) ?_
    refine lv_icmp_ge (tgt := 72) hx hb dX9_next_40 (by decide) (fun q => ?_) (fun q => ?_)
    · have h := u_pos q h
      refine lv_iload_n hx hb dX9_next_72 rfl (lv_at hl 2 rfl) ?_
      obtain ⟨rfl, rfl⟩ := u_end h
      exact u_iret hx hb hr hlk G dX9_next_73
    · have h := u_neg q h
      refine lv_aload_n hx hb dX9_next_43 rfl (lv_at hl 0 rfl) ?_
      refine lv_iload hx hb dX9_next_44 (lv_at hl 4 rfl) ?_
      refine lv_iload_n hx hb dX9_next_46 rfl (lv_at hl 1 rfl) ?_
      obtain ⟨r9, σ10, er9, h⟩ := ub_of h
      refine u_callVi (As := [.int v5, .int v1]) (rest := []) C G (c_X9_gainOf l D ad cs C.2.2.1 σ v5 v1 r9 σ10 er9) (cwV 2 C.1.2.2.2.2 gX9_next_X9_gainOf rfl rfl rfl (by decide +kernel) ⟨Nat.le_of_ble_eq_true rfl, Nat.le_of_ble_eq_true rfl⟩) obX_0 (ci := 9) (T := TX9) rfl rfl hl rfl (Nat.le_of_ble_eq_true rfl) dX9_next_47 (fun H locs G => ?_)
      refine lv_istore (lv' := [(6, .int r9), (0, .ref (ad 0)), (1, .int v1), (3, .int v3), (4, .int v4), (5, .int v5)]) hx hb dX9_next_50 hl (by decide) rfl (fun ls hl => ?_)
      refine lv_iload hx hb dX9_next_52 (lv_at hl 0 rfl) ?_
      refine lv_iload hx hb dX9_next_54 (lv_at hl 4 rfl) ?_
      refine lv_icmp_le (tgt := 66) hx hb dX9_next_56 (by decide) (fun q => ?_) (fun q => ?_)
      · have h := u_pos q h
        obtain ⟨x11, ex11, h⟩ := ul_of h
        refine lv_iinc (v := x11) (lv' := [(5, .int x11), (6, .int r9), (0, .ref (ad 0)), (1, .int v1), (3, .int v3), (4, .int v4)]) hx hb dX9_next_66 hl (k := 5) rfl (by rw [ex11]; rfl) (by decide) rfl (fun ls hl => ?_)
        refine lv_goto (tgt := 36) hx hb dX9_next_69 (by decide) ?_
        exact ih σ10 v1 v3 v4 x11 h H locs ls G (lv_sub hl [2, 3, 4, 5, 0] rfl)
      · have h := u_neg q h
        refine lv_iload hx hb dX9_next_59 (lv_at hl 0 rfl) ?_
        refine lv_istore (lv' := [(4, .int r9), (6, .int r9), (0, .ref (ad 0)), (1, .int v1), (3, .int v3), (5, .int v5)]) hx hb dX9_next_61 hl (by decide) rfl (fun ls hl => ?_)
        refine lv_iload hx hb dX9_next_63 (lv_at hl 5 rfl) ?_
        refine lv_istore_n (lv' := [(3, .int v5), (4, .int r9), (6, .int r9), (0, .ref (ad 0)), (1, .int v1), (5, .int v5)]) hx hb dX9_next_65 rfl hl (by decide) rfl (fun ls hl => ?_)
        obtain ⟨x12, ex12, h⟩ := ul_of h
        refine lv_iinc (v := x12) (lv' := [(5, .int x12), (3, .int v5), (4, .int r9), (6, .int r9), (0, .ref (ad 0)), (1, .int v1)]) hx hb dX9_next_66 hl (k := 5) rfl (by rw [ex12]; rfl) (by decide) rfl (fun ls hl => ?_)
        refine lv_goto (tgt := 36) hx hb dX9_next_69 (by decide) ?_
        exact ih σ10 v1 v5 r9 x12 h H locs ls G (lv_sub hl [4, 5, 1, 2, 0] rfl)
set_option maxHeartbeats 4000000 in
set_option maxRecDepth 100000 in
theorem c_X9_next (l : Launch) (D : va_G) (ad : Nat → Nat) (cs : Nat → ClassId) (J : uJ 99 ad) (σ : St) (v1 : Int32) (v2 : Int32) (r : Int32) (σ' : St) (h : f_X9_next σ v1 v2 = some (r, σ')) : uMi l yX9_next wsX9_next { frames := 4, cells := 0, slots := 0, locals := 106 } D vwCl (tyX cs) 99 ad (enX ad cs) [.ref (ad 0), .int v1, .int v2] σ r σ' := by
  refine u_met (Qf := uQi D vwCl 99 ad (enX ad cs) r σ') (cc := cX9_next) (maxL := 7) (ret := (some .int)) (lv := [(0, .ref (ad 0)), (1, .int v1), (2, .int v2)]) J (by decide) rfl (Nat.le_of_ble_eq_true rfl) rfl rfl rfl ?_
  intro p e s m args below meth c ls hx hb C hr hlk G hl
  unfold f_X9_next at h
  obtain ⟨H, eH⟩ : ∃ H, H = s.heap := ⟨_, rfl⟩
  obtain ⟨locs, eL⟩ : ∃ locs : List Loc, locs = [] := ⟨_, rfl⟩
  refine u_start eH eL G ?_
  clear G eH eL
  intro G
  refine lv_iload_n hx hb dX9_next_0 rfl (lv_at hl 1 rfl) ?_
  obtain ⟨r1, σ2, er1, h⟩ := ub_of h
  refine u_callSi (As := [.int v1]) (rest := []) C G (c_X9_isLine l D ad cs C.2.2.1 σ v1 r1 σ2 er1) (va_cwS 1 C.1.2.2.2.2 gX9_next_X9_isLine rfl rfl rfl (by decide +kernel) ⟨Nat.le_of_ble_eq_true rfl, Nat.le_of_ble_eq_true rfl⟩) rfl hl rfl (Nat.le_of_ble_eq_true rfl) dX9_next_1 (fun H locs G => ?_)
  refine lv_if_eq (tgt := 14) hx hb dX9_next_4 (by decide) (fun q => ?_) (fun q => ?_)
  · have h := u_pos q h
    refine lv_iconst (v := (-1)) hx hb dX9_next_14 (by decide) ?_
    obtain ⟨rfl, rfl⟩ := u_end h
    exact u_iret hx hb hr hlk G dX9_next_15
  · have h := u_neg q h
    refine lv_iload_n hx hb dX9_next_7 rfl (lv_at hl 2 rfl) ?_
    obtain ⟨r3, σ4, er3, h⟩ := ub_of h
    refine u_callSi (As := [.int v2]) (rest := []) C G (c_X9_isColour l D ad cs C.2.2.1 σ2 v2 r3 σ4 er3) (va_cwS 1 C.1.2.2.2.2 gX9_next_X9_isColour rfl rfl rfl (by decide +kernel) ⟨Nat.le_of_ble_eq_true rfl, Nat.le_of_ble_eq_true rfl⟩) rfl hl rfl (Nat.le_of_ble_eq_true rfl) dX9_next_8 (fun H locs G => ?_)
    refine lv_if_ne (tgt := 16) hx hb dX9_next_11 (by decide) (fun q => ?_) (fun q => ?_)
    · have h := u_neg q h
      refine lv_aload_n hx hb dX9_next_16 rfl (lv_at hl 0 rfl) ?_
      refine lv_aload_n hx hb dX9_next_17 rfl (lv_at hl 0 rfl) ?_
      refine u_get (v := .ref (ad 34)) C G obX_0 (ci := 9) (N := 14) (Cn := RX9) (T := TX9) rfl fi_X9_next_9 2 (by decide) (by decide +kernel) rfl dX9_next_18 ?_
      refine lv_iload_n hx hb dX9_next_21 rfl (lv_at hl 1 rfl) ?_
      obtain ⟨g5, h⟩ := ui_of h
      refine u_aald C G rrX_34 (t0 := 3) rfl rfl g5 dX9_next_22 (fun b6 => ?_)
      refine lv_iload_n hx hb dX9_next_23 rfl (lv_at hl 2 rfl) ?_
      obtain ⟨r7, σ8, er7, h⟩ := ub_of h
      refine u_callVv (As := [.ref (ad (35 + 9 * v1.toNatClampNeg)), .int v2]) (rest := []) C G (c_X9_splitRivals l D ad cs C.2.2.1 σ4 v1.toNatClampNeg v2 b6 r7 σ8 er7) (cwV 2 C.1.2.2.2.2 gX9_next_X9_splitRivals rfl rfl rfl (by decide +kernel) ⟨Nat.le_of_ble_eq_true rfl, Nat.le_of_ble_eq_true rfl⟩) obX_0 (ci := 9) (T := TX9) rfl rfl hl rfl (Nat.le_of_ble_eq_true rfl) dX9_next_24 (fun H locs G => ?_)
      refine lv_bipush (v := (-9)) hx hb dX9_next_27 (by decide) ?_
      refine lv_istore_n (lv' := [(3, .int (-9)), (0, .ref (ad 0)), (1, .int v1), (2, .int v2)]) hx hb dX9_next_29 rfl hl (by decide) rfl (fun ls hl => ?_)
      refine lv_iconst (v := 0) hx hb dX9_next_30 (by decide) ?_
      refine lv_istore (lv' := [(4, .int 0), (3, .int (-9)), (0, .ref (ad 0)), (1, .int v1), (2, .int v2)]) hx hb dX9_next_31 hl (by decide) rfl (fun ls hl => ?_)
      refine lv_iconst (v := 0) hx hb dX9_next_33 (by decide) ?_
      refine lv_istore (lv' := [(5, .int 0), (4, .int 0), (3, .int (-9)), (0, .ref (ad 0)), (1, .int v1), (2, .int v2)]) hx hb dX9_next_34 hl (by decide) rfl (fun ls hl => ?_)
      exact w_X9_next_36 C hr hlk fu σ8 v1 (-9) 0 0 h H locs ls G (lv_sub hl [3, 4, 2, 1, 0] rfl)
    · have h := u_pos q h
      refine lv_iconst (v := (-1)) hx hb dX9_next_14 (by decide) ?_
      obtain ⟨rfl, rfl⟩ := u_end h
      exact u_iret hx hb hr hlk G dX9_next_15
/-! X9_read -/
def f_X9_read (σ : St) (v1 : Int32) (v2 : Int32) : Option (Int32 × St) :=
  ub (f_X9_isLine σ v1) fun r1 σ2 =>
  if r1 = 0 then
    some (((-1) : Int32), σ2)
  else
    ub (f_X8_isNumber σ2 v2) fun r3 σ4 =>
    if r3 = 0 then
      some (((-1) : Int32), σ4)
    else
      ub (f_X0_isFull σ4) fun r5 σ6 =>
      if r5 = 0 then
        ui v2 16 <|
        if (σ6 17 v2.toNatClampNeg) = 0 then
          ub (f_X0_add σ6 v1 v2) fun r8 σ9 =>
          some ((σ9 80 2), σ9)
        else
          ub (f_X9_refuse σ6 (1 : Int32)) fun r10 σ11 =>
          some (r10, σ11)
      else
        some (((-2) : Int32), σ6)
theorem fi_X9_read_0 : ∀ w ∈ u_ws RX0 TX0 3, w ∈ wsX9_read := by decide +kernel
theorem fi_X9_read_8 : ∀ w ∈ u_ws RX8 TX8 10, w ∈ wsX9_read := by decide +kernel
theorem fi_X9_read_9 : ∀ w ∈ u_ws RX9 TX9 14, w ∈ wsX9_read := by decide +kernel
set_option maxHeartbeats 4000000 in
set_option maxRecDepth 100000 in
theorem c_X9_read (l : Launch) (D : va_G) (ad : Nat → Nat) (cs : Nat → ClassId) (J : uJ 99 ad) (σ : St) (v1 : Int32) (v2 : Int32) (r : Int32) (σ' : St) (h : f_X9_read σ v1 v2 = some (r, σ')) : uMi l yX9_read wsX9_read { frames := 1, cells := 0, slots := 0, locals := 22 } D vwCl (tyX cs) 99 ad (enX ad cs) [.ref (ad 0), .int v1, .int v2] σ r σ' := by
  refine u_met (Qf := uQi D vwCl 99 ad (enX ad cs) r σ') (cc := cX9_read) (maxL := 3) (ret := (some .int)) (lv := [(0, .ref (ad 0)), (1, .int v1), (2, .int v2)]) J (by decide) rfl (Nat.le_of_ble_eq_true rfl) rfl rfl rfl ?_
  intro p e s m args below meth c ls hx hb C hr hlk G hl
  unfold f_X9_read at h
  obtain ⟨H, eH⟩ : ∃ H, H = s.heap := ⟨_, rfl⟩
  obtain ⟨locs, eL⟩ : ∃ locs : List Loc, locs = [] := ⟨_, rfl⟩
  refine u_start eH eL G ?_
  clear G eH eL
  intro G
  refine lv_iload_n hx hb dX9_read_0 rfl (lv_at hl 1 rfl) ?_
  obtain ⟨r1, σ2, er1, h⟩ := ub_of h
  refine u_callSi (As := [.int v1]) (rest := []) C G (c_X9_isLine l D ad cs C.2.2.1 σ v1 r1 σ2 er1) (va_cwS 1 C.1.2.2.2.2 gX9_read_X9_isLine rfl rfl rfl (by decide +kernel) ⟨Nat.le_of_ble_eq_true rfl, Nat.le_of_ble_eq_true rfl⟩) rfl hl rfl (Nat.le_of_ble_eq_true rfl) dX9_read_1 (fun H locs G => ?_)
  refine lv_if_eq (tgt := 18) hx hb dX9_read_4 (by decide) (fun q => ?_) (fun q => ?_)
  · have h := u_pos q h
    refine lv_iconst (v := (-1)) hx hb dX9_read_18 (by decide) ?_
    obtain ⟨rfl, rfl⟩ := u_end h
    exact u_iret hx hb hr hlk G dX9_read_19
  · have h := u_neg q h
    refine lv_aload_n hx hb dX9_read_7 rfl (lv_at hl 0 rfl) ?_
    refine u_get (v := .ref (ad 8)) C G obX_0 (ci := 9) (N := 14) (Cn := RX9) (T := TX9) rfl fi_X9_read_9 1 (by decide) (by decide +kernel) rfl dX9_read_8 ?_
    refine lv_iload_n hx hb dX9_read_11 rfl (lv_at hl 2 rfl) ?_
    obtain ⟨r3, σ4, er3, h⟩ := ub_of h
    refine u_callVi (As := [.int v2]) (rest := []) C G (c_X8_isNumber l D ad cs C.2.2.1 σ2 v2 r3 σ4 er3) (cwV 1 C.1.2.2.2.2 gX9_read_X8_isNumber rfl rfl rfl (by decide +kernel) ⟨Nat.le_of_ble_eq_true rfl, Nat.le_of_ble_eq_true rfl⟩) obX_8 (ci := 8) (T := TX8) rfl rfl hl rfl (Nat.le_of_ble_eq_true rfl) dX9_read_12 (fun H locs G => ?_)
    refine lv_if_ne (tgt := 20) hx hb dX9_read_15 (by decide) (fun q => ?_) (fun q => ?_)
    · have h := u_neg q h
      refine lv_aload_n hx hb dX9_read_20 rfl (lv_at hl 0 rfl) ?_
      refine u_get (v := .ref (ad 80)) C G obX_0 (ci := 9) (N := 14) (Cn := RX9) (T := TX9) rfl fi_X9_read_9 5 (by decide) (by decide +kernel) rfl dX9_read_21 ?_
      obtain ⟨r5, σ6, er5, h⟩ := ub_of h
      refine u_callVi (As := []) (rest := []) C G (c_X0_isFull l D ad cs C.2.2.1 σ4 r5 σ6 er5) (cwV 0 C.1.2.2.2.2 gX9_read_X0_isFull rfl rfl rfl (by decide +kernel) ⟨Nat.le_of_ble_eq_true rfl, Nat.le_of_ble_eq_true rfl⟩) obX_80 (ci := 0) (T := TX0) rfl rfl hl rfl (Nat.le_of_ble_eq_true rfl) dX9_read_24 (fun H locs G => ?_)
      refine lv_if_eq (tgt := 33) hx hb dX9_read_27 (by decide) (fun q => ?_) (fun q => ?_)
      · have h := u_pos q h
        refine lv_aload_n hx hb dX9_read_33 rfl (lv_at hl 0 rfl) ?_
        refine u_get (v := .ref (ad 8)) C G obX_0 (ci := 9) (N := 14) (Cn := RX9) (T := TX9) rfl fi_X9_read_9 1 (by decide) (by decide +kernel) rfl dX9_read_34 ?_
        refine u_get (v := .ref (ad 17)) C G obX_8 (ci := 8) (N := 10) (Cn := RX8) (T := TX8) rfl fi_X9_read_8 8 (by decide) (by decide +kernel) rfl dX9_read_37 ?_
        refine lv_iload_n hx hb dX9_read_40 rfl (lv_at hl 2 rfl) ?_
        obtain ⟨g7, h⟩ := ui_of h
        refine u_zald C G arX_17 (t0 := 2) rfl g7 dX9_read_41 ?_
        refine lv_if_eq (tgt := 51) hx hb dX9_read_42 (by decide) (fun q => ?_) (fun q => ?_)
        · have h := u_pos q h
          refine lv_aload_n hx hb dX9_read_51 rfl (lv_at hl 0 rfl) ?_
          refine u_get (v := .ref (ad 80)) C G obX_0 (ci := 9) (N := 14) (Cn := RX9) (T := TX9) rfl fi_X9_read_9 5 (by decide) (by decide +kernel) rfl dX9_read_52 ?_
          refine lv_iload_n hx hb dX9_read_55 rfl (lv_at hl 1 rfl) ?_
          refine lv_iload_n hx hb dX9_read_56 rfl (lv_at hl 2 rfl) ?_
          obtain ⟨r8, σ9, er8, h⟩ := ub_of h
          refine u_callVv (As := [.int v1, .int v2]) (rest := []) C G (c_X0_add l D ad cs C.2.2.1 σ6 v1 v2 r8 σ9 er8) (cwV 2 C.1.2.2.2.2 gX9_read_X0_add rfl rfl rfl (by decide +kernel) ⟨Nat.le_of_ble_eq_true rfl, Nat.le_of_ble_eq_true rfl⟩) obX_80 (ci := 0) (T := TX0) rfl rfl hl rfl (Nat.le_of_ble_eq_true rfl) dX9_read_57 (fun H locs G => ?_)
          refine lv_aload_n hx hb dX9_read_60 rfl (lv_at hl 0 rfl) ?_
          refine u_get (v := .ref (ad 80)) C G obX_0 (ci := 9) (N := 14) (Cn := RX9) (T := TX9) rfl fi_X9_read_9 5 (by decide) (by decide +kernel) rfl dX9_read_61 ?_
          refine u_get (v := .int (σ9 80 2)) C G obX_80 (ci := 0) (N := 3) (Cn := RX0) (T := TX0) rfl fi_X9_read_0 2 (by decide) (by decide +kernel) rfl dX9_read_64 ?_
          obtain ⟨rfl, rfl⟩ := u_end h
          exact u_iret hx hb hr hlk G dX9_read_67
        · have h := u_neg q h
          refine lv_aload_n hx hb dX9_read_45 rfl (lv_at hl 0 rfl) ?_
          refine lv_iconst (v := 1) hx hb dX9_read_46 (by decide) ?_
          obtain ⟨r10, σ11, er10, h⟩ := ub_of h
          refine u_callVi (As := [.int 1]) (rest := []) C G (c_X9_refuse l D ad cs C.2.2.1 σ6 (1 : Int32) r10 σ11 er10) (cwV 1 C.1.2.2.2.2 gX9_read_X9_refuse rfl rfl rfl (by decide +kernel) ⟨Nat.le_of_ble_eq_true rfl, Nat.le_of_ble_eq_true rfl⟩) obX_0 (ci := 9) (T := TX9) rfl rfl hl rfl (Nat.le_of_ble_eq_true rfl) dX9_read_47 (fun H locs G => ?_)
          obtain ⟨rfl, rfl⟩ := u_end h
          exact u_iret hx hb hr hlk G dX9_read_50
      · have h := u_neg q h
        refine lv_bipush (v := (-2)) hx hb dX9_read_30 (by decide) ?_
        obtain ⟨rfl, rfl⟩ := u_end h
        exact u_iret hx hb hr hlk G dX9_read_32
    · have h := u_pos q h
      refine lv_iconst (v := (-1)) hx hb dX9_read_18 (by decide) ?_
      obtain ⟨rfl, rfl⟩ := u_end h
      exact u_iret hx hb hr hlk G dX9_read_19
/-! X9_spread -/
def f_X9_spread_22 : Nat → St → Int32 → Int32 → Int32 → Int32 → Option (Int32 × St)
  | 0, _, _, _, _, _ => none
  | fuel + 1, σ, v1, v2, v3, v4 =>
    if (σ 8 9) ≤ v4 then
      some (v2, σ)
    else
      ub (f_X0_timesRead σ v1 v4) fun r4 σ5 =>
      if r4 ≤ 0 then
        if r4 ≤ v3 then
          ul (v4 + 1) fun x6 =>
          f_X9_spread_22 fuel σ5 v1 v2 v3 x6
        else
          ul (us σ5 0 13 v4) fun σ7 =>
          ul (v4 + 1) fun x8 =>
          f_X9_spread_22 fuel σ7 v1 v2 r4 x8
      else
        ul (v2 + 1) fun x9 =>
        if r4 ≤ v3 then
          ul (v4 + 1) fun x10 =>
          f_X9_spread_22 fuel σ5 v1 x9 v3 x10
        else
          ul (us σ5 0 13 v4) fun σ11 =>
          ul (v4 + 1) fun x12 =>
          f_X9_spread_22 fuel σ11 v1 x9 r4 x12
def f_X9_spread (σ : St) (v1 : Int32) : Option (Int32 × St) :=
  ub (f_X9_isLine σ v1) fun r1 σ2 =>
  if r1 = 0 then
    some (((-1) : Int32), σ2)
  else
    ul (us σ2 0 13 (-9)) fun σ3 =>
    f_X9_spread_22 fu σ3 v1 0 0 0
theorem fi_X9_spread_8 : ∀ w ∈ u_ws RX8 TX8 10, w ∈ wsX9_spread := by decide +kernel
theorem fi_X9_spread_9 : ∀ w ∈ u_ws RX9 TX9 14, w ∈ wsX9_spread := by decide +kernel
set_option maxHeartbeats 4000000 in
set_option maxRecDepth 100000 in
theorem w_X9_spread_22 {p : Program} {l : Launch} {e : Env} {s : State} {m : MethodId} {args : Array Value} {below : List Frame} {meth : Method} {c : Code} {D : va_G} {ad : Nat → Nat} {cs : Nat → ClassId} (C : uC p { frames := 1, cells := 0, slots := 0, locals := 24 } s m args c cX9_spread 6 wsX9_spread RX9 D vwCl (tyX cs) 99 ad (uAd 99 ad s.heap.size) 0 0) (hr : meth.sig.returnType = (some .int)) (hlk : meth.locks = false) {r : Int32} {σ' : St} :
    ∀ (n : Nat) (σ : St) (v1 : Int32) (v2 : Int32) (v3 : Int32) (v4 : Int32), f_X9_spread_22 n σ v1 v2 v3 v4 = some (r, σ') → ∀ (H : Heap) (locs : List Loc) (ls : Array Slot), uG D vwCl 99 ad (enX ad cs) (uAd 99 ad s.heap.size) s σ H locs → lv_has ls 6 [(0, .ref (ad 0)), (1, .int v1), (2, .int v2), (3, .int v3), (4, .int v4)] → W p l e { frames := 1, cells := 0, slots := 0, locals := 24 } s m args below meth c H locs 0 0 (MQ below (uQi D vwCl 99 ad (enX ad cs) r σ' s.heap.size) args s 0 0 (uAd 99 ad s.heap.size)) (F0 m 22 ls []) := by
  have hx := C.1.1
  have hb := C.1.2.1
  intro n
  induction n with
  | zero => intro σ v1 v2 v3 v4  h; exact absurd h (by simp [f_X9_spread_22])
  | succ fuel ih =>
    intro σ v1 v2 v3 v4  h H locs ls G hl
    rw [f_X9_spread_22] at h
    refine lv_iload hx hb dX9_spread_22 (lv_at hl 4 rfl) ?_
    refine lv_aload_n hx hb dX9_spread_24 rfl (lv_at hl 0 rfl) ?_
    refine u_get (v := .ref (ad 8)) C G obX_0 (ci := 9) (N := 14) (Cn := RX9) (T := TX9) rfl fi_X9_spread_9 1 (by decide) (by decide +kernel) rfl dX9_spread_25 ?_
    refine u_get (v := .int (σ 8 9)) C G obX_8 (ci := 8) (N := 10) (Cn := RX8) (T := TX8) rfl fi_X9_spread_8 9 (by decide) (by decide +kernel) rfl dX9_spread_28 ?_
    refine lv_icmp_ge (tgt := 75) hx hb dX9_spread_31 (by decide) (fun q => ?_) (fun q => ?_)
    · have h := u_pos q h
      refine lv_iload_n hx hb dX9_spread_75 rfl (lv_at hl 2 rfl) ?_
      obtain ⟨rfl, rfl⟩ := u_end h
      exact u_iret hx hb hr hlk G dX9_spread_76
    · have h := u_neg q h
      refine lv_aload_n hx hb dX9_spread_34 rfl (lv_at hl 0 rfl) ?_
      refine u_get (v := .ref (ad 80)) C G obX_0 (ci := 9) (N := 14) (Cn := RX9) (T := TX9) rfl fi_X9_spread_9 5 (by decide) (by decide +kernel) rfl dX9_spread_35 ?_
      refine lv_iload_n hx hb dX9_spread_38 rfl (lv_at hl 1 rfl) ?_
      refine lv_iload hx hb dX9_spread_39 (lv_at hl 4 rfl) ?_
      obtain ⟨r4, σ5, er4, h⟩ := ub_of h
      refine u_callVi (As := [.int v1, .int v4]) (rest := []) C G (c_X0_timesRead l D ad cs C.2.2.1 σ v1 v4 r4 σ5 er4) (cwV 2 C.1.2.2.2.2 gX9_spread_X0_timesRead rfl rfl rfl (by decide +kernel) ⟨Nat.le_of_ble_eq_true rfl, Nat.le_of_ble_eq_true rfl⟩) obX_80 (ci := 0) (T := TX0) rfl rfl hl rfl (Nat.le_of_ble_eq_true rfl) dX9_spread_41 (fun H locs G => ?_)
      refine lv_istore (lv' := [(5, .int r4), (0, .ref (ad 0)), (1, .int v1), (2, .int v2), (3, .int v3), (4, .int v4)]) hx hb dX9_spread_44 hl (by decide) rfl (fun ls hl => ?_)
      refine lv_iload hx hb dX9_spread_46 (lv_at hl 0 rfl) ?_
      refine lv_if_le (tgt := 54) hx hb dX9_spread_48 (by decide) (fun q => ?_) (fun q => ?_)
      · have h := u_pos q h
        refine lv_iload hx hb dX9_spread_54 (lv_at hl 0 rfl) ?_
        refine lv_iload_n hx hb dX9_spread_56 rfl (lv_at hl 4 rfl) ?_
        refine lv_icmp_le (tgt := 69) hx hb dX9_spread_57 (by decide) (fun q => ?_) (fun q => ?_)
        · have h := u_pos q h
          obtain ⟨x6, ex6, h⟩ := ul_of h
          refine lv_iinc (v := x6) (lv' := [(4, .int x6), (5, .int r4), (0, .ref (ad 0)), (1, .int v1), (2, .int v2), (3, .int v3)]) hx hb dX9_spread_69 hl (k := 5) rfl (by rw [ex6]; rfl) (by decide) rfl (fun ls hl => ?_)
          refine lv_goto (tgt := 22) hx hb dX9_spread_72 (by decide) ?_
          exact ih σ5 v1 v2 v3 x6 h H locs ls G (lv_sub hl [2, 3, 4, 5, 0] rfl)
        · have h := u_neg q h
          refine lv_iload hx hb dX9_spread_60 (lv_at hl 0 rfl) ?_
          refine lv_istore_n (lv' := [(3, .int r4), (5, .int r4), (0, .ref (ad 0)), (1, .int v1), (2, .int v2), (4, .int v4)]) hx hb dX9_spread_62 rfl hl (by decide) rfl (fun ls hl => ?_)
          refine lv_aload_n hx hb dX9_spread_63 rfl (lv_at hl 2 rfl) ?_
          refine lv_iload hx hb dX9_spread_64 (lv_at hl 5 rfl) ?_
          refine u_put (x := v4) (ty := .int) C G obX_0 (ci := 9) (N := 14) (Cn := RX9) (T := TX9) rfl fi_X9_spread_9 tyX9 tyX9_ok nmX9 13 (by decide) (by decide +kernel) rfl (by decide +kernel) rfl rfl (fun f => by simp) (fun f => rfl) dX9_spread_66 (fun H locs G => ?_)
          obtain ⟨σ7, eσ7, h⟩ := ul_of h
          replace G := uG_eq eσ7 G
          obtain ⟨x8, ex8, h⟩ := ul_of h
          refine lv_iinc (v := x8) (lv' := [(4, .int x8), (3, .int r4), (5, .int r4), (0, .ref (ad 0)), (1, .int v1), (2, .int v2)]) hx hb dX9_spread_69 hl (k := 5) rfl (by rw [ex8]; rfl) (by decide) rfl (fun ls hl => ?_)
          refine lv_goto (tgt := 22) hx hb dX9_spread_72 (by decide) ?_
          exact ih σ7 v1 v2 r4 x8 h H locs ls G (lv_sub hl [3, 4, 5, 1, 0] rfl)
      · have h := u_neg q h
        obtain ⟨x9, ex9, h⟩ := ul_of h
        refine lv_iinc (v := x9) (lv' := [(2, .int x9), (5, .int r4), (0, .ref (ad 0)), (1, .int v1), (3, .int v3), (4, .int v4)]) hx hb dX9_spread_51 hl (k := 3) rfl (by rw [ex9]; rfl) (by decide) rfl (fun ls hl => ?_)
        refine lv_iload hx hb dX9_spread_54 (lv_at hl 1 rfl) ?_
        refine lv_iload_n hx hb dX9_spread_56 rfl (lv_at hl 4 rfl) ?_
        refine lv_icmp_le (tgt := 69) hx hb dX9_spread_57 (by decide) (fun q => ?_) (fun q => ?_)
        · have h := u_pos q h
          obtain ⟨x10, ex10, h⟩ := ul_of h
          refine lv_iinc (v := x10) (lv' := [(4, .int x10), (2, .int x9), (5, .int r4), (0, .ref (ad 0)), (1, .int v1), (3, .int v3)]) hx hb dX9_spread_69 hl (k := 5) rfl (by rw [ex10]; rfl) (by decide) rfl (fun ls hl => ?_)
          refine lv_goto (tgt := 22) hx hb dX9_spread_72 (by decide) ?_
          exact ih σ5 v1 x9 v3 x10 h H locs ls G (lv_sub hl [3, 4, 1, 5, 0] rfl)
        · have h := u_neg q h
          refine lv_iload hx hb dX9_spread_60 (lv_at hl 1 rfl) ?_
          refine lv_istore_n (lv' := [(3, .int r4), (2, .int x9), (5, .int r4), (0, .ref (ad 0)), (1, .int v1), (4, .int v4)]) hx hb dX9_spread_62 rfl hl (by decide) rfl (fun ls hl => ?_)
          refine lv_aload_n hx hb dX9_spread_63 rfl (lv_at hl 3 rfl) ?_
          refine lv_iload hx hb dX9_spread_64 (lv_at hl 5 rfl) ?_
          refine u_put (x := v4) (ty := .int) C G obX_0 (ci := 9) (N := 14) (Cn := RX9) (T := TX9) rfl fi_X9_spread_9 tyX9 tyX9_ok nmX9 13 (by decide) (by decide +kernel) rfl (by decide +kernel) rfl rfl (fun f => by simp) (fun f => rfl) dX9_spread_66 (fun H locs G => ?_)
          obtain ⟨σ11, eσ11, h⟩ := ul_of h
          replace G := uG_eq eσ11 G
          obtain ⟨x12, ex12, h⟩ := ul_of h
          refine lv_iinc (v := x12) (lv' := [(4, .int x12), (3, .int r4), (2, .int x9), (5, .int r4), (0, .ref (ad 0)), (1, .int v1)]) hx hb dX9_spread_69 hl (k := 5) rfl (by rw [ex12]; rfl) (by decide) rfl (fun ls hl => ?_)
          refine lv_goto (tgt := 22) hx hb dX9_spread_72 (by decide) ?_
          exact ih σ11 v1 x9 r4 x12 h H locs ls G (lv_sub hl [4, 5, 2, 1, 0] rfl)
set_option maxHeartbeats 4000000 in
set_option maxRecDepth 100000 in
theorem c_X9_spread (l : Launch) (D : va_G) (ad : Nat → Nat) (cs : Nat → ClassId) (J : uJ 99 ad) (σ : St) (v1 : Int32) (r : Int32) (σ' : St) (h : f_X9_spread σ v1 = some (r, σ')) : uMi l yX9_spread wsX9_spread { frames := 1, cells := 0, slots := 0, locals := 24 } D vwCl (tyX cs) 99 ad (enX ad cs) [.ref (ad 0), .int v1] σ r σ' := by
  refine u_met (Qf := uQi D vwCl 99 ad (enX ad cs) r σ') (cc := cX9_spread) (maxL := 6) (ret := (some .int)) (lv := [(0, .ref (ad 0)), (1, .int v1)]) J (by decide) rfl (Nat.le_of_ble_eq_true rfl) rfl rfl rfl ?_
  intro p e s m args below meth c ls hx hb C hr hlk G hl
  unfold f_X9_spread at h
  obtain ⟨H, eH⟩ : ∃ H, H = s.heap := ⟨_, rfl⟩
  obtain ⟨locs, eL⟩ : ∃ locs : List Loc, locs = [] := ⟨_, rfl⟩
  refine u_start eH eL G ?_
  clear G eH eL
  intro G
  refine lv_iload_n hx hb dX9_spread_0 rfl (lv_at hl 1 rfl) ?_
  obtain ⟨r1, σ2, er1, h⟩ := ub_of h
  refine u_callSi (As := [.int v1]) (rest := []) C G (c_X9_isLine l D ad cs C.2.2.1 σ v1 r1 σ2 er1) (va_cwS 1 C.1.2.2.2.2 gX9_spread_X9_isLine rfl rfl rfl (by decide +kernel) ⟨Nat.le_of_ble_eq_true rfl, Nat.le_of_ble_eq_true rfl⟩) rfl hl rfl (Nat.le_of_ble_eq_true rfl) dX9_spread_1 (fun H locs G => ?_)
  refine lv_if_ne (tgt := 9) hx hb dX9_spread_4 (by decide) (fun q => ?_) (fun q => ?_)
  · have h := u_neg q h
    refine lv_iconst (v := 0) hx hb dX9_spread_9 (by decide) ?_
    refine lv_istore_n (lv' := [(2, .int 0), (0, .ref (ad 0)), (1, .int v1)]) hx hb dX9_spread_10 rfl hl (by decide) rfl (fun ls hl => ?_)
    refine lv_iconst (v := 0) hx hb dX9_spread_11 (by decide) ?_
    refine lv_istore_n (lv' := [(3, .int 0), (2, .int 0), (0, .ref (ad 0)), (1, .int v1)]) hx hb dX9_spread_12 rfl hl (by decide) rfl (fun ls hl => ?_)
    refine lv_aload_n hx hb dX9_spread_13 rfl (lv_at hl 2 rfl) ?_
    refine lv_bipush (v := (-9)) hx hb dX9_spread_14 (by decide) ?_
    refine u_put (x := (-9)) (ty := .int) C G obX_0 (ci := 9) (N := 14) (Cn := RX9) (T := TX9) rfl fi_X9_spread_9 tyX9 tyX9_ok nmX9 13 (by decide) (by decide +kernel) rfl (by decide +kernel) rfl rfl (fun f => by simp) (fun f => rfl) dX9_spread_16 (fun H locs G => ?_)
    obtain ⟨σ3, eσ3, h⟩ := ul_of h
    replace G := uG_eq eσ3 G
    refine lv_iconst (v := 0) hx hb dX9_spread_19 (by decide) ?_
    refine lv_istore (lv' := [(4, .int 0), (3, .int 0), (2, .int 0), (0, .ref (ad 0)), (1, .int v1)]) hx hb dX9_spread_20 hl (by decide) rfl (fun ls hl => ?_)
    exact w_X9_spread_22 C hr hlk fu σ3 v1 0 0 0 h H locs ls G (lv_sub hl [3, 4, 2, 1, 0] rfl)
  · have h := u_pos q h
    refine lv_iconst (v := (-1)) hx hb dX9_spread_7 (by decide) ?_
    obtain ⟨rfl, rfl⟩ := u_end h
    exact u_iret hx hb hr hlk G dX9_spread_8
/-! X9_wall -/
def f_X9_wall (σ : St) (v1 : Int32) (v2 : Int32) (v3 : Int32) : Option (Int32 × St) :=
  if v1 < 0 then
    some (((-1) : Int32), σ)
  else
    if 1000 < v1 then
      some (((-1) : Int32), σ)
    else
      if v2 < 1 then
        some (((-1) : Int32), σ)
      else
        if v2 ≤ 1000 then
          ub (f_X7_isFull σ) fun r1 σ2 =>
          if r1 = 0 then
            ub (f_X7_add σ2 v1 v2 v3) fun r3 σ4 =>
            some (r3, σ4)
          else
            some (((-2) : Int32), σ2)
        else
          some (((-1) : Int32), σ)
theorem fi_X9_wall_9 : ∀ w ∈ u_ws RX9 TX9 14, w ∈ wsX9_wall := by decide +kernel
set_option maxHeartbeats 4000000 in
set_option maxRecDepth 100000 in
theorem c_X9_wall (l : Launch) (D : va_G) (ad : Nat → Nat) (cs : Nat → ClassId) (J : uJ 99 ad) (σ : St) (v1 : Int32) (v2 : Int32) (v3 : Int32) (r : Int32) (σ' : St) (h : f_X9_wall σ v1 v2 v3 = some (r, σ')) : uMi l yX9_wall wsX9_wall { frames := 1, cells := 0, slots := 0, locals := 23 } D vwCl (tyX cs) 99 ad (enX ad cs) [.ref (ad 0), .int v1, .int v2, .int v3] σ r σ' := by
  refine u_met (Qf := uQi D vwCl 99 ad (enX ad cs) r σ') (cc := cX9_wall) (maxL := 4) (ret := (some .int)) (lv := [(0, .ref (ad 0)), (1, .int v1), (2, .int v2), (3, .int v3)]) J (by decide) rfl (Nat.le_of_ble_eq_true rfl) rfl rfl rfl ?_
  intro p e s m args below meth c ls hx hb C hr hlk G hl
  unfold f_X9_wall at h
  obtain ⟨H, eH⟩ : ∃ H, H = s.heap := ⟨_, rfl⟩
  obtain ⟨locs, eL⟩ : ∃ locs : List Loc, locs = [] := ⟨_, rfl⟩
  refine u_start eH eL G ?_
  clear G eH eL
  intro G
  refine lv_iload_n hx hb dX9_wall_0 rfl (lv_at hl 1 rfl) ?_
  refine lv_if_lt (tgt := 23) hx hb dX9_wall_1 (by decide) (fun q => ?_) (fun q => ?_)
  · have h := u_pos q h
    refine lv_iconst (v := (-1)) hx hb dX9_wall_23 (by decide) ?_
    obtain ⟨rfl, rfl⟩ := u_end h
    exact u_iret hx hb hr hlk G dX9_wall_24
  · have h := u_neg q h
    refine lv_iload_n hx hb dX9_wall_4 rfl (lv_at hl 1 rfl) ?_
    refine lv_sipush (v := 1000) hx hb dX9_wall_5 (by decide) ?_
    refine lv_icmp_gt (tgt := 23) hx hb dX9_wall_8 (by decide) (fun q => ?_) (fun q => ?_)
    · have h := u_pos q h
      refine lv_iconst (v := (-1)) hx hb dX9_wall_23 (by decide) ?_
      obtain ⟨rfl, rfl⟩ := u_end h
      exact u_iret hx hb hr hlk G dX9_wall_24
    · have h := u_neg q h
      refine lv_iload_n hx hb dX9_wall_11 rfl (lv_at hl 2 rfl) ?_
      refine lv_iconst (v := 1) hx hb dX9_wall_12 (by decide) ?_
      refine lv_icmp_lt (tgt := 23) hx hb dX9_wall_13 (by decide) (fun q => ?_) (fun q => ?_)
      · have h := u_pos q h
        refine lv_iconst (v := (-1)) hx hb dX9_wall_23 (by decide) ?_
        obtain ⟨rfl, rfl⟩ := u_end h
        exact u_iret hx hb hr hlk G dX9_wall_24
      · have h := u_neg q h
        refine lv_iload_n hx hb dX9_wall_16 rfl (lv_at hl 2 rfl) ?_
        refine lv_sipush (v := 1000) hx hb dX9_wall_17 (by decide) ?_
        refine lv_icmp_le (tgt := 25) hx hb dX9_wall_20 (by decide) (fun q => ?_) (fun q => ?_)
        · have h := u_pos q h
          refine lv_aload_n hx hb dX9_wall_25 rfl (lv_at hl 0 rfl) ?_
          refine u_get (v := .ref (ad 83)) C G obX_0 (ci := 9) (N := 14) (Cn := RX9) (T := TX9) rfl fi_X9_wall_9 6 (by decide) (by decide +kernel) rfl dX9_wall_26 ?_
          obtain ⟨r1, σ2, er1, h⟩ := ub_of h
          refine u_callVi (As := []) (rest := []) C G (c_X7_isFull l D ad cs C.2.2.1 σ r1 σ2 er1) (cwV 0 C.1.2.2.2.2 gX9_wall_X7_isFull rfl rfl rfl (by decide +kernel) ⟨Nat.le_of_ble_eq_true rfl, Nat.le_of_ble_eq_true rfl⟩) obX_83 (ci := 7) (T := TX7) rfl rfl hl rfl (Nat.le_of_ble_eq_true rfl) dX9_wall_29 (fun H locs G => ?_)
          refine lv_if_eq (tgt := 38) hx hb dX9_wall_32 (by decide) (fun q => ?_) (fun q => ?_)
          · have h := u_pos q h
            refine lv_aload_n hx hb dX9_wall_38 rfl (lv_at hl 0 rfl) ?_
            refine u_get (v := .ref (ad 83)) C G obX_0 (ci := 9) (N := 14) (Cn := RX9) (T := TX9) rfl fi_X9_wall_9 6 (by decide) (by decide +kernel) rfl dX9_wall_39 ?_
            refine lv_iload_n hx hb dX9_wall_42 rfl (lv_at hl 1 rfl) ?_
            refine lv_iload_n hx hb dX9_wall_43 rfl (lv_at hl 2 rfl) ?_
            refine lv_iload_n hx hb dX9_wall_44 rfl (lv_at hl 3 rfl) ?_
            obtain ⟨r3, σ4, er3, h⟩ := ub_of h
            refine u_callVi (As := [.int v1, .int v2, .int v3]) (rest := []) C G (c_X7_add l D ad cs C.2.2.1 σ2 v1 v2 v3 r3 σ4 er3) (cwV 3 C.1.2.2.2.2 gX9_wall_X7_add rfl rfl rfl (by decide +kernel) ⟨Nat.le_of_ble_eq_true rfl, Nat.le_of_ble_eq_true rfl⟩) obX_83 (ci := 7) (T := TX7) rfl rfl hl rfl (Nat.le_of_ble_eq_true rfl) dX9_wall_45 (fun H locs G => ?_)
            obtain ⟨rfl, rfl⟩ := u_end h
            exact u_iret hx hb hr hlk G dX9_wall_48
          · have h := u_neg q h
            refine lv_bipush (v := (-2)) hx hb dX9_wall_35 (by decide) ?_
            obtain ⟨rfl, rfl⟩ := u_end h
            exact u_iret hx hb hr hlk G dX9_wall_37
        · have h := u_neg q h
          refine lv_iconst (v := (-1)) hx hb dX9_wall_23 (by decide) ?_
          obtain ⟨rfl, rfl⟩ := u_end h
          exact u_iret hx hb hr hlk G dX9_wall_24
/-! X9_keep -/
def f_X9_keep (σ : St) (v1 : Int32) : Option (Int32 × St) :=
  if v1 < 0 then
    some (((-1) : Int32), σ)
  else
    if v1 ≤ 12000 then
      ub (f_X7_bestSet σ v1) fun r1 σ2 =>
      ul (us σ2 0 13 r1) fun σ3 =>
      ub (f_X7_sumOf σ3 84 (σ3 0 13)) fun r4 σ5 =>
      some (r4, σ5)
    else
      some (((-1) : Int32), σ)
theorem fi_X9_keep_7 : ∀ w ∈ u_ws RX7 TX7 4, w ∈ wsX9_keep := by decide +kernel
theorem fi_X9_keep_9 : ∀ w ∈ u_ws RX9 TX9 14, w ∈ wsX9_keep := by decide +kernel
set_option maxHeartbeats 4000000 in
set_option maxRecDepth 100000 in
theorem c_X9_keep (l : Launch) (D : va_G) (ad : Nat → Nat) (cs : Nat → ClassId) (J : uJ 99 ad) (σ : St) (v1 : Int32) (r : Int32) (σ' : St) (h : f_X9_keep σ v1 = some (r, σ')) : uMi l yX9_keep wsX9_keep { frames := 2, cells := 0, slots := 0, locals := 51 } D vwCl (tyX cs) 99 ad (enX ad cs) [.ref (ad 0), .int v1] σ r σ' := by
  refine u_met (Qf := uQi D vwCl 99 ad (enX ad cs) r σ') (cc := cX9_keep) (maxL := 2) (ret := (some .int)) (lv := [(0, .ref (ad 0)), (1, .int v1)]) J (by decide) rfl (Nat.le_of_ble_eq_true rfl) rfl rfl rfl ?_
  intro p e s m args below meth c ls hx hb C hr hlk G hl
  unfold f_X9_keep at h
  obtain ⟨H, eH⟩ : ∃ H, H = s.heap := ⟨_, rfl⟩
  obtain ⟨locs, eL⟩ : ∃ locs : List Loc, locs = [] := ⟨_, rfl⟩
  refine u_start eH eL G ?_
  clear G eH eL
  intro G
  refine lv_iload_n hx hb dX9_keep_0 rfl (lv_at hl 1 rfl) ?_
  refine lv_if_lt (tgt := 11) hx hb dX9_keep_1 (by decide) (fun q => ?_) (fun q => ?_)
  · have h := u_pos q h
    refine lv_iconst (v := (-1)) hx hb dX9_keep_11 (by decide) ?_
    obtain ⟨rfl, rfl⟩ := u_end h
    exact u_iret hx hb hr hlk G dX9_keep_12
  · have h := u_neg q h
    refine lv_iload_n hx hb dX9_keep_4 rfl (lv_at hl 1 rfl) ?_
    refine lv_sipush (v := 12000) hx hb dX9_keep_5 (by decide) ?_
    refine lv_icmp_le (tgt := 13) hx hb dX9_keep_8 (by decide) (fun q => ?_) (fun q => ?_)
    · have h := u_pos q h
      refine lv_aload_n hx hb dX9_keep_13 rfl (lv_at hl 0 rfl) ?_
      refine lv_aload_n hx hb dX9_keep_14 rfl (lv_at hl 0 rfl) ?_
      refine u_get (v := .ref (ad 83)) C G obX_0 (ci := 9) (N := 14) (Cn := RX9) (T := TX9) rfl fi_X9_keep_9 6 (by decide) (by decide +kernel) rfl dX9_keep_15 ?_
      refine lv_iload_n hx hb dX9_keep_18 rfl (lv_at hl 1 rfl) ?_
      obtain ⟨r1, σ2, er1, h⟩ := ub_of h
      refine u_callVi (As := [.int v1]) (rest := [.ref (ad 0)]) C G (c_X7_bestSet l D ad cs C.2.2.1 σ v1 r1 σ2 er1) (cwV 1 C.1.2.2.2.2 gX9_keep_X7_bestSet rfl rfl rfl (by decide +kernel) ⟨Nat.le_of_ble_eq_true rfl, Nat.le_of_ble_eq_true rfl⟩) obX_83 (ci := 7) (T := TX7) rfl rfl hl rfl (Nat.le_of_ble_eq_true rfl) dX9_keep_19 (fun H locs G => ?_)
      refine u_put (x := r1) (ty := .int) C G obX_0 (ci := 9) (N := 14) (Cn := RX9) (T := TX9) rfl fi_X9_keep_9 tyX9 tyX9_ok nmX9 13 (by decide) (by decide +kernel) rfl (by decide +kernel) rfl rfl (fun f => by simp) (fun f => rfl) dX9_keep_22 (fun H locs G => ?_)
      obtain ⟨σ3, eσ3, h⟩ := ul_of h
      replace G := uG_eq eσ3 G
      refine lv_aload_n hx hb dX9_keep_25 rfl (lv_at hl 0 rfl) ?_
      refine u_get (v := .ref (ad 83)) C G obX_0 (ci := 9) (N := 14) (Cn := RX9) (T := TX9) rfl fi_X9_keep_9 6 (by decide) (by decide +kernel) rfl dX9_keep_26 ?_
      refine u_get (v := .ref (ad 84)) C G obX_83 (ci := 7) (N := 4) (Cn := RX7) (T := TX7) rfl fi_X9_keep_7 0 (by decide) (by decide +kernel) rfl dX9_keep_29 ?_
      refine lv_aload_n hx hb dX9_keep_32 rfl (lv_at hl 0 rfl) ?_
      refine u_get (v := .int (σ3 0 13)) C G obX_0 (ci := 9) (N := 14) (Cn := RX9) (T := TX9) rfl fi_X9_keep_9 13 (by decide) (by decide +kernel) rfl dX9_keep_33 ?_
      obtain ⟨r4, σ5, er4, h⟩ := ub_of h
      refine u_callSi (As := [.ref (ad 84), .int (σ3 0 13)]) (rest := []) C G (c_X7_sumOf l D ad cs C.2.2.1 σ3 84 (σ3 0 13) arX_84 r4 σ5 er4) (va_cwS 2 C.1.2.2.2.2 gX9_keep_X7_sumOf rfl rfl rfl (by decide +kernel) ⟨Nat.le_of_ble_eq_true rfl, Nat.le_of_ble_eq_true rfl⟩) rfl hl rfl (Nat.le_of_ble_eq_true rfl) dX9_keep_36 (fun H locs G => ?_)
      obtain ⟨rfl, rfl⟩ := u_end h
      exact u_iret hx hb hr hlk G dX9_keep_39
    · have h := u_neg q h
      refine lv_iconst (v := (-1)) hx hb dX9_keep_11 (by decide) ?_
      obtain ⟨rfl, rfl⟩ := u_end h
      exact u_iret hx hb hr hlk G dX9_keep_12
/-! X9_asked -/
def f_X9_asked (σ : St) : Option (Int32 × St) :=
  some ((σ 0 13), σ)
theorem fi_X9_asked_9 : ∀ w ∈ u_ws RX9 TX9 14, w ∈ wsX9_asked := by decide +kernel
set_option maxHeartbeats 4000000 in
set_option maxRecDepth 100000 in
theorem c_X9_asked (l : Launch) (D : va_G) (ad : Nat → Nat) (cs : Nat → ClassId) (J : uJ 99 ad) (σ : St) (r : Int32) (σ' : St) (h : f_X9_asked σ = some (r, σ')) : uMi l yX9_asked wsX9_asked { frames := 0, cells := 0, slots := 0, locals := 0 } D vwCl (tyX cs) 99 ad (enX ad cs) [.ref (ad 0)] σ r σ' := by
  refine u_met (Qf := uQi D vwCl 99 ad (enX ad cs) r σ') (cc := cX9_asked) (maxL := 1) (ret := (some .int)) (lv := [(0, .ref (ad 0))]) J (by decide) rfl (Nat.le_of_ble_eq_true rfl) rfl rfl rfl ?_
  intro p e s m args below meth c ls hx hb C hr hlk G hl
  unfold f_X9_asked at h
  obtain ⟨H, eH⟩ : ∃ H, H = s.heap := ⟨_, rfl⟩
  obtain ⟨locs, eL⟩ : ∃ locs : List Loc, locs = [] := ⟨_, rfl⟩
  refine u_start eH eL G ?_
  clear G eH eL
  intro G
  refine lv_aload_n hx hb dX9_asked_0 rfl (lv_at hl 0 rfl) ?_
  refine u_get (v := .int (σ 0 13)) C G obX_0 (ci := 9) (N := 14) (Cn := RX9) (T := TX9) rfl fi_X9_asked_9 13 (by decide) (by decide +kernel) rfl dX9_asked_1 ?_
  obtain ⟨rfl, rfl⟩ := u_end h
  exact u_iret hx hb hr hlk G dX9_asked_4
