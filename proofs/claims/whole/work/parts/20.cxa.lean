/-! X9_isCells -/
def f_X9_isCells (σ : St) (v0 : Int32) : Option (Int32 × St) :=
  if v0 < 0 then
    some ((0 : Int32), σ)
  else
    if 32767 < v0 then
      some ((0 : Int32), σ)
    else
      some ((1 : Int32), σ)
set_option maxHeartbeats 4000000 in
set_option maxRecDepth 100000 in
theorem c_X9_isCells (l : Launch) (D : va_G) (ad : Nat → Nat) (cs : Nat → ClassId) (J : uJ 99 ad) (σ : St) (v0 : Int32) (r : Int32) (σ' : St) (h : f_X9_isCells σ v0 = some (r, σ')) : uMi l yX9_isCells wsX9_isCells { frames := 0, cells := 0, slots := 0, locals := 0 } D vwCl (tyX cs) 99 ad (enX ad cs) [.int v0] σ r σ' := by
  refine u_met (Qf := uQi D vwCl 99 ad (enX ad cs) r σ') (cc := cX9_isCells) (maxL := 1) (ret := (some .boolean)) (lv := [(0, .int v0)]) J (by decide) rfl (Nat.le_of_ble_eq_true rfl) rfl rfl rfl ?_
  intro p e s m args below meth c ls hx hb C hr hlk G hl
  unfold f_X9_isCells at h
  obtain ⟨H, eH⟩ : ∃ H, H = s.heap := ⟨_, rfl⟩
  obtain ⟨locs, eL⟩ : ∃ locs : List Loc, locs = [] := ⟨_, rfl⟩
  refine u_start eH eL G ?_
  clear G eH eL
  intro G
  refine lv_iload_n hx hb dX9_isCells_0 rfl (lv_at hl 0 rfl) ?_
  refine lv_if_lt (tgt := 15) hx hb dX9_isCells_1 (by decide) (fun q => ?_) (fun q => ?_)
  · have h := u_pos q h
    refine lv_iconst (v := 0) hx hb dX9_isCells_15 (by decide) ?_
    obtain ⟨rfl, rfl⟩ := u_end h
    exact u_zret hx hb hr hlk G (by decide) dX9_isCells_16
  · have h := u_neg q h
    refine lv_iload_n hx hb dX9_isCells_4 rfl (lv_at hl 0 rfl) ?_
    refine lv_sipush (v := 32767) hx hb dX9_isCells_5 (by decide) ?_
    refine lv_icmp_gt (tgt := 15) hx hb dX9_isCells_8 (by decide) (fun q => ?_) (fun q => ?_)
    · have h := u_pos q h
      refine lv_iconst (v := 0) hx hb dX9_isCells_15 (by decide) ?_
      obtain ⟨rfl, rfl⟩ := u_end h
      exact u_zret hx hb hr hlk G (by decide) dX9_isCells_16
    · have h := u_neg q h
      refine lv_iconst (v := 1) hx hb dX9_isCells_11 (by decide) ?_
      refine lv_goto (tgt := 16) hx hb dX9_isCells_12 (by decide) ?_
      obtain ⟨rfl, rfl⟩ := u_end h
      exact u_zret hx hb hr hlk G (by decide) dX9_isCells_16
/-! X9_letter -/
def f_X9_letter (σ : St) (v1 : Int32) (v2 : Int32) : Option (Int32 × St) :=
  ub (f_X8_isLetter σ v1) fun r1 σ2 =>
  if r1 = 0 then
    some (((-1) : Int32), σ2)
  else
    ub (f_X9_isCells σ2 v2) fun r3 σ4 =>
    if r3 = 0 then
      some (((-1) : Int32), σ4)
    else
      ub (f_X8_changeStrokes σ4 v1 v2) fun r5 σ6 =>
      some (r5, σ6)
theorem fi_X9_letter_9 : ∀ w ∈ u_ws RX9 TX9 14, w ∈ wsX9_letter := by decide +kernel
set_option maxHeartbeats 4000000 in
set_option maxRecDepth 100000 in
theorem c_X9_letter (l : Launch) (D : va_G) (ad : Nat → Nat) (cs : Nat → ClassId) (J : uJ 99 ad) (σ : St) (v1 : Int32) (v2 : Int32) (r : Int32) (σ' : St) (h : f_X9_letter σ v1 v2 = some (r, σ')) : uMi l yX9_letter wsX9_letter { frames := 1, cells := 0, slots := 0, locals := 23 } D vwCl (tyX cs) 99 ad (enX ad cs) [.ref (ad 0), .int v1, .int v2] σ r σ' := by
  refine u_met (Qf := uQi D vwCl 99 ad (enX ad cs) r σ') (cc := cX9_letter) (maxL := 3) (ret := (some .int)) (lv := [(0, .ref (ad 0)), (1, .int v1), (2, .int v2)]) J (by decide) rfl (Nat.le_of_ble_eq_true rfl) rfl rfl rfl ?_
  intro p e s m args below meth c ls hx hb C hr hlk G hl
  unfold f_X9_letter at h
  obtain ⟨H, eH⟩ : ∃ H, H = s.heap := ⟨_, rfl⟩
  obtain ⟨locs, eL⟩ : ∃ locs : List Loc, locs = [] := ⟨_, rfl⟩
  refine u_start eH eL G ?_
  clear G eH eL
  intro G
  refine lv_iload_n hx hb dX9_letter_0 rfl (lv_at hl 1 rfl) ?_
  obtain ⟨r1, σ2, er1, h⟩ := ub_of h
  refine u_callSi (As := [.int v1]) (rest := []) C G (c_X8_isLetter l D ad cs C.2.2.1 σ v1 r1 σ2 er1) (va_cwS 1 C.1.2.2.2.2 gX9_letter_X8_isLetter rfl rfl rfl (by decide +kernel) ⟨Nat.le_of_ble_eq_true rfl, Nat.le_of_ble_eq_true rfl⟩) rfl hl rfl (Nat.le_of_ble_eq_true rfl) dX9_letter_1 (fun H locs G => ?_)
  refine lv_if_eq (tgt := 14) hx hb dX9_letter_4 (by decide) (fun q => ?_) (fun q => ?_)
  · have h := u_pos q h
    refine lv_iconst (v := (-1)) hx hb dX9_letter_14 (by decide) ?_
    obtain ⟨rfl, rfl⟩ := u_end h
    exact u_iret hx hb hr hlk G dX9_letter_15
  · have h := u_neg q h
    refine lv_iload_n hx hb dX9_letter_7 rfl (lv_at hl 2 rfl) ?_
    obtain ⟨r3, σ4, er3, h⟩ := ub_of h
    refine u_callSi (As := [.int v2]) (rest := []) C G (c_X9_isCells l D ad cs C.2.2.1 σ2 v2 r3 σ4 er3) (va_cwS 1 C.1.2.2.2.2 gX9_letter_X9_isCells rfl rfl rfl (by decide +kernel) ⟨Nat.le_of_ble_eq_true rfl, Nat.le_of_ble_eq_true rfl⟩) rfl hl rfl (Nat.le_of_ble_eq_true rfl) dX9_letter_8 (fun H locs G => ?_)
    refine lv_if_ne (tgt := 16) hx hb dX9_letter_11 (by decide) (fun q => ?_) (fun q => ?_)
    · have h := u_neg q h
      refine lv_aload_n hx hb dX9_letter_16 rfl (lv_at hl 0 rfl) ?_
      refine u_get (v := .ref (ad 8)) C G obX_0 (ci := 9) (N := 14) (Cn := RX9) (T := TX9) rfl fi_X9_letter_9 1 (by decide) (by decide +kernel) rfl dX9_letter_17 ?_
      refine lv_iload_n hx hb dX9_letter_20 rfl (lv_at hl 1 rfl) ?_
      refine lv_iload_n hx hb dX9_letter_21 rfl (lv_at hl 2 rfl) ?_
      obtain ⟨r5, σ6, er5, h⟩ := ub_of h
      refine u_callVi (As := [.int v1, .int v2]) (rest := []) C G (c_X8_changeStrokes l D ad cs C.2.2.1 σ4 v1 v2 r5 σ6 er5) (cwV 2 C.1.2.2.2.2 gX9_letter_X8_changeStrokes rfl rfl rfl (by decide +kernel) ⟨Nat.le_of_ble_eq_true rfl, Nat.le_of_ble_eq_true rfl⟩) obX_8 (ci := 8) (T := TX8) rfl rfl hl rfl (Nat.le_of_ble_eq_true rfl) dX9_letter_22 (fun H locs G => ?_)
      obtain ⟨rfl, rfl⟩ := u_end h
      exact u_iret hx hb hr hlk G dX9_letter_25
    · have h := u_pos q h
      refine lv_iconst (v := (-1)) hx hb dX9_letter_14 (by decide) ?_
      obtain ⟨rfl, rfl⟩ := u_end h
      exact u_iret hx hb hr hlk G dX9_letter_15
/-! X9_refuse -/
def f_X9_refuse (σ : St) (v1 : Int32) : Option (Int32 × St) :=
  ul (us σ 0 12 v1) fun σ1 =>
  ui v1 6 <|
  ui v1 6 <|
  ul (us σ1 98 v1.toNatClampNeg ((σ1 98 v1.toNatClampNeg) + 1)) fun σ4 =>
  some (((-3) : Int32), σ4)
theorem fi_X9_refuse_9 : ∀ w ∈ u_ws RX9 TX9 14, w ∈ wsX9_refuse := by decide +kernel
set_option maxHeartbeats 4000000 in
set_option maxRecDepth 100000 in
theorem c_X9_refuse (l : Launch) (D : va_G) (ad : Nat → Nat) (cs : Nat → ClassId) (J : uJ 99 ad) (σ : St) (v1 : Int32) (r : Int32) (σ' : St) (h : f_X9_refuse σ v1 = some (r, σ')) : uMi l yX9_refuse wsX9_refuse { frames := 0, cells := 0, slots := 0, locals := 0 } D vwCl (tyX cs) 99 ad (enX ad cs) [.ref (ad 0), .int v1] σ r σ' := by
  refine u_met (Qf := uQi D vwCl 99 ad (enX ad cs) r σ') (cc := cX9_refuse) (maxL := 2) (ret := (some .int)) (lv := [(0, .ref (ad 0)), (1, .int v1)]) J (by decide) rfl (Nat.le_of_ble_eq_true rfl) rfl rfl rfl ?_
  intro p e s m args below meth c ls hx hb C hr hlk G hl
  unfold f_X9_refuse at h
  obtain ⟨H, eH⟩ : ∃ H, H = s.heap := ⟨_, rfl⟩
  obtain ⟨locs, eL⟩ : ∃ locs : List Loc, locs = [] := ⟨_, rfl⟩
  refine u_start eH eL G ?_
  clear G eH eL
  intro G
  refine lv_aload_n hx hb dX9_refuse_0 rfl (lv_at hl 0 rfl) ?_
  refine lv_iload_n hx hb dX9_refuse_1 rfl (lv_at hl 1 rfl) ?_
  refine u_put (x := v1) (ty := .int) C G obX_0 (ci := 9) (N := 14) (Cn := RX9) (T := TX9) rfl fi_X9_refuse_9 tyX9 tyX9_ok nmX9 12 (by decide) (by decide +kernel) rfl (by decide +kernel) rfl rfl (fun f => by simp) (fun f => rfl) dX9_refuse_2 (fun H locs G => ?_)
  obtain ⟨σ1, eσ1, h⟩ := ul_of h
  replace G := uG_eq eσ1 G
  refine lv_aload_n hx hb dX9_refuse_5 rfl (lv_at hl 0 rfl) ?_
  refine u_get (v := .ref (ad 98)) C G obX_0 (ci := 9) (N := 14) (Cn := RX9) (T := TX9) rfl fi_X9_refuse_9 11 (by decide) (by decide +kernel) rfl dX9_refuse_6 ?_
  refine lv_iload_n hx hb dX9_refuse_9 rfl (lv_at hl 1 rfl) ?_
  refine lv_dup2_11 hx hb dX9_refuse_10 rfl rfl ?_
  obtain ⟨g2, h⟩ := ui_of h
  refine u_iald C G arX_98 (t0 := 0) rfl g2 dX9_refuse_11 ?_
  refine lv_iconst (v := 1) hx hb dX9_refuse_12 (by decide) ?_
  refine lv_iadd hx hb dX9_refuse_13 ?_
  obtain ⟨g3, h⟩ := ui_of h
  refine u_iast C G arX_98 (t0 := 0) rfl g3 dX9_refuse_14 (fun H locs G => ?_)
  obtain ⟨σ4, eσ4, h⟩ := ul_of h
  replace G := uG_eq eσ4 G
  refine lv_bipush (v := (-3)) hx hb dX9_refuse_15 (by decide) ?_
  obtain ⟨rfl, rfl⟩ := u_end h
  exact u_iret hx hb hr hlk G dX9_refuse_17
/-! X9_sheet -/
def f_X9_sheet (σ : St) (v1 : Int32) (v2 : Int32) : Option (Int32 × St) :=
  ub (f_X5_isNumber σ v1) fun r1 σ2 =>
  if r1 = 0 then
    some (((-1) : Int32), σ2)
  else
    if v2 ≤ 10 then
      if 0 ≤ v2 then
        ub (f_X5_bring σ2 v1 v2) fun r3 σ4 =>
        some (v2, σ4)
      else
        ub (f_X9_refuse σ2 (5 : Int32)) fun r5 σ6 =>
        some (r5, σ6)
    else
      some (((-1) : Int32), σ2)
theorem fi_X9_sheet_9 : ∀ w ∈ u_ws RX9 TX9 14, w ∈ wsX9_sheet := by decide +kernel
set_option maxHeartbeats 4000000 in
set_option maxRecDepth 100000 in
theorem c_X9_sheet (l : Launch) (D : va_G) (ad : Nat → Nat) (cs : Nat → ClassId) (J : uJ 99 ad) (σ : St) (v1 : Int32) (v2 : Int32) (r : Int32) (σ' : St) (h : f_X9_sheet σ v1 v2 = some (r, σ')) : uMi l yX9_sheet wsX9_sheet { frames := 2, cells := 0, slots := 0, locals := 45 } D vwCl (tyX cs) 99 ad (enX ad cs) [.ref (ad 0), .int v1, .int v2] σ r σ' := by
  refine u_met (Qf := uQi D vwCl 99 ad (enX ad cs) r σ') (cc := cX9_sheet) (maxL := 3) (ret := (some .int)) (lv := [(0, .ref (ad 0)), (1, .int v1), (2, .int v2)]) J (by decide) rfl (Nat.le_of_ble_eq_true rfl) rfl rfl rfl ?_
  intro p e s m args below meth c ls hx hb C hr hlk G hl
  unfold f_X9_sheet at h
  obtain ⟨H, eH⟩ : ∃ H, H = s.heap := ⟨_, rfl⟩
  obtain ⟨locs, eL⟩ : ∃ locs : List Loc, locs = [] := ⟨_, rfl⟩
  refine u_start eH eL G ?_
  clear G eH eL
  intro G
  refine lv_iload_n hx hb dX9_sheet_0 rfl (lv_at hl 1 rfl) ?_
  obtain ⟨r1, σ2, er1, h⟩ := ub_of h
  refine u_callSi (As := [.int v1]) (rest := []) C G (c_X5_isNumber l D ad cs C.2.2.1 σ v1 r1 σ2 er1) (va_cwS 1 C.1.2.2.2.2 gX9_sheet_X5_isNumber rfl rfl rfl (by decide +kernel) ⟨Nat.le_of_ble_eq_true rfl, Nat.le_of_ble_eq_true rfl⟩) rfl hl rfl (Nat.le_of_ble_eq_true rfl) dX9_sheet_1 (fun H locs G => ?_)
  refine lv_if_eq (tgt := 13) hx hb dX9_sheet_4 (by decide) (fun q => ?_) (fun q => ?_)
  · have h := u_pos q h
    refine lv_iconst (v := (-1)) hx hb dX9_sheet_13 (by decide) ?_
    obtain ⟨rfl, rfl⟩ := u_end h
    exact u_iret hx hb hr hlk G dX9_sheet_14
  · have h := u_neg q h
    refine lv_iload_n hx hb dX9_sheet_7 rfl (lv_at hl 2 rfl) ?_
    refine lv_bipush (v := 10) hx hb dX9_sheet_8 (by decide) ?_
    refine lv_icmp_le (tgt := 15) hx hb dX9_sheet_10 (by decide) (fun q => ?_) (fun q => ?_)
    · have h := u_pos q h
      refine lv_iload_n hx hb dX9_sheet_15 rfl (lv_at hl 2 rfl) ?_
      refine lv_if_ge (tgt := 25) hx hb dX9_sheet_16 (by decide) (fun q => ?_) (fun q => ?_)
      · have h := u_pos q h
        refine lv_aload_n hx hb dX9_sheet_25 rfl (lv_at hl 0 rfl) ?_
        refine u_get (v := .ref (ad 1)) C G obX_0 (ci := 9) (N := 14) (Cn := RX9) (T := TX9) rfl fi_X9_sheet_9 0 (by decide) (by decide +kernel) rfl dX9_sheet_26 ?_
        refine lv_iload_n hx hb dX9_sheet_29 rfl (lv_at hl 1 rfl) ?_
        refine lv_iload_n hx hb dX9_sheet_30 rfl (lv_at hl 2 rfl) ?_
        obtain ⟨r3, σ4, er3, h⟩ := ub_of h
        refine u_callVv (As := [.int v1, .int v2]) (rest := []) C G (c_X5_bring l D ad cs C.2.2.1 σ2 v1 v2 r3 σ4 er3) (cwV 2 C.1.2.2.2.2 gX9_sheet_X5_bring rfl rfl rfl (by decide +kernel) ⟨Nat.le_of_ble_eq_true rfl, Nat.le_of_ble_eq_true rfl⟩) obX_1 (ci := 5) (T := TX5) rfl rfl hl rfl (Nat.le_of_ble_eq_true rfl) dX9_sheet_31 (fun H locs G => ?_)
        refine lv_iload_n hx hb dX9_sheet_34 rfl (lv_at hl 2 rfl) ?_
        obtain ⟨rfl, rfl⟩ := u_end h
        exact u_iret hx hb hr hlk G dX9_sheet_35
      · have h := u_neg q h
        refine lv_aload_n hx hb dX9_sheet_19 rfl (lv_at hl 0 rfl) ?_
        refine lv_iconst (v := 5) hx hb dX9_sheet_20 (by decide) ?_
        obtain ⟨r5, σ6, er5, h⟩ := ub_of h
        refine u_callVi (As := [.int 5]) (rest := []) C G (c_X9_refuse l D ad cs C.2.2.1 σ2 (5 : Int32) r5 σ6 er5) (cwV 1 C.1.2.2.2.2 gX9_sheet_X9_refuse rfl rfl rfl (by decide +kernel) ⟨Nat.le_of_ble_eq_true rfl, Nat.le_of_ble_eq_true rfl⟩) obX_0 (ci := 9) (T := TX9) rfl rfl hl rfl (Nat.le_of_ble_eq_true rfl) dX9_sheet_21 (fun H locs G => ?_)
        obtain ⟨rfl, rfl⟩ := u_end h
        exact u_iret hx hb hr hlk G dX9_sheet_24
    · have h := u_neg q h
      refine lv_iconst (v := (-1)) hx hb dX9_sheet_13 (by decide) ?_
      obtain ⟨rfl, rfl⟩ := u_end h
      exact u_iret hx hb hr hlk G dX9_sheet_14
/-! X9_lay -/
def f_X9_lay (σ : St) (v1 : Int32) (v2 : Int32) (v3 : Int32) : Option (Int32 × St) :=
  ub (f_X5_isNumber σ v1) fun r1 σ2 =>
  if r1 = 0 then
    some (((-1) : Int32), σ2)
  else
    ub (f_X5_isThere σ2 v1) fun r3 σ4 =>
    if r3 = 0 then
      ub (f_X9_refuse σ4 (1 : Int32)) fun r11 σ12 =>
      some (r11, σ12)
    else
      ub (f_X5_hasRun σ4 v1 v2 (1 : Int32)) fun r5 σ6 =>
      if r5 = 0 then
        ub (f_X9_refuse σ6 (2 : Int32)) fun r9 σ10 =>
        some (r9, σ10)
      else
        ub (f_X5_changeByte σ6 v1 v2 v3) fun r7 σ8 =>
        some ((r7 + 1000), σ8)
theorem fi_X9_lay_9 : ∀ w ∈ u_ws RX9 TX9 14, w ∈ wsX9_lay := by decide +kernel
set_option maxHeartbeats 4000000 in
set_option maxRecDepth 100000 in
theorem c_X9_lay (l : Launch) (D : va_G) (ad : Nat → Nat) (cs : Nat → ClassId) (J : uJ 99 ad) (σ : St) (v1 : Int32) (v2 : Int32) (v3 : Int32) (r : Int32) (σ' : St) (h : f_X9_lay σ v1 v2 v3 = some (r, σ')) : uMi l yX9_lay wsX9_lay { frames := 1, cells := 0, slots := 0, locals := 24 } D vwCl (tyX cs) 99 ad (enX ad cs) [.ref (ad 0), .int v1, .int v2, .int v3] σ r σ' := by
  refine u_met (Qf := uQi D vwCl 99 ad (enX ad cs) r σ') (cc := cX9_lay) (maxL := 4) (ret := (some .int)) (lv := [(0, .ref (ad 0)), (1, .int v1), (2, .int v2), (3, .int v3)]) J (by decide) rfl (Nat.le_of_ble_eq_true rfl) rfl rfl rfl ?_
  intro p e s m args below meth c ls hx hb C hr hlk G hl
  unfold f_X9_lay at h
  obtain ⟨H, eH⟩ : ∃ H, H = s.heap := ⟨_, rfl⟩
  obtain ⟨locs, eL⟩ : ∃ locs : List Loc, locs = [] := ⟨_, rfl⟩
  refine u_start eH eL G ?_
  clear G eH eL
  intro G
  refine lv_iload_n hx hb dX9_lay_0 rfl (lv_at hl 1 rfl) ?_
  obtain ⟨r1, σ2, er1, h⟩ := ub_of h
  refine u_callSi (As := [.int v1]) (rest := []) C G (c_X5_isNumber l D ad cs C.2.2.1 σ v1 r1 σ2 er1) (va_cwS 1 C.1.2.2.2.2 gX9_lay_X5_isNumber rfl rfl rfl (by decide +kernel) ⟨Nat.le_of_ble_eq_true rfl, Nat.le_of_ble_eq_true rfl⟩) rfl hl rfl (Nat.le_of_ble_eq_true rfl) dX9_lay_1 (fun H locs G => ?_)
  refine lv_if_ne (tgt := 9) hx hb dX9_lay_4 (by decide) (fun q => ?_) (fun q => ?_)
  · have h := u_neg q h
    refine lv_aload_n hx hb dX9_lay_9 rfl (lv_at hl 0 rfl) ?_
    refine u_get (v := .ref (ad 1)) C G obX_0 (ci := 9) (N := 14) (Cn := RX9) (T := TX9) rfl fi_X9_lay_9 0 (by decide) (by decide +kernel) rfl dX9_lay_10 ?_
    refine lv_iload_n hx hb dX9_lay_13 rfl (lv_at hl 1 rfl) ?_
    obtain ⟨r3, σ4, er3, h⟩ := ub_of h
    refine u_callVi (As := [.int v1]) (rest := []) C G (c_X5_isThere l D ad cs C.2.2.1 σ2 v1 r3 σ4 er3) (cwV 1 C.1.2.2.2.2 gX9_lay_X5_isThere rfl rfl rfl (by decide +kernel) ⟨Nat.le_of_ble_eq_true rfl, Nat.le_of_ble_eq_true rfl⟩) obX_1 (ci := 5) (T := TX5) rfl rfl hl rfl (Nat.le_of_ble_eq_true rfl) dX9_lay_14 (fun H locs G => ?_)
    refine lv_if_ne (tgt := 26) hx hb dX9_lay_17 (by decide) (fun q => ?_) (fun q => ?_)
    · have h := u_neg q h
      refine lv_aload_n hx hb dX9_lay_26 rfl (lv_at hl 0 rfl) ?_
      refine u_get (v := .ref (ad 1)) C G obX_0 (ci := 9) (N := 14) (Cn := RX9) (T := TX9) rfl fi_X9_lay_9 0 (by decide) (by decide +kernel) rfl dX9_lay_27 ?_
      refine lv_iload_n hx hb dX9_lay_30 rfl (lv_at hl 1 rfl) ?_
      refine lv_iload_n hx hb dX9_lay_31 rfl (lv_at hl 2 rfl) ?_
      refine lv_iconst (v := 1) hx hb dX9_lay_32 (by decide) ?_
      obtain ⟨r5, σ6, er5, h⟩ := ub_of h
      refine u_callVi (As := [.int v1, .int v2, .int 1]) (rest := []) C G (c_X5_hasRun l D ad cs C.2.2.1 σ4 v1 v2 (1 : Int32) r5 σ6 er5) (cwV 3 C.1.2.2.2.2 gX9_lay_X5_hasRun rfl rfl rfl (by decide +kernel) ⟨Nat.le_of_ble_eq_true rfl, Nat.le_of_ble_eq_true rfl⟩) obX_1 (ci := 5) (T := TX5) rfl rfl hl rfl (Nat.le_of_ble_eq_true rfl) dX9_lay_33 (fun H locs G => ?_)
      refine lv_if_ne (tgt := 45) hx hb dX9_lay_36 (by decide) (fun q => ?_) (fun q => ?_)
      · have h := u_neg q h
        refine lv_aload_n hx hb dX9_lay_45 rfl (lv_at hl 0 rfl) ?_
        refine u_get (v := .ref (ad 1)) C G obX_0 (ci := 9) (N := 14) (Cn := RX9) (T := TX9) rfl fi_X9_lay_9 0 (by decide) (by decide +kernel) rfl dX9_lay_46 ?_
        refine lv_iload_n hx hb dX9_lay_49 rfl (lv_at hl 1 rfl) ?_
        refine lv_iload_n hx hb dX9_lay_50 rfl (lv_at hl 2 rfl) ?_
        refine lv_iload_n hx hb dX9_lay_51 rfl (lv_at hl 3 rfl) ?_
        obtain ⟨r7, σ8, er7, h⟩ := ub_of h
        refine u_callVi (As := [.int v1, .int v2, .int v3]) (rest := []) C G (c_X5_changeByte l D ad cs C.2.2.1 σ6 v1 v2 v3 r7 σ8 er7) (cwV 3 C.1.2.2.2.2 gX9_lay_X5_changeByte rfl rfl rfl (by decide +kernel) ⟨Nat.le_of_ble_eq_true rfl, Nat.le_of_ble_eq_true rfl⟩) obX_1 (ci := 5) (T := TX5) rfl rfl hl rfl (Nat.le_of_ble_eq_true rfl) dX9_lay_52 (fun H locs G => ?_)
        refine lv_sipush (v := 1000) hx hb dX9_lay_55 (by decide) ?_
        refine lv_iadd hx hb dX9_lay_58 ?_
        obtain ⟨rfl, rfl⟩ := u_end h
        exact u_iret hx hb hr hlk G dX9_lay_59
      · have h := u_pos q h
        refine lv_aload_n hx hb dX9_lay_39 rfl (lv_at hl 0 rfl) ?_
        refine lv_iconst (v := 2) hx hb dX9_lay_40 (by decide) ?_
        obtain ⟨r9, σ10, er9, h⟩ := ub_of h
        refine u_callVi (As := [.int 2]) (rest := []) C G (c_X9_refuse l D ad cs C.2.2.1 σ6 (2 : Int32) r9 σ10 er9) (cwV 1 C.1.2.2.2.2 gX9_lay_X9_refuse rfl rfl rfl (by decide +kernel) ⟨Nat.le_of_ble_eq_true rfl, Nat.le_of_ble_eq_true rfl⟩) obX_0 (ci := 9) (T := TX9) rfl rfl hl rfl (Nat.le_of_ble_eq_true rfl) dX9_lay_41 (fun H locs G => ?_)
        obtain ⟨rfl, rfl⟩ := u_end h
        exact u_iret hx hb hr hlk G dX9_lay_44
    · have h := u_pos q h
      refine lv_aload_n hx hb dX9_lay_20 rfl (lv_at hl 0 rfl) ?_
      refine lv_iconst (v := 1) hx hb dX9_lay_21 (by decide) ?_
      obtain ⟨r11, σ12, er11, h⟩ := ub_of h
      refine u_callVi (As := [.int 1]) (rest := []) C G (c_X9_refuse l D ad cs C.2.2.1 σ4 (1 : Int32) r11 σ12 er11) (cwV 1 C.1.2.2.2.2 gX9_lay_X9_refuse rfl rfl rfl (by decide +kernel) ⟨Nat.le_of_ble_eq_true rfl, Nat.le_of_ble_eq_true rfl⟩) obX_0 (ci := 9) (T := TX9) rfl rfl hl rfl (Nat.le_of_ble_eq_true rfl) dX9_lay_22 (fun H locs G => ?_)
      obtain ⟨rfl, rfl⟩ := u_end h
      exact u_iret hx hb hr hlk G dX9_lay_25
  · have h := u_pos q h
    refine lv_iconst (v := (-1)) hx hb dX9_lay_7 (by decide) ?_
    obtain ⟨rfl, rfl⟩ := u_end h
    exact u_iret hx hb hr hlk G dX9_lay_8
/-! X9_tear -/
def f_X9_tear (σ : St) (v1 : Int32) : Option (Int32 × St) :=
  ub (f_X5_isNumber σ v1) fun r1 σ2 =>
  if r1 = 0 then
    some (((-1) : Int32), σ2)
  else
    ub (f_X5_isThere σ2 v1) fun r3 σ4 =>
    if r3 = 0 then
      ub (f_X9_refuse σ4 (1 : Int32)) fun r7 σ8 =>
      some (r7, σ8)
    else
      ub (f_X5_remove σ4 v1) fun r5 σ6 =>
      some ((1 : Int32), σ6)
theorem fi_X9_tear_9 : ∀ w ∈ u_ws RX9 TX9 14, w ∈ wsX9_tear := by decide +kernel
set_option maxHeartbeats 4000000 in
set_option maxRecDepth 100000 in
theorem c_X9_tear (l : Launch) (D : va_G) (ad : Nat → Nat) (cs : Nat → ClassId) (J : uJ 99 ad) (σ : St) (v1 : Int32) (r : Int32) (σ' : St) (h : f_X9_tear σ v1 = some (r, σ')) : uMi l yX9_tear wsX9_tear { frames := 1, cells := 0, slots := 0, locals := 21 } D vwCl (tyX cs) 99 ad (enX ad cs) [.ref (ad 0), .int v1] σ r σ' := by
  refine u_met (Qf := uQi D vwCl 99 ad (enX ad cs) r σ') (cc := cX9_tear) (maxL := 2) (ret := (some .int)) (lv := [(0, .ref (ad 0)), (1, .int v1)]) J (by decide) rfl (Nat.le_of_ble_eq_true rfl) rfl rfl rfl ?_
  intro p e s m args below meth c ls hx hb C hr hlk G hl
  unfold f_X9_tear at h
  obtain ⟨H, eH⟩ : ∃ H, H = s.heap := ⟨_, rfl⟩
  obtain ⟨locs, eL⟩ : ∃ locs : List Loc, locs = [] := ⟨_, rfl⟩
  refine u_start eH eL G ?_
  clear G eH eL
  intro G
  refine lv_iload_n hx hb dX9_tear_0 rfl (lv_at hl 1 rfl) ?_
  obtain ⟨r1, σ2, er1, h⟩ := ub_of h
  refine u_callSi (As := [.int v1]) (rest := []) C G (c_X5_isNumber l D ad cs C.2.2.1 σ v1 r1 σ2 er1) (va_cwS 1 C.1.2.2.2.2 gX9_tear_X5_isNumber rfl rfl rfl (by decide +kernel) ⟨Nat.le_of_ble_eq_true rfl, Nat.le_of_ble_eq_true rfl⟩) rfl hl rfl (Nat.le_of_ble_eq_true rfl) dX9_tear_1 (fun H locs G => ?_)
  refine lv_if_ne (tgt := 9) hx hb dX9_tear_4 (by decide) (fun q => ?_) (fun q => ?_)
  · have h := u_neg q h
    refine lv_aload_n hx hb dX9_tear_9 rfl (lv_at hl 0 rfl) ?_
    refine u_get (v := .ref (ad 1)) C G obX_0 (ci := 9) (N := 14) (Cn := RX9) (T := TX9) rfl fi_X9_tear_9 0 (by decide) (by decide +kernel) rfl dX9_tear_10 ?_
    refine lv_iload_n hx hb dX9_tear_13 rfl (lv_at hl 1 rfl) ?_
    obtain ⟨r3, σ4, er3, h⟩ := ub_of h
    refine u_callVi (As := [.int v1]) (rest := []) C G (c_X5_isThere l D ad cs C.2.2.1 σ2 v1 r3 σ4 er3) (cwV 1 C.1.2.2.2.2 gX9_tear_X5_isThere rfl rfl rfl (by decide +kernel) ⟨Nat.le_of_ble_eq_true rfl, Nat.le_of_ble_eq_true rfl⟩) obX_1 (ci := 5) (T := TX5) rfl rfl hl rfl (Nat.le_of_ble_eq_true rfl) dX9_tear_14 (fun H locs G => ?_)
    refine lv_if_ne (tgt := 26) hx hb dX9_tear_17 (by decide) (fun q => ?_) (fun q => ?_)
    · have h := u_neg q h
      refine lv_aload_n hx hb dX9_tear_26 rfl (lv_at hl 0 rfl) ?_
      refine u_get (v := .ref (ad 1)) C G obX_0 (ci := 9) (N := 14) (Cn := RX9) (T := TX9) rfl fi_X9_tear_9 0 (by decide) (by decide +kernel) rfl dX9_tear_27 ?_
      refine lv_iload_n hx hb dX9_tear_30 rfl (lv_at hl 1 rfl) ?_
      obtain ⟨r5, σ6, er5, h⟩ := ub_of h
      refine u_callVv (As := [.int v1]) (rest := []) C G (c_X5_remove l D ad cs C.2.2.1 σ4 v1 r5 σ6 er5) (cwV 1 C.1.2.2.2.2 gX9_tear_X5_remove rfl rfl rfl (by decide +kernel) ⟨Nat.le_of_ble_eq_true rfl, Nat.le_of_ble_eq_true rfl⟩) obX_1 (ci := 5) (T := TX5) rfl rfl hl rfl (Nat.le_of_ble_eq_true rfl) dX9_tear_31 (fun H locs G => ?_)
      refine lv_iconst (v := 1) hx hb dX9_tear_34 (by decide) ?_
      obtain ⟨rfl, rfl⟩ := u_end h
      exact u_iret hx hb hr hlk G dX9_tear_35
    · have h := u_pos q h
      refine lv_aload_n hx hb dX9_tear_20 rfl (lv_at hl 0 rfl) ?_
      refine lv_iconst (v := 1) hx hb dX9_tear_21 (by decide) ?_
      obtain ⟨r7, σ8, er7, h⟩ := ub_of h
      refine u_callVi (As := [.int 1]) (rest := []) C G (c_X9_refuse l D ad cs C.2.2.1 σ4 (1 : Int32) r7 σ8 er7) (cwV 1 C.1.2.2.2.2 gX9_tear_X9_refuse rfl rfl rfl (by decide +kernel) ⟨Nat.le_of_ble_eq_true rfl, Nat.le_of_ble_eq_true rfl⟩) obX_0 (ci := 9) (T := TX9) rfl rfl hl rfl (Nat.le_of_ble_eq_true rfl) dX9_tear_22 (fun H locs G => ?_)
      obtain ⟨rfl, rfl⟩ := u_end h
      exact u_iret hx hb hr hlk G dX9_tear_25
  · have h := u_pos q h
    refine lv_iconst (v := (-1)) hx hb dX9_tear_7 (by decide) ?_
    obtain ⟨rfl, rfl⟩ := u_end h
    exact u_iret hx hb hr hlk G dX9_tear_8
/-! X9_copy -/
def f_X9_copy (σ : St) (v1 : Int32) (v2 : Int32) (v3 : Int32) (v4 : Int32) (v5 : Int32) : Option (Int32 × St) :=
  ub (f_X5_isNumber σ v1) fun r1 σ2 =>
  if r1 = 0 then
    some (((-1) : Int32), σ2)
  else
    ub (f_X5_isNumber σ2 v3) fun r3 σ4 =>
    if r3 = 0 then
      some (((-1) : Int32), σ4)
    else
      if 0 ≤ v5 then
        ub (f_X5_isThere σ4 v1) fun r5 σ6 =>
        if r5 = 0 then
          ub (f_X9_refuse σ6 (1 : Int32)) fun r7 σ8 =>
          some (r7, σ8)
        else
          ub (f_X5_isThere σ6 v3) fun r9 σ10 =>
          if r9 = 0 then
            ub (f_X9_refuse σ10 (1 : Int32)) fun r21 σ22 =>
            some (r21, σ22)
          else
            ub (f_X5_hasRun σ10 v1 v2 v5) fun r11 σ12 =>
            if r11 = 0 then
              ub (f_X9_refuse σ12 (2 : Int32)) fun r13 σ14 =>
              some (r13, σ14)
            else
              ub (f_X5_hasRun σ12 v3 v4 v5) fun r15 σ16 =>
              if r15 = 0 then
                ub (f_X9_refuse σ16 (2 : Int32)) fun r19 σ20 =>
                some (r19, σ20)
              else
                ub (f_X5_carry σ16 v1 v2 v3 v4 v5) fun r17 σ18 =>
                some ((1 : Int32), σ18)
      else
        ub (f_X9_refuse σ4 (5 : Int32)) fun r23 σ24 =>
        some (r23, σ24)
theorem fi_X9_copy_9 : ∀ w ∈ u_ws RX9 TX9 14, w ∈ wsX9_copy := by decide +kernel
set_option maxHeartbeats 4000000 in
set_option maxRecDepth 100000 in
theorem c_X9_copy (l : Launch) (D : va_G) (ad : Nat → Nat) (cs : Nat → ClassId) (J : uJ 99 ad) (σ : St) (v1 : Int32) (v2 : Int32) (v3 : Int32) (v4 : Int32) (v5 : Int32) (r : Int32) (σ' : St) (h : f_X9_copy σ v1 v2 v3 v4 v5 = some (r, σ')) : uMi l yX9_copy wsX9_copy { frames := 2, cells := 0, slots := 0, locals := 85 } D vwCl (tyX cs) 99 ad (enX ad cs) [.ref (ad 0), .int v1, .int v2, .int v3, .int v4, .int v5] σ r σ' := by
  refine u_met (Qf := uQi D vwCl 99 ad (enX ad cs) r σ') (cc := cX9_copy) (maxL := 6) (ret := (some .int)) (lv := [(0, .ref (ad 0)), (1, .int v1), (2, .int v2), (3, .int v3), (4, .int v4), (5, .int v5)]) J (by decide) rfl (Nat.le_of_ble_eq_true rfl) rfl rfl rfl ?_
  intro p e s m args below meth c ls hx hb C hr hlk G hl
  unfold f_X9_copy at h
  obtain ⟨H, eH⟩ : ∃ H, H = s.heap := ⟨_, rfl⟩
  obtain ⟨locs, eL⟩ : ∃ locs : List Loc, locs = [] := ⟨_, rfl⟩
  refine u_start eH eL G ?_
  clear G eH eL
  intro G
  refine lv_iload_n hx hb dX9_copy_0 rfl (lv_at hl 1 rfl) ?_
  obtain ⟨r1, σ2, er1, h⟩ := ub_of h
  refine u_callSi (As := [.int v1]) (rest := []) C G (c_X5_isNumber l D ad cs C.2.2.1 σ v1 r1 σ2 er1) (va_cwS 1 C.1.2.2.2.2 gX9_copy_X5_isNumber rfl rfl rfl (by decide +kernel) ⟨Nat.le_of_ble_eq_true rfl, Nat.le_of_ble_eq_true rfl⟩) rfl hl rfl (Nat.le_of_ble_eq_true rfl) dX9_copy_1 (fun H locs G => ?_)
  refine lv_if_eq (tgt := 14) hx hb dX9_copy_4 (by decide) (fun q => ?_) (fun q => ?_)
  · have h := u_pos q h
    refine lv_iconst (v := (-1)) hx hb dX9_copy_14 (by decide) ?_
    obtain ⟨rfl, rfl⟩ := u_end h
    exact u_iret hx hb hr hlk G dX9_copy_15
  · have h := u_neg q h
    refine lv_iload_n hx hb dX9_copy_7 rfl (lv_at hl 3 rfl) ?_
    obtain ⟨r3, σ4, er3, h⟩ := ub_of h
    refine u_callSi (As := [.int v3]) (rest := []) C G (c_X5_isNumber l D ad cs C.2.2.1 σ2 v3 r3 σ4 er3) (va_cwS 1 C.1.2.2.2.2 gX9_copy_X5_isNumber rfl rfl rfl (by decide +kernel) ⟨Nat.le_of_ble_eq_true rfl, Nat.le_of_ble_eq_true rfl⟩) rfl hl rfl (Nat.le_of_ble_eq_true rfl) dX9_copy_8 (fun H locs G => ?_)
    refine lv_if_ne (tgt := 16) hx hb dX9_copy_11 (by decide) (fun q => ?_) (fun q => ?_)
    · have h := u_neg q h
      refine lv_iload hx hb dX9_copy_16 (lv_at hl 5 rfl) ?_
      refine lv_if_ge (tgt := 27) hx hb dX9_copy_18 (by decide) (fun q => ?_) (fun q => ?_)
      · have h := u_pos q h
        refine lv_aload_n hx hb dX9_copy_27 rfl (lv_at hl 0 rfl) ?_
        refine u_get (v := .ref (ad 1)) C G obX_0 (ci := 9) (N := 14) (Cn := RX9) (T := TX9) rfl fi_X9_copy_9 0 (by decide) (by decide +kernel) rfl dX9_copy_28 ?_
        refine lv_iload_n hx hb dX9_copy_31 rfl (lv_at hl 1 rfl) ?_
        obtain ⟨r5, σ6, er5, h⟩ := ub_of h
        refine u_callVi (As := [.int v1]) (rest := []) C G (c_X5_isThere l D ad cs C.2.2.1 σ4 v1 r5 σ6 er5) (cwV 1 C.1.2.2.2.2 gX9_copy_X5_isThere rfl rfl rfl (by decide +kernel) ⟨Nat.le_of_ble_eq_true rfl, Nat.le_of_ble_eq_true rfl⟩) obX_1 (ci := 5) (T := TX5) rfl rfl hl rfl (Nat.le_of_ble_eq_true rfl) dX9_copy_32 (fun H locs G => ?_)
        refine lv_if_eq (tgt := 49) hx hb dX9_copy_35 (by decide) (fun q => ?_) (fun q => ?_)
        · have h := u_pos q h
          refine lv_aload_n hx hb dX9_copy_49 rfl (lv_at hl 0 rfl) ?_
          refine lv_iconst (v := 1) hx hb dX9_copy_50 (by decide) ?_
          obtain ⟨r7, σ8, er7, h⟩ := ub_of h
          refine u_callVi (As := [.int 1]) (rest := []) C G (c_X9_refuse l D ad cs C.2.2.1 σ6 (1 : Int32) r7 σ8 er7) (cwV 1 C.1.2.2.2.2 gX9_copy_X9_refuse rfl rfl rfl (by decide +kernel) ⟨Nat.le_of_ble_eq_true rfl, Nat.le_of_ble_eq_true rfl⟩) obX_0 (ci := 9) (T := TX9) rfl rfl hl rfl (Nat.le_of_ble_eq_true rfl) dX9_copy_51 (fun H locs G => ?_)
          obtain ⟨rfl, rfl⟩ := u_end h
          exact u_iret hx hb hr hlk G dX9_copy_54
        · have h := u_neg q h
          refine lv_aload_n hx hb dX9_copy_38 rfl (lv_at hl 0 rfl) ?_
          refine u_get (v := .ref (ad 1)) C G obX_0 (ci := 9) (N := 14) (Cn := RX9) (T := TX9) rfl fi_X9_copy_9 0 (by decide) (by decide +kernel) rfl dX9_copy_39 ?_
          refine lv_iload_n hx hb dX9_copy_42 rfl (lv_at hl 3 rfl) ?_
          obtain ⟨r9, σ10, er9, h⟩ := ub_of h
          refine u_callVi (As := [.int v3]) (rest := []) C G (c_X5_isThere l D ad cs C.2.2.1 σ6 v3 r9 σ10 er9) (cwV 1 C.1.2.2.2.2 gX9_copy_X5_isThere rfl rfl rfl (by decide +kernel) ⟨Nat.le_of_ble_eq_true rfl, Nat.le_of_ble_eq_true rfl⟩) obX_1 (ci := 5) (T := TX5) rfl rfl hl rfl (Nat.le_of_ble_eq_true rfl) dX9_copy_43 (fun H locs G => ?_)
          refine lv_if_ne (tgt := 55) hx hb dX9_copy_46 (by decide) (fun q => ?_) (fun q => ?_)
          · have h := u_neg q h
            refine lv_aload_n hx hb dX9_copy_55 rfl (lv_at hl 0 rfl) ?_
            refine u_get (v := .ref (ad 1)) C G obX_0 (ci := 9) (N := 14) (Cn := RX9) (T := TX9) rfl fi_X9_copy_9 0 (by decide) (by decide +kernel) rfl dX9_copy_56 ?_
            refine lv_iload_n hx hb dX9_copy_59 rfl (lv_at hl 1 rfl) ?_
            refine lv_iload_n hx hb dX9_copy_60 rfl (lv_at hl 2 rfl) ?_
            refine lv_iload hx hb dX9_copy_61 (lv_at hl 5 rfl) ?_
            obtain ⟨r11, σ12, er11, h⟩ := ub_of h
            refine u_callVi (As := [.int v1, .int v2, .int v5]) (rest := []) C G (c_X5_hasRun l D ad cs C.2.2.1 σ10 v1 v2 v5 r11 σ12 er11) (cwV 3 C.1.2.2.2.2 gX9_copy_X5_hasRun rfl rfl rfl (by decide +kernel) ⟨Nat.le_of_ble_eq_true rfl, Nat.le_of_ble_eq_true rfl⟩) obX_1 (ci := 5) (T := TX5) rfl rfl hl rfl (Nat.le_of_ble_eq_true rfl) dX9_copy_63 (fun H locs G => ?_)
            refine lv_if_eq (tgt := 84) hx hb dX9_copy_66 (by decide) (fun q => ?_) (fun q => ?_)
            · have h := u_pos q h
              refine lv_aload_n hx hb dX9_copy_84 rfl (lv_at hl 0 rfl) ?_
              refine lv_iconst (v := 2) hx hb dX9_copy_85 (by decide) ?_
              obtain ⟨r13, σ14, er13, h⟩ := ub_of h
              refine u_callVi (As := [.int 2]) (rest := []) C G (c_X9_refuse l D ad cs C.2.2.1 σ12 (2 : Int32) r13 σ14 er13) (cwV 1 C.1.2.2.2.2 gX9_copy_X9_refuse rfl rfl rfl (by decide +kernel) ⟨Nat.le_of_ble_eq_true rfl, Nat.le_of_ble_eq_true rfl⟩) obX_0 (ci := 9) (T := TX9) rfl rfl hl rfl (Nat.le_of_ble_eq_true rfl) dX9_copy_86 (fun H locs G => ?_)
              obtain ⟨rfl, rfl⟩ := u_end h
              exact u_iret hx hb hr hlk G dX9_copy_89
            · have h := u_neg q h
              refine lv_aload_n hx hb dX9_copy_69 rfl (lv_at hl 0 rfl) ?_
              refine u_get (v := .ref (ad 1)) C G obX_0 (ci := 9) (N := 14) (Cn := RX9) (T := TX9) rfl fi_X9_copy_9 0 (by decide) (by decide +kernel) rfl dX9_copy_70 ?_
              refine lv_iload_n hx hb dX9_copy_73 rfl (lv_at hl 3 rfl) ?_
              refine lv_iload hx hb dX9_copy_74 (lv_at hl 4 rfl) ?_
              refine lv_iload hx hb dX9_copy_76 (lv_at hl 5 rfl) ?_
              obtain ⟨r15, σ16, er15, h⟩ := ub_of h
              refine u_callVi (As := [.int v3, .int v4, .int v5]) (rest := []) C G (c_X5_hasRun l D ad cs C.2.2.1 σ12 v3 v4 v5 r15 σ16 er15) (cwV 3 C.1.2.2.2.2 gX9_copy_X5_hasRun rfl rfl rfl (by decide +kernel) ⟨Nat.le_of_ble_eq_true rfl, Nat.le_of_ble_eq_true rfl⟩) obX_1 (ci := 5) (T := TX5) rfl rfl hl rfl (Nat.le_of_ble_eq_true rfl) dX9_copy_78 (fun H locs G => ?_)
              refine lv_if_ne (tgt := 90) hx hb dX9_copy_81 (by decide) (fun q => ?_) (fun q => ?_)
              · have h := u_neg q h
                refine lv_aload_n hx hb dX9_copy_90 rfl (lv_at hl 0 rfl) ?_
                refine u_get (v := .ref (ad 1)) C G obX_0 (ci := 9) (N := 14) (Cn := RX9) (T := TX9) rfl fi_X9_copy_9 0 (by decide) (by decide +kernel) rfl dX9_copy_91 ?_
                refine lv_iload_n hx hb dX9_copy_94 rfl (lv_at hl 1 rfl) ?_
                refine lv_iload_n hx hb dX9_copy_95 rfl (lv_at hl 2 rfl) ?_
                refine lv_iload_n hx hb dX9_copy_96 rfl (lv_at hl 3 rfl) ?_
                refine lv_iload hx hb dX9_copy_97 (lv_at hl 4 rfl) ?_
                refine lv_iload hx hb dX9_copy_99 (lv_at hl 5 rfl) ?_
                obtain ⟨r17, σ18, er17, h⟩ := ub_of h
                refine u_callVv (As := [.int v1, .int v2, .int v3, .int v4, .int v5]) (rest := []) C G (c_X5_carry l D ad cs C.2.2.1 σ16 v1 v2 v3 v4 v5 r17 σ18 er17) (cwV 5 C.1.2.2.2.2 gX9_copy_X5_carry rfl rfl rfl (by decide +kernel) ⟨Nat.le_of_ble_eq_true rfl, Nat.le_of_ble_eq_true rfl⟩) obX_1 (ci := 5) (T := TX5) rfl rfl hl rfl (Nat.le_of_ble_eq_true rfl) dX9_copy_101 (fun H locs G => ?_)
                refine lv_iconst (v := 1) hx hb dX9_copy_104 (by decide) ?_
                obtain ⟨rfl, rfl⟩ := u_end h
                exact u_iret hx hb hr hlk G dX9_copy_105
              · have h := u_pos q h
                refine lv_aload_n hx hb dX9_copy_84 rfl (lv_at hl 0 rfl) ?_
                refine lv_iconst (v := 2) hx hb dX9_copy_85 (by decide) ?_
                obtain ⟨r19, σ20, er19, h⟩ := ub_of h
                refine u_callVi (As := [.int 2]) (rest := []) C G (c_X9_refuse l D ad cs C.2.2.1 σ16 (2 : Int32) r19 σ20 er19) (cwV 1 C.1.2.2.2.2 gX9_copy_X9_refuse rfl rfl rfl (by decide +kernel) ⟨Nat.le_of_ble_eq_true rfl, Nat.le_of_ble_eq_true rfl⟩) obX_0 (ci := 9) (T := TX9) rfl rfl hl rfl (Nat.le_of_ble_eq_true rfl) dX9_copy_86 (fun H locs G => ?_)
                obtain ⟨rfl, rfl⟩ := u_end h
                exact u_iret hx hb hr hlk G dX9_copy_89
          · have h := u_pos q h
            refine lv_aload_n hx hb dX9_copy_49 rfl (lv_at hl 0 rfl) ?_
            refine lv_iconst (v := 1) hx hb dX9_copy_50 (by decide) ?_
            obtain ⟨r21, σ22, er21, h⟩ := ub_of h
            refine u_callVi (As := [.int 1]) (rest := []) C G (c_X9_refuse l D ad cs C.2.2.1 σ10 (1 : Int32) r21 σ22 er21) (cwV 1 C.1.2.2.2.2 gX9_copy_X9_refuse rfl rfl rfl (by decide +kernel) ⟨Nat.le_of_ble_eq_true rfl, Nat.le_of_ble_eq_true rfl⟩) obX_0 (ci := 9) (T := TX9) rfl rfl hl rfl (Nat.le_of_ble_eq_true rfl) dX9_copy_51 (fun H locs G => ?_)
            obtain ⟨rfl, rfl⟩ := u_end h
            exact u_iret hx hb hr hlk G dX9_copy_54
      · have h := u_neg q h
        refine lv_aload_n hx hb dX9_copy_21 rfl (lv_at hl 0 rfl) ?_
        refine lv_iconst (v := 5) hx hb dX9_copy_22 (by decide) ?_
        obtain ⟨r23, σ24, er23, h⟩ := ub_of h
        refine u_callVi (As := [.int 5]) (rest := []) C G (c_X9_refuse l D ad cs C.2.2.1 σ4 (5 : Int32) r23 σ24 er23) (cwV 1 C.1.2.2.2.2 gX9_copy_X9_refuse rfl rfl rfl (by decide +kernel) ⟨Nat.le_of_ble_eq_true rfl, Nat.le_of_ble_eq_true rfl⟩) obX_0 (ci := 9) (T := TX9) rfl rfl hl rfl (Nat.le_of_ble_eq_true rfl) dX9_copy_23 (fun H locs G => ?_)
        obtain ⟨rfl, rfl⟩ := u_end h
        exact u_iret hx hb hr hlk G dX9_copy_26
    · have h := u_pos q h
      refine lv_iconst (v := (-1)) hx hb dX9_copy_14 (by decide) ?_
      obtain ⟨rfl, rfl⟩ := u_end h
      exact u_iret hx hb hr hlk G dX9_copy_15
/-! X9_makesWord -/
def f_X9_makesWord (σ : St) (v1 : Int32) : Option (Int32 × St) :=
  ui v1 4 <|
  ui v1 4 <|
  ub (f_X8_lettersIn σ v1.toNatClampNeg (σ 3 v1.toNatClampNeg)) fun r4 σ5 =>
  if r4 < 1 then
    some ((0 : Int32), σ5)
  else
    if 8 < r4 then
      some ((0 : Int32), σ5)
    else
      some ((1 : Int32), σ5)
theorem fi_X9_makesWord_5 : ∀ w ∈ u_ws RX5 TX5 2, w ∈ wsX9_makesWord := by decide +kernel
theorem fi_X9_makesWord_9 : ∀ w ∈ u_ws RX9 TX9 14, w ∈ wsX9_makesWord := by decide +kernel
set_option maxHeartbeats 4000000 in
set_option maxRecDepth 100000 in
theorem c_X9_makesWord (l : Launch) (D : va_G) (ad : Nat → Nat) (cs : Nat → ClassId) (J : uJ 99 ad) (σ : St) (v1 : Int32) (r : Int32) (σ' : St) (h : f_X9_makesWord σ v1 = some (r, σ')) : uMi l yX9_makesWord wsX9_makesWord { frames := 2, cells := 0, slots := 0, locals := 43 } D vwCl (tyX cs) 99 ad (enX ad cs) [.ref (ad 0), .int v1] σ r σ' := by
  refine u_met (Qf := uQi D vwCl 99 ad (enX ad cs) r σ') (cc := cX9_makesWord) (maxL := 3) (ret := (some .boolean)) (lv := [(0, .ref (ad 0)), (1, .int v1)]) J (by decide) rfl (Nat.le_of_ble_eq_true rfl) rfl rfl rfl ?_
  intro p e s m args below meth c ls hx hb C hr hlk G hl
  unfold f_X9_makesWord at h
  obtain ⟨H, eH⟩ : ∃ H, H = s.heap := ⟨_, rfl⟩
  obtain ⟨locs, eL⟩ : ∃ locs : List Loc, locs = [] := ⟨_, rfl⟩
  refine u_start eH eL G ?_
  clear G eH eL
  intro G
  refine lv_aload_n hx hb dX9_makesWord_0 rfl (lv_at hl 0 rfl) ?_
  refine u_get (v := .ref (ad 1)) C G obX_0 (ci := 9) (N := 14) (Cn := RX9) (T := TX9) rfl fi_X9_makesWord_9 0 (by decide) (by decide +kernel) rfl dX9_makesWord_1 ?_
  refine u_get (v := .ref (ad 2)) C G obX_1 (ci := 5) (N := 2) (Cn := RX5) (T := TX5) rfl fi_X9_makesWord_5 0 (by decide) (by decide +kernel) rfl dX9_makesWord_4 ?_
  refine lv_iload_n hx hb dX9_makesWord_7 rfl (lv_at hl 1 rfl) ?_
  obtain ⟨g1, h⟩ := ui_of h
  refine u_aald C G rrX_2 (t0 := 4) rfl rfl g1 dX9_makesWord_8 (fun b2 => ?_)
  refine lv_aload_n hx hb dX9_makesWord_9 rfl (lv_at hl 0 rfl) ?_
  refine u_get (v := .ref (ad 1)) C G obX_0 (ci := 9) (N := 14) (Cn := RX9) (T := TX9) rfl fi_X9_makesWord_9 0 (by decide) (by decide +kernel) rfl dX9_makesWord_10 ?_
  refine u_get (v := .ref (ad 3)) C G obX_1 (ci := 5) (N := 2) (Cn := RX5) (T := TX5) rfl fi_X9_makesWord_5 1 (by decide) (by decide +kernel) rfl dX9_makesWord_13 ?_
  refine lv_iload_n hx hb dX9_makesWord_16 rfl (lv_at hl 1 rfl) ?_
  obtain ⟨g3, h⟩ := ui_of h
  refine u_iald C G arX_3 (t0 := 0) rfl g3 dX9_makesWord_17 ?_
  obtain ⟨r4, σ5, er4, h⟩ := ub_of h
  refine u_callSi (As := [.ref (ad (4 + v1.toNatClampNeg)), .int (σ 3 v1.toNatClampNeg)]) (rest := []) C G (c_X8_lettersIn l D ad cs C.2.2.1 σ v1.toNatClampNeg (σ 3 v1.toNatClampNeg) b2 r4 σ5 er4) (va_cwS 2 C.1.2.2.2.2 gX9_makesWord_X8_lettersIn rfl rfl rfl (by decide +kernel) ⟨Nat.le_of_ble_eq_true rfl, Nat.le_of_ble_eq_true rfl⟩) rfl hl rfl (Nat.le_of_ble_eq_true rfl) dX9_makesWord_18 (fun H locs G => ?_)
  refine lv_istore_n (lv' := [(2, .int r4), (0, .ref (ad 0)), (1, .int v1)]) hx hb dX9_makesWord_21 rfl hl (by decide) rfl (fun ls hl => ?_)
  refine lv_iload_n hx hb dX9_makesWord_22 rfl (lv_at hl 0 rfl) ?_
  refine lv_iconst (v := 1) hx hb dX9_makesWord_23 (by decide) ?_
  refine lv_icmp_lt (tgt := 37) hx hb dX9_makesWord_24 (by decide) (fun q => ?_) (fun q => ?_)
  · have h := u_pos q h
    refine lv_iconst (v := 0) hx hb dX9_makesWord_37 (by decide) ?_
    obtain ⟨rfl, rfl⟩ := u_end h
    exact u_zret hx hb hr hlk G (by decide) dX9_makesWord_38
  · have h := u_neg q h
    refine lv_iload_n hx hb dX9_makesWord_27 rfl (lv_at hl 0 rfl) ?_
    refine lv_bipush (v := 8) hx hb dX9_makesWord_28 (by decide) ?_
    refine lv_icmp_gt (tgt := 37) hx hb dX9_makesWord_30 (by decide) (fun q => ?_) (fun q => ?_)
    · have h := u_pos q h
      refine lv_iconst (v := 0) hx hb dX9_makesWord_37 (by decide) ?_
      obtain ⟨rfl, rfl⟩ := u_end h
      exact u_zret hx hb hr hlk G (by decide) dX9_makesWord_38
    · have h := u_neg q h
      refine lv_iconst (v := 1) hx hb dX9_makesWord_33 (by decide) ?_
      refine lv_goto (tgt := 38) hx hb dX9_makesWord_34 (by decide) ?_
      obtain ⟨rfl, rfl⟩ := u_end h
      exact u_zret hx hb hr hlk G (by decide) dX9_makesWord_38
/-! X9_word -/
def f_X9_word (σ : St) (v1 : Int32) : Option (Int32 × St) :=
  ub (f_X5_isNumber σ v1) fun r1 σ2 =>
  if r1 = 0 then
    some (((-1) : Int32), σ2)
  else
    ub (f_X8_isFull σ2) fun r3 σ4 =>
    if r3 = 0 then
      ub (f_X5_isThere σ4 v1) fun r5 σ6 =>
      if r5 = 0 then
        ub (f_X9_refuse σ6 (1 : Int32)) fun r16 σ17 =>
        some (r16, σ17)
      else
        ub (f_X9_makesWord σ6 v1) fun r7 σ8 =>
        if r7 = 0 then
          ub (f_X9_refuse σ8 (5 : Int32)) fun r14 σ15 =>
          some (r14, σ15)
        else
          ui v1 4 <|
          ui v1 4 <|
          ub (f_X8_add σ8 v1.toNatClampNeg (σ8 3 v1.toNatClampNeg) (0 : Int32) ((-9) : Int32)) fun r12 σ13 =>
          some (r12, σ13)
    else
      some (((-2) : Int32), σ4)
theorem fi_X9_word_5 : ∀ w ∈ u_ws RX5 TX5 2, w ∈ wsX9_word := by decide +kernel
theorem fi_X9_word_9 : ∀ w ∈ u_ws RX9 TX9 14, w ∈ wsX9_word := by decide +kernel
set_option maxHeartbeats 4000000 in
set_option maxRecDepth 100000 in
theorem c_X9_word (l : Launch) (D : va_G) (ad : Nat → Nat) (cs : Nat → ClassId) (J : uJ 99 ad) (σ : St) (v1 : Int32) (r : Int32) (σ' : St) (h : f_X9_word σ v1 = some (r, σ')) : uMi l yX9_word wsX9_word { frames := 3, cells := 0, slots := 0, locals := 65 } D vwCl (tyX cs) 99 ad (enX ad cs) [.ref (ad 0), .int v1] σ r σ' := by
  refine u_met (Qf := uQi D vwCl 99 ad (enX ad cs) r σ') (cc := cX9_word) (maxL := 2) (ret := (some .int)) (lv := [(0, .ref (ad 0)), (1, .int v1)]) J (by decide) rfl (Nat.le_of_ble_eq_true rfl) rfl rfl rfl ?_
  intro p e s m args below meth c ls hx hb C hr hlk G hl
  unfold f_X9_word at h
  obtain ⟨H, eH⟩ : ∃ H, H = s.heap := ⟨_, rfl⟩
  obtain ⟨locs, eL⟩ : ∃ locs : List Loc, locs = [] := ⟨_, rfl⟩
  refine u_start eH eL G ?_
  clear G eH eL
  intro G
  refine lv_iload_n hx hb dX9_word_0 rfl (lv_at hl 1 rfl) ?_
  obtain ⟨r1, σ2, er1, h⟩ := ub_of h
  refine u_callSi (As := [.int v1]) (rest := []) C G (c_X5_isNumber l D ad cs C.2.2.1 σ v1 r1 σ2 er1) (va_cwS 1 C.1.2.2.2.2 gX9_word_X5_isNumber rfl rfl rfl (by decide +kernel) ⟨Nat.le_of_ble_eq_true rfl, Nat.le_of_ble_eq_true rfl⟩) rfl hl rfl (Nat.le_of_ble_eq_true rfl) dX9_word_1 (fun H locs G => ?_)
  refine lv_if_ne (tgt := 9) hx hb dX9_word_4 (by decide) (fun q => ?_) (fun q => ?_)
  · have h := u_neg q h
    refine lv_aload_n hx hb dX9_word_9 rfl (lv_at hl 0 rfl) ?_
    refine u_get (v := .ref (ad 8)) C G obX_0 (ci := 9) (N := 14) (Cn := RX9) (T := TX9) rfl fi_X9_word_9 1 (by decide) (by decide +kernel) rfl dX9_word_10 ?_
    obtain ⟨r3, σ4, er3, h⟩ := ub_of h
    refine u_callVi (As := []) (rest := []) C G (c_X8_isFull l D ad cs C.2.2.1 σ2 r3 σ4 er3) (cwV 0 C.1.2.2.2.2 gX9_word_X8_isFull rfl rfl rfl (by decide +kernel) ⟨Nat.le_of_ble_eq_true rfl, Nat.le_of_ble_eq_true rfl⟩) obX_8 (ci := 8) (T := TX8) rfl rfl hl rfl (Nat.le_of_ble_eq_true rfl) dX9_word_13 (fun H locs G => ?_)
    refine lv_if_eq (tgt := 22) hx hb dX9_word_16 (by decide) (fun q => ?_) (fun q => ?_)
    · have h := u_pos q h
      refine lv_aload_n hx hb dX9_word_22 rfl (lv_at hl 0 rfl) ?_
      refine u_get (v := .ref (ad 1)) C G obX_0 (ci := 9) (N := 14) (Cn := RX9) (T := TX9) rfl fi_X9_word_9 0 (by decide) (by decide +kernel) rfl dX9_word_23 ?_
      refine lv_iload_n hx hb dX9_word_26 rfl (lv_at hl 1 rfl) ?_
      obtain ⟨r5, σ6, er5, h⟩ := ub_of h
      refine u_callVi (As := [.int v1]) (rest := []) C G (c_X5_isThere l D ad cs C.2.2.1 σ4 v1 r5 σ6 er5) (cwV 1 C.1.2.2.2.2 gX9_word_X5_isThere rfl rfl rfl (by decide +kernel) ⟨Nat.le_of_ble_eq_true rfl, Nat.le_of_ble_eq_true rfl⟩) obX_1 (ci := 5) (T := TX5) rfl rfl hl rfl (Nat.le_of_ble_eq_true rfl) dX9_word_27 (fun H locs G => ?_)
      refine lv_if_ne (tgt := 39) hx hb dX9_word_30 (by decide) (fun q => ?_) (fun q => ?_)
      · have h := u_neg q h
        refine lv_aload_n hx hb dX9_word_39 rfl (lv_at hl 0 rfl) ?_
        refine lv_iload_n hx hb dX9_word_40 rfl (lv_at hl 1 rfl) ?_
        obtain ⟨r7, σ8, er7, h⟩ := ub_of h
        refine u_callVi (As := [.int v1]) (rest := []) C G (c_X9_makesWord l D ad cs C.2.2.1 σ6 v1 r7 σ8 er7) (cwV 1 C.1.2.2.2.2 gX9_word_X9_makesWord rfl rfl rfl (by decide +kernel) ⟨Nat.le_of_ble_eq_true rfl, Nat.le_of_ble_eq_true rfl⟩) obX_0 (ci := 9) (T := TX9) rfl rfl hl rfl (Nat.le_of_ble_eq_true rfl) dX9_word_41 (fun H locs G => ?_)
        refine lv_if_ne (tgt := 53) hx hb dX9_word_44 (by decide) (fun q => ?_) (fun q => ?_)
        · have h := u_neg q h
          refine lv_aload_n hx hb dX9_word_53 rfl (lv_at hl 0 rfl) ?_
          refine u_get (v := .ref (ad 8)) C G obX_0 (ci := 9) (N := 14) (Cn := RX9) (T := TX9) rfl fi_X9_word_9 1 (by decide) (by decide +kernel) rfl dX9_word_54 ?_
          refine lv_aload_n hx hb dX9_word_57 rfl (lv_at hl 0 rfl) ?_
          refine u_get (v := .ref (ad 1)) C G obX_0 (ci := 9) (N := 14) (Cn := RX9) (T := TX9) rfl fi_X9_word_9 0 (by decide) (by decide +kernel) rfl dX9_word_58 ?_
          refine u_get (v := .ref (ad 2)) C G obX_1 (ci := 5) (N := 2) (Cn := RX5) (T := TX5) rfl fi_X9_word_5 0 (by decide) (by decide +kernel) rfl dX9_word_61 ?_
          refine lv_iload_n hx hb dX9_word_64 rfl (lv_at hl 1 rfl) ?_
          obtain ⟨g9, h⟩ := ui_of h
          refine u_aald C G rrX_2 (t0 := 4) rfl rfl g9 dX9_word_65 (fun b10 => ?_)
          refine lv_aload_n hx hb dX9_word_66 rfl (lv_at hl 0 rfl) ?_
          refine u_get (v := .ref (ad 1)) C G obX_0 (ci := 9) (N := 14) (Cn := RX9) (T := TX9) rfl fi_X9_word_9 0 (by decide) (by decide +kernel) rfl dX9_word_67 ?_
          refine u_get (v := .ref (ad 3)) C G obX_1 (ci := 5) (N := 2) (Cn := RX5) (T := TX5) rfl fi_X9_word_5 1 (by decide) (by decide +kernel) rfl dX9_word_70 ?_
          refine lv_iload_n hx hb dX9_word_73 rfl (lv_at hl 1 rfl) ?_
          obtain ⟨g11, h⟩ := ui_of h
          refine u_iald C G arX_3 (t0 := 0) rfl g11 dX9_word_74 ?_
          refine lv_iconst (v := 0) hx hb dX9_word_75 (by decide) ?_
          refine lv_bipush (v := (-9)) hx hb dX9_word_76 (by decide) ?_
          obtain ⟨r12, σ13, er12, h⟩ := ub_of h
          refine u_callVi (As := [.ref (ad (4 + v1.toNatClampNeg)), .int (σ8 3 v1.toNatClampNeg), .int 0, .int (-9)]) (rest := []) C G (c_X8_add l D ad cs C.2.2.1 σ8 v1.toNatClampNeg (σ8 3 v1.toNatClampNeg) (0 : Int32) ((-9) : Int32) b10 r12 σ13 er12) (cwV 4 C.1.2.2.2.2 gX9_word_X8_add rfl rfl rfl (by decide +kernel) ⟨Nat.le_of_ble_eq_true rfl, Nat.le_of_ble_eq_true rfl⟩) obX_8 (ci := 8) (T := TX8) rfl rfl hl rfl (Nat.le_of_ble_eq_true rfl) dX9_word_78 (fun H locs G => ?_)
          obtain ⟨rfl, rfl⟩ := u_end h
          exact u_iret hx hb hr hlk G dX9_word_81
        · have h := u_pos q h
          refine lv_aload_n hx hb dX9_word_47 rfl (lv_at hl 0 rfl) ?_
          refine lv_iconst (v := 5) hx hb dX9_word_48 (by decide) ?_
          obtain ⟨r14, σ15, er14, h⟩ := ub_of h
          refine u_callVi (As := [.int 5]) (rest := []) C G (c_X9_refuse l D ad cs C.2.2.1 σ8 (5 : Int32) r14 σ15 er14) (cwV 1 C.1.2.2.2.2 gX9_word_X9_refuse rfl rfl rfl (by decide +kernel) ⟨Nat.le_of_ble_eq_true rfl, Nat.le_of_ble_eq_true rfl⟩) obX_0 (ci := 9) (T := TX9) rfl rfl hl rfl (Nat.le_of_ble_eq_true rfl) dX9_word_49 (fun H locs G => ?_)
          obtain ⟨rfl, rfl⟩ := u_end h
          exact u_iret hx hb hr hlk G dX9_word_52
      · have h := u_pos q h
        refine lv_aload_n hx hb dX9_word_33 rfl (lv_at hl 0 rfl) ?_
        refine lv_iconst (v := 1) hx hb dX9_word_34 (by decide) ?_
        obtain ⟨r16, σ17, er16, h⟩ := ub_of h
        refine u_callVi (As := [.int 1]) (rest := []) C G (c_X9_refuse l D ad cs C.2.2.1 σ6 (1 : Int32) r16 σ17 er16) (cwV 1 C.1.2.2.2.2 gX9_word_X9_refuse rfl rfl rfl (by decide +kernel) ⟨Nat.le_of_ble_eq_true rfl, Nat.le_of_ble_eq_true rfl⟩) obX_0 (ci := 9) (T := TX9) rfl rfl hl rfl (Nat.le_of_ble_eq_true rfl) dX9_word_35 (fun H locs G => ?_)
        obtain ⟨rfl, rfl⟩ := u_end h
        exact u_iret hx hb hr hlk G dX9_word_38
    · have h := u_neg q h
      refine lv_bipush (v := (-2)) hx hb dX9_word_19 (by decide) ?_
      obtain ⟨rfl, rfl⟩ := u_end h
      exact u_iret hx hb hr hlk G dX9_word_21
  · have h := u_pos q h
    refine lv_iconst (v := (-1)) hx hb dX9_word_7 (by decide) ?_
    obtain ⟨rfl, rfl⟩ := u_end h
    exact u_iret hx hb hr hlk G dX9_word_8
/-! X9_firm -/
def f_X9_firm_142 (σ : St) (v1 : Int32) (v2 : Int32) (v3 : Int32) (v4 : Int32) (v5 : Int32) (v6 : Int32) : Option (Int32 × St) :=
  ub (f_X9_makesWord σ v1) fun r32 σ33 =>
  if r32 = 0 then
    ub (f_X9_refuse σ33 (5 : Int32)) fun r45 σ46 =>
    some (r45, σ46)
  else
    ui v1 4 <|
    ui v1 4 <|
    if v6 = 0 then
      ub (f_X8_add σ33 v1.toNatClampNeg (σ33 3 v1.toNatClampNeg) (1 : Int32) v5) fun r37 σ38 =>
      ub (f_X8_settle σ38 r37 v2 v3 v4) fun r39 σ40 =>
      some (r37, σ40)
    else
      ub (f_X8_add σ33 v1.toNatClampNeg (σ33 3 v1.toNatClampNeg) (2 : Int32) v5) fun r41 σ42 =>
      ub (f_X8_settle σ42 r41 v2 v3 v4) fun r43 σ44 =>
      some (r41, σ44)
def f_X9_firm_47 (σ : St) (v1 : Int32) (v2 : Int32) (v3 : Int32) (v4 : Int32) (v5 : Int32) (v6 : Int32) : Option (Int32 × St) :=
  ub (f_X6_isYear σ v3) fun r11 σ12 =>
  if r11 = 0 then
    some (((-1) : Int32), σ12)
  else
    ub (f_X6_isYear σ12 v4) fun r13 σ14 =>
    if r13 = 0 then
      some (((-1) : Int32), σ14)
    else
      if v3 ≤ v4 then
        ub (f_X8_isFull σ14) fun r15 σ16 =>
        if r15 = 0 then
          ub (f_X5_isThere σ16 v1) fun r17 σ18 =>
          if r17 = 0 then
            ub (f_X9_refuse σ18 (1 : Int32)) fun r19 σ20 =>
            some (r19, σ20)
          else
            if v6 = 0 then
              if v6 = 0 then
                f_X9_firm_142 σ18 v1 v2 v3 v4 v5 v6
              else
                ub (f_X8_isOf σ18 v5 (1 : Int32)) fun r21 σ22 =>
                if r21 = 0 then
                  ub (f_X9_refuse σ22 (3 : Int32)) fun r23 σ24 =>
                  some (r23, σ24)
                else
                  f_X9_firm_142 σ22 v1 v2 v3 v4 v5 v6
            else
              ui v5 16 <|
              if (σ18 17 v5.toNatClampNeg) = 0 then
                if v6 = 0 then
                  f_X9_firm_142 σ18 v1 v2 v3 v4 v5 v6
                else
                  ub (f_X8_isOf σ18 v5 (1 : Int32)) fun r26 σ27 =>
                  if r26 = 0 then
                    ub (f_X9_refuse σ27 (3 : Int32)) fun r28 σ29 =>
                    some (r28, σ29)
                  else
                    f_X9_firm_142 σ27 v1 v2 v3 v4 v5 v6
              else
                ub (f_X9_refuse σ18 (1 : Int32)) fun r30 σ31 =>
                some (r30, σ31)
        else
          some (((-2) : Int32), σ16)
      else
        some (((-1) : Int32), σ14)
def f_X9_firm (σ : St) (v1 : Int32) (v2 : Int32) (v3 : Int32) (v4 : Int32) (v5 : Int32) : Option (Int32 × St) :=
  if v5 = (-9) then
    ub (f_X5_isNumber σ v1) fun r1 σ2 =>
    if r1 = 0 then
      some (((-1) : Int32), σ2)
    else
      ub (f_X6_isNumber σ2 v2) fun r3 σ4 =>
      if r3 = 0 then
        some (((-1) : Int32), σ4)
      else
        f_X9_firm_47 σ4 v1 v2 v3 v4 v5 0
  else
    ub (f_X5_isNumber σ v1) fun r5 σ6 =>
    if r5 = 0 then
      some (((-1) : Int32), σ6)
    else
      ub (f_X6_isNumber σ6 v2) fun r7 σ8 =>
      if r7 = 0 then
        some (((-1) : Int32), σ8)
      else
        ub (f_X8_isNumber σ8 v5) fun r9 σ10 =>
        if r9 = 0 then
          some (((-1) : Int32), σ10)
        else
          f_X9_firm_47 σ10 v1 v2 v3 v4 v5 1
theorem fi_X9_firm_5 : ∀ w ∈ u_ws RX5 TX5 2, w ∈ wsX9_firm := by decide +kernel
theorem fi_X9_firm_8 : ∀ w ∈ u_ws RX8 TX8 10, w ∈ wsX9_firm := by decide +kernel
theorem fi_X9_firm_9 : ∀ w ∈ u_ws RX9 TX9 14, w ∈ wsX9_firm := by decide +kernel
set_option maxHeartbeats 4000000 in
set_option maxRecDepth 100000 in
theorem w_X9_firm_142 {p : Program} {l : Launch} {e : Env} {s : State} {m : MethodId} {args : Array Value} {below : List Frame} {meth : Method} {c : Code} {D : va_G} {ad : Nat → Nat} {cs : Nat → ClassId} (C : uC p { frames := 3, cells := 0, slots := 0, locals := 65 } s m args c cX9_firm 8 wsX9_firm RX9 D vwCl (tyX cs) 99 ad (uAd 99 ad s.heap.size) 0 0) (hr : meth.sig.returnType = (some .int)) (hlk : meth.locks = false) {r : Int32} {σ' : St} :
    ∀ (σ : St) (v1 : Int32) (v2 : Int32) (v3 : Int32) (v4 : Int32) (v5 : Int32) (v6 : Int32), f_X9_firm_142 σ v1 v2 v3 v4 v5 v6 = some (r, σ') → ∀ (H : Heap) (locs : List Loc) (ls : Array Slot), uG D vwCl 99 ad (enX ad cs) (uAd 99 ad s.heap.size) s σ H locs → lv_has ls 8 [(0, .ref (ad 0)), (1, .int v1), (2, .int v2), (3, .int v3), (4, .int v4), (5, .int v5), (6, .int v6)] → W p l e { frames := 3, cells := 0, slots := 0, locals := 65 } s m args below meth c H locs 0 0 (MQ below (uQi D vwCl 99 ad (enX ad cs) r σ' s.heap.size) args s 0 0 (uAd 99 ad s.heap.size)) (F0 m 142 ls []) := by
  have hx := C.1.1
  have hb := C.1.2.1
  intro σ v1 v2 v3 v4 v5 v6  h H locs ls G hl
  unfold f_X9_firm_142 at h
  refine lv_aload_n hx hb dX9_firm_142 rfl (lv_at hl 0 rfl) ?_
  refine lv_iload_n hx hb dX9_firm_143 rfl (lv_at hl 1 rfl) ?_
  obtain ⟨r32, σ33, er32, h⟩ := ub_of h
  refine u_callVi (As := [.int v1]) (rest := []) C G (c_X9_makesWord l D ad cs C.2.2.1 σ v1 r32 σ33 er32) (cwV 1 C.1.2.2.2.2 gX9_firm_X9_makesWord rfl rfl rfl (by decide +kernel) ⟨Nat.le_of_ble_eq_true rfl, Nat.le_of_ble_eq_true rfl⟩) obX_0 (ci := 9) (T := TX9) rfl rfl hl rfl (Nat.le_of_ble_eq_true rfl) dX9_firm_144 (fun H locs G => ?_)
  refine lv_if_ne (tgt := 156) hx hb dX9_firm_147 (by decide) (fun q => ?_) (fun q => ?_)
  · have h := u_neg q h
    refine lv_aload_n hx hb dX9_firm_156 rfl (lv_at hl 0 rfl) ?_
    refine u_get (v := .ref (ad 8)) C G obX_0 (ci := 9) (N := 14) (Cn := RX9) (T := TX9) rfl fi_X9_firm_9 1 (by decide) (by decide +kernel) rfl dX9_firm_157 ?_
    refine lv_aload_n hx hb dX9_firm_160 rfl (lv_at hl 0 rfl) ?_
    refine u_get (v := .ref (ad 1)) C G obX_0 (ci := 9) (N := 14) (Cn := RX9) (T := TX9) rfl fi_X9_firm_9 0 (by decide) (by decide +kernel) rfl dX9_firm_161 ?_
    refine u_get (v := .ref (ad 2)) C G obX_1 (ci := 5) (N := 2) (Cn := RX5) (T := TX5) rfl fi_X9_firm_5 0 (by decide) (by decide +kernel) rfl dX9_firm_164 ?_
    refine lv_iload_n hx hb dX9_firm_167 rfl (lv_at hl 1 rfl) ?_
    obtain ⟨g34, h⟩ := ui_of h
    refine u_aald C G rrX_2 (t0 := 4) rfl rfl g34 dX9_firm_168 (fun b35 => ?_)
    refine lv_aload_n hx hb dX9_firm_169 rfl (lv_at hl 0 rfl) ?_
    refine u_get (v := .ref (ad 1)) C G obX_0 (ci := 9) (N := 14) (Cn := RX9) (T := TX9) rfl fi_X9_firm_9 0 (by decide) (by decide +kernel) rfl dX9_firm_170 ?_
    refine u_get (v := .ref (ad 3)) C G obX_1 (ci := 5) (N := 2) (Cn := RX5) (T := TX5) rfl fi_X9_firm_5 1 (by decide) (by decide +kernel) rfl dX9_firm_173 ?_
    refine lv_iload_n hx hb dX9_firm_176 rfl (lv_at hl 1 rfl) ?_
    obtain ⟨g36, h⟩ := ui_of h
    refine u_iald C G arX_3 (t0 := 0) rfl g36 dX9_firm_177 ?_
    refine lv_iload hx hb dX9_firm_178 (lv_at hl 6 rfl) ?_
    refine lv_if_eq (tgt := 187) hx hb dX9_firm_180 (by decide) (fun q => ?_) (fun q => ?_)
    · have h := u_pos q h
      refine lv_iconst (v := 1) hx hb dX9_firm_187 (by decide) ?_
      refine lv_iload hx hb dX9_firm_188 (lv_at hl 5 rfl) ?_
      obtain ⟨r37, σ38, er37, h⟩ := ub_of h
      refine u_callVi (As := [.ref (ad (4 + v1.toNatClampNeg)), .int (σ33 3 v1.toNatClampNeg), .int 1, .int v5]) (rest := []) C G (c_X8_add l D ad cs C.2.2.1 σ33 v1.toNatClampNeg (σ33 3 v1.toNatClampNeg) (1 : Int32) v5 b35 r37 σ38 er37) (cwV 4 C.1.2.2.2.2 gX9_firm_X8_add rfl rfl rfl (by decide +kernel) ⟨Nat.le_of_ble_eq_true rfl, Nat.le_of_ble_eq_true rfl⟩) obX_8 (ci := 8) (T := TX8) rfl rfl hl rfl (Nat.le_of_ble_eq_true rfl) dX9_firm_190 (fun H locs G => ?_)
      refine lv_istore (lv' := [(7, .int r37), (0, .ref (ad 0)), (1, .int v1), (2, .int v2), (3, .int v3), (4, .int v4), (5, .int v5), (6, .int v6)]) hx hb dX9_firm_193 hl (by decide) rfl (fun ls hl => ?_)
      refine lv_aload_n hx hb dX9_firm_195 rfl (lv_at hl 1 rfl) ?_
      refine u_get (v := .ref (ad 8)) C G obX_0 (ci := 9) (N := 14) (Cn := RX9) (T := TX9) rfl fi_X9_firm_9 1 (by decide) (by decide +kernel) rfl dX9_firm_196 ?_
      refine lv_iload hx hb dX9_firm_199 (lv_at hl 0 rfl) ?_
      refine lv_iload_n hx hb dX9_firm_201 rfl (lv_at hl 3 rfl) ?_
      refine lv_iload_n hx hb dX9_firm_202 rfl (lv_at hl 4 rfl) ?_
      refine lv_iload hx hb dX9_firm_203 (lv_at hl 5 rfl) ?_
      obtain ⟨r39, σ40, er39, h⟩ := ub_of h
      refine u_callVv (As := [.int r37, .int v2, .int v3, .int v4]) (rest := []) C G (c_X8_settle l D ad cs C.2.2.1 σ38 r37 v2 v3 v4 r39 σ40 er39) (cwV 4 C.1.2.2.2.2 gX9_firm_X8_settle rfl rfl rfl (by decide +kernel) ⟨Nat.le_of_ble_eq_true rfl, Nat.le_of_ble_eq_true rfl⟩) obX_8 (ci := 8) (T := TX8) rfl rfl hl rfl (Nat.le_of_ble_eq_true rfl) dX9_firm_205 (fun H locs G => ?_)
      refine lv_iload hx hb dX9_firm_208 (lv_at hl 0 rfl) ?_
      obtain ⟨rfl, rfl⟩ := u_end h
      exact u_iret hx hb hr hlk G dX9_firm_210
    · have h := u_neg q h
      refine lv_iconst (v := 2) hx hb dX9_firm_183 (by decide) ?_
      refine lv_goto (tgt := 188) hx hb dX9_firm_184 (by decide) ?_
      refine lv_iload hx hb dX9_firm_188 (lv_at hl 5 rfl) ?_
      obtain ⟨r41, σ42, er41, h⟩ := ub_of h
      refine u_callVi (As := [.ref (ad (4 + v1.toNatClampNeg)), .int (σ33 3 v1.toNatClampNeg), .int 2, .int v5]) (rest := []) C G (c_X8_add l D ad cs C.2.2.1 σ33 v1.toNatClampNeg (σ33 3 v1.toNatClampNeg) (2 : Int32) v5 b35 r41 σ42 er41) (cwV 4 C.1.2.2.2.2 gX9_firm_X8_add rfl rfl rfl (by decide +kernel) ⟨Nat.le_of_ble_eq_true rfl, Nat.le_of_ble_eq_true rfl⟩) obX_8 (ci := 8) (T := TX8) rfl rfl hl rfl (Nat.le_of_ble_eq_true rfl) dX9_firm_190 (fun H locs G => ?_)
      refine lv_istore (lv' := [(7, .int r41), (0, .ref (ad 0)), (1, .int v1), (2, .int v2), (3, .int v3), (4, .int v4), (5, .int v5), (6, .int v6)]) hx hb dX9_firm_193 hl (by decide) rfl (fun ls hl => ?_)
      refine lv_aload_n hx hb dX9_firm_195 rfl (lv_at hl 1 rfl) ?_
      refine u_get (v := .ref (ad 8)) C G obX_0 (ci := 9) (N := 14) (Cn := RX9) (T := TX9) rfl fi_X9_firm_9 1 (by decide) (by decide +kernel) rfl dX9_firm_196 ?_
      refine lv_iload hx hb dX9_firm_199 (lv_at hl 0 rfl) ?_
      refine lv_iload_n hx hb dX9_firm_201 rfl (lv_at hl 3 rfl) ?_
      refine lv_iload_n hx hb dX9_firm_202 rfl (lv_at hl 4 rfl) ?_
      refine lv_iload hx hb dX9_firm_203 (lv_at hl 5 rfl) ?_
      obtain ⟨r43, σ44, er43, h⟩ := ub_of h
      refine u_callVv (As := [.int r41, .int v2, .int v3, .int v4]) (rest := []) C G (c_X8_settle l D ad cs C.2.2.1 σ42 r41 v2 v3 v4 r43 σ44 er43) (cwV 4 C.1.2.2.2.2 gX9_firm_X8_settle rfl rfl rfl (by decide +kernel) ⟨Nat.le_of_ble_eq_true rfl, Nat.le_of_ble_eq_true rfl⟩) obX_8 (ci := 8) (T := TX8) rfl rfl hl rfl (Nat.le_of_ble_eq_true rfl) dX9_firm_205 (fun H locs G => ?_)
      refine lv_iload hx hb dX9_firm_208 (lv_at hl 0 rfl) ?_
      obtain ⟨rfl, rfl⟩ := u_end h
      exact u_iret hx hb hr hlk G dX9_firm_210
  · have h := u_pos q h
    refine lv_aload_n hx hb dX9_firm_150 rfl (lv_at hl 0 rfl) ?_
    refine lv_iconst (v := 5) hx hb dX9_firm_151 (by decide) ?_
    obtain ⟨r45, σ46, er45, h⟩ := ub_of h
    refine u_callVi (As := [.int 5]) (rest := []) C G (c_X9_refuse l D ad cs C.2.2.1 σ33 (5 : Int32) r45 σ46 er45) (cwV 1 C.1.2.2.2.2 gX9_firm_X9_refuse rfl rfl rfl (by decide +kernel) ⟨Nat.le_of_ble_eq_true rfl, Nat.le_of_ble_eq_true rfl⟩) obX_0 (ci := 9) (T := TX9) rfl rfl hl rfl (Nat.le_of_ble_eq_true rfl) dX9_firm_152 (fun H locs G => ?_)
    obtain ⟨rfl, rfl⟩ := u_end h
    exact u_iret hx hb hr hlk G dX9_firm_155
set_option maxHeartbeats 4000000 in
set_option maxRecDepth 100000 in
theorem w_X9_firm_47 {p : Program} {l : Launch} {e : Env} {s : State} {m : MethodId} {args : Array Value} {below : List Frame} {meth : Method} {c : Code} {D : va_G} {ad : Nat → Nat} {cs : Nat → ClassId} (C : uC p { frames := 3, cells := 0, slots := 0, locals := 65 } s m args c cX9_firm 8 wsX9_firm RX9 D vwCl (tyX cs) 99 ad (uAd 99 ad s.heap.size) 0 0) (hr : meth.sig.returnType = (some .int)) (hlk : meth.locks = false) {r : Int32} {σ' : St} :
    ∀ (σ : St) (v1 : Int32) (v2 : Int32) (v3 : Int32) (v4 : Int32) (v5 : Int32) (v6 : Int32), f_X9_firm_47 σ v1 v2 v3 v4 v5 v6 = some (r, σ') → ∀ (H : Heap) (locs : List Loc) (ls : Array Slot), uG D vwCl 99 ad (enX ad cs) (uAd 99 ad s.heap.size) s σ H locs → lv_has ls 8 [(0, .ref (ad 0)), (1, .int v1), (2, .int v2), (3, .int v3), (4, .int v4), (5, .int v5), (6, .int v6)] → W p l e { frames := 3, cells := 0, slots := 0, locals := 65 } s m args below meth c H locs 0 0 (MQ below (uQi D vwCl 99 ad (enX ad cs) r σ' s.heap.size) args s 0 0 (uAd 99 ad s.heap.size)) (F0 m 47 ls []) := by
  have hx := C.1.1
  have hb := C.1.2.1
  intro σ v1 v2 v3 v4 v5 v6  h H locs ls G hl
  unfold f_X9_firm_47 at h
  refine lv_iload_n hx hb dX9_firm_47 rfl (lv_at hl 3 rfl) ?_
  obtain ⟨r11, σ12, er11, h⟩ := ub_of h
  refine u_callSi (As := [.int v3]) (rest := []) C G (c_X6_isYear l D ad cs C.2.2.1 σ v3 r11 σ12 er11) (va_cwS 1 C.1.2.2.2.2 gX9_firm_X6_isYear rfl rfl rfl (by decide +kernel) ⟨Nat.le_of_ble_eq_true rfl, Nat.le_of_ble_eq_true rfl⟩) rfl hl rfl (Nat.le_of_ble_eq_true rfl) dX9_firm_48 (fun H locs G => ?_)
  refine lv_if_eq (tgt := 68) hx hb dX9_firm_51 (by decide) (fun q => ?_) (fun q => ?_)
  · have h := u_pos q h
    refine lv_iconst (v := (-1)) hx hb dX9_firm_68 (by decide) ?_
    obtain ⟨rfl, rfl⟩ := u_end h
    exact u_iret hx hb hr hlk G dX9_firm_69
  · have h := u_neg q h
    refine lv_iload hx hb dX9_firm_54 (lv_at hl 4 rfl) ?_
    obtain ⟨r13, σ14, er13, h⟩ := ub_of h
    refine u_callSi (As := [.int v4]) (rest := []) C G (c_X6_isYear l D ad cs C.2.2.1 σ12 v4 r13 σ14 er13) (va_cwS 1 C.1.2.2.2.2 gX9_firm_X6_isYear rfl rfl rfl (by decide +kernel) ⟨Nat.le_of_ble_eq_true rfl, Nat.le_of_ble_eq_true rfl⟩) rfl hl rfl (Nat.le_of_ble_eq_true rfl) dX9_firm_56 (fun H locs G => ?_)
    refine lv_if_eq (tgt := 68) hx hb dX9_firm_59 (by decide) (fun q => ?_) (fun q => ?_)
    · have h := u_pos q h
      refine lv_iconst (v := (-1)) hx hb dX9_firm_68 (by decide) ?_
      obtain ⟨rfl, rfl⟩ := u_end h
      exact u_iret hx hb hr hlk G dX9_firm_69
    · have h := u_neg q h
      refine lv_iload_n hx hb dX9_firm_62 rfl (lv_at hl 3 rfl) ?_
      refine lv_iload hx hb dX9_firm_63 (lv_at hl 4 rfl) ?_
      refine lv_icmp_le (tgt := 70) hx hb dX9_firm_65 (by decide) (fun q => ?_) (fun q => ?_)
      · have h := u_pos q h
        refine lv_aload_n hx hb dX9_firm_70 rfl (lv_at hl 0 rfl) ?_
        refine u_get (v := .ref (ad 8)) C G obX_0 (ci := 9) (N := 14) (Cn := RX9) (T := TX9) rfl fi_X9_firm_9 1 (by decide) (by decide +kernel) rfl dX9_firm_71 ?_
        obtain ⟨r15, σ16, er15, h⟩ := ub_of h
        refine u_callVi (As := []) (rest := []) C G (c_X8_isFull l D ad cs C.2.2.1 σ14 r15 σ16 er15) (cwV 0 C.1.2.2.2.2 gX9_firm_X8_isFull rfl rfl rfl (by decide +kernel) ⟨Nat.le_of_ble_eq_true rfl, Nat.le_of_ble_eq_true rfl⟩) obX_8 (ci := 8) (T := TX8) rfl rfl hl rfl (Nat.le_of_ble_eq_true rfl) dX9_firm_74 (fun H locs G => ?_)
        refine lv_if_eq (tgt := 83) hx hb dX9_firm_77 (by decide) (fun q => ?_) (fun q => ?_)
        · have h := u_pos q h
          refine lv_aload_n hx hb dX9_firm_83 rfl (lv_at hl 0 rfl) ?_
          refine u_get (v := .ref (ad 1)) C G obX_0 (ci := 9) (N := 14) (Cn := RX9) (T := TX9) rfl fi_X9_firm_9 0 (by decide) (by decide +kernel) rfl dX9_firm_84 ?_
          refine lv_iload_n hx hb dX9_firm_87 rfl (lv_at hl 1 rfl) ?_
          obtain ⟨r17, σ18, er17, h⟩ := ub_of h
          refine u_callVi (As := [.int v1]) (rest := []) C G (c_X5_isThere l D ad cs C.2.2.1 σ16 v1 r17 σ18 er17) (cwV 1 C.1.2.2.2.2 gX9_firm_X5_isThere rfl rfl rfl (by decide +kernel) ⟨Nat.le_of_ble_eq_true rfl, Nat.le_of_ble_eq_true rfl⟩) obX_1 (ci := 5) (T := TX5) rfl rfl hl rfl (Nat.le_of_ble_eq_true rfl) dX9_firm_88 (fun H locs G => ?_)
          refine lv_if_eq (tgt := 112) hx hb dX9_firm_91 (by decide) (fun q => ?_) (fun q => ?_)
          · have h := u_pos q h
            refine lv_aload_n hx hb dX9_firm_112 rfl (lv_at hl 0 rfl) ?_
            refine lv_iconst (v := 1) hx hb dX9_firm_113 (by decide) ?_
            obtain ⟨r19, σ20, er19, h⟩ := ub_of h
            refine u_callVi (As := [.int 1]) (rest := []) C G (c_X9_refuse l D ad cs C.2.2.1 σ18 (1 : Int32) r19 σ20 er19) (cwV 1 C.1.2.2.2.2 gX9_firm_X9_refuse rfl rfl rfl (by decide +kernel) ⟨Nat.le_of_ble_eq_true rfl, Nat.le_of_ble_eq_true rfl⟩) obX_0 (ci := 9) (T := TX9) rfl rfl hl rfl (Nat.le_of_ble_eq_true rfl) dX9_firm_114 (fun H locs G => ?_)
            obtain ⟨rfl, rfl⟩ := u_end h
            exact u_iret hx hb hr hlk G dX9_firm_117
          · have h := u_neg q h
            refine lv_iload hx hb dX9_firm_94 (lv_at hl 6 rfl) ?_
            refine lv_if_eq (tgt := 118) hx hb dX9_firm_96 (by decide) (fun q => ?_) (fun q => ?_)
            · have h := u_pos q h
              refine lv_iload hx hb dX9_firm_118 (lv_at hl 6 rfl) ?_
              refine lv_if_eq (tgt := 142) hx hb dX9_firm_120 (by decide) (fun q => ?_) (fun q => ?_)
              · have h := u_pos q h
                exact w_X9_firm_142 C hr hlk σ18 v1 v2 v3 v4 v5 v6 h H locs ls G (lv_sub hl [0, 1, 2, 3, 4, 5, 6] rfl)
              · have h := u_neg q h
                refine lv_aload_n hx hb dX9_firm_123 rfl (lv_at hl 0 rfl) ?_
                refine u_get (v := .ref (ad 8)) C G obX_0 (ci := 9) (N := 14) (Cn := RX9) (T := TX9) rfl fi_X9_firm_9 1 (by decide) (by decide +kernel) rfl dX9_firm_124 ?_
                refine lv_iload hx hb dX9_firm_127 (lv_at hl 5 rfl) ?_
                refine lv_iconst (v := 1) hx hb dX9_firm_129 (by decide) ?_
                obtain ⟨r21, σ22, er21, h⟩ := ub_of h
                refine u_callVi (As := [.int v5, .int 1]) (rest := []) C G (c_X8_isOf l D ad cs C.2.2.1 σ18 v5 (1 : Int32) r21 σ22 er21) (cwV 2 C.1.2.2.2.2 gX9_firm_X8_isOf rfl rfl rfl (by decide +kernel) ⟨Nat.le_of_ble_eq_true rfl, Nat.le_of_ble_eq_true rfl⟩) obX_8 (ci := 8) (T := TX8) rfl rfl hl rfl (Nat.le_of_ble_eq_true rfl) dX9_firm_130 (fun H locs G => ?_)
                refine lv_if_ne (tgt := 142) hx hb dX9_firm_133 (by decide) (fun q => ?_) (fun q => ?_)
                · have h := u_neg q h
                  exact w_X9_firm_142 C hr hlk σ22 v1 v2 v3 v4 v5 v6 h H locs ls G (lv_sub hl [0, 1, 2, 3, 4, 5, 6] rfl)
                · have h := u_pos q h
                  refine lv_aload_n hx hb dX9_firm_136 rfl (lv_at hl 0 rfl) ?_
                  refine lv_iconst (v := 3) hx hb dX9_firm_137 (by decide) ?_
                  obtain ⟨r23, σ24, er23, h⟩ := ub_of h
                  refine u_callVi (As := [.int 3]) (rest := []) C G (c_X9_refuse l D ad cs C.2.2.1 σ22 (3 : Int32) r23 σ24 er23) (cwV 1 C.1.2.2.2.2 gX9_firm_X9_refuse rfl rfl rfl (by decide +kernel) ⟨Nat.le_of_ble_eq_true rfl, Nat.le_of_ble_eq_true rfl⟩) obX_0 (ci := 9) (T := TX9) rfl rfl hl rfl (Nat.le_of_ble_eq_true rfl) dX9_firm_138 (fun H locs G => ?_)
                  obtain ⟨rfl, rfl⟩ := u_end h
                  exact u_iret hx hb hr hlk G dX9_firm_141
            · have h := u_neg q h
              refine lv_aload_n hx hb dX9_firm_99 rfl (lv_at hl 0 rfl) ?_
              refine u_get (v := .ref (ad 8)) C G obX_0 (ci := 9) (N := 14) (Cn := RX9) (T := TX9) rfl fi_X9_firm_9 1 (by decide) (by decide +kernel) rfl dX9_firm_100 ?_
              refine u_get (v := .ref (ad 17)) C G obX_8 (ci := 8) (N := 10) (Cn := RX8) (T := TX8) rfl fi_X9_firm_8 8 (by decide) (by decide +kernel) rfl dX9_firm_103 ?_
              refine lv_iload hx hb dX9_firm_106 (lv_at hl 5 rfl) ?_
              obtain ⟨g25, h⟩ := ui_of h
              refine u_zald C G arX_17 (t0 := 2) rfl g25 dX9_firm_108 ?_
              refine lv_if_eq (tgt := 118) hx hb dX9_firm_109 (by decide) (fun q => ?_) (fun q => ?_)
              · have h := u_pos q h
                refine lv_iload hx hb dX9_firm_118 (lv_at hl 6 rfl) ?_
                refine lv_if_eq (tgt := 142) hx hb dX9_firm_120 (by decide) (fun q => ?_) (fun q => ?_)
                · have h := u_pos q h
                  exact w_X9_firm_142 C hr hlk σ18 v1 v2 v3 v4 v5 v6 h H locs ls G (lv_sub hl [0, 1, 2, 3, 4, 5, 6] rfl)
                · have h := u_neg q h
                  refine lv_aload_n hx hb dX9_firm_123 rfl (lv_at hl 0 rfl) ?_
                  refine u_get (v := .ref (ad 8)) C G obX_0 (ci := 9) (N := 14) (Cn := RX9) (T := TX9) rfl fi_X9_firm_9 1 (by decide) (by decide +kernel) rfl dX9_firm_124 ?_
                  refine lv_iload hx hb dX9_firm_127 (lv_at hl 5 rfl) ?_
                  refine lv_iconst (v := 1) hx hb dX9_firm_129 (by decide) ?_
                  obtain ⟨r26, σ27, er26, h⟩ := ub_of h
                  refine u_callVi (As := [.int v5, .int 1]) (rest := []) C G (c_X8_isOf l D ad cs C.2.2.1 σ18 v5 (1 : Int32) r26 σ27 er26) (cwV 2 C.1.2.2.2.2 gX9_firm_X8_isOf rfl rfl rfl (by decide +kernel) ⟨Nat.le_of_ble_eq_true rfl, Nat.le_of_ble_eq_true rfl⟩) obX_8 (ci := 8) (T := TX8) rfl rfl hl rfl (Nat.le_of_ble_eq_true rfl) dX9_firm_130 (fun H locs G => ?_)
                  refine lv_if_ne (tgt := 142) hx hb dX9_firm_133 (by decide) (fun q => ?_) (fun q => ?_)
                  · have h := u_neg q h
                    exact w_X9_firm_142 C hr hlk σ27 v1 v2 v3 v4 v5 v6 h H locs ls G (lv_sub hl [0, 1, 2, 3, 4, 5, 6] rfl)
                  · have h := u_pos q h
                    refine lv_aload_n hx hb dX9_firm_136 rfl (lv_at hl 0 rfl) ?_
                    refine lv_iconst (v := 3) hx hb dX9_firm_137 (by decide) ?_
                    obtain ⟨r28, σ29, er28, h⟩ := ub_of h
                    refine u_callVi (As := [.int 3]) (rest := []) C G (c_X9_refuse l D ad cs C.2.2.1 σ27 (3 : Int32) r28 σ29 er28) (cwV 1 C.1.2.2.2.2 gX9_firm_X9_refuse rfl rfl rfl (by decide +kernel) ⟨Nat.le_of_ble_eq_true rfl, Nat.le_of_ble_eq_true rfl⟩) obX_0 (ci := 9) (T := TX9) rfl rfl hl rfl (Nat.le_of_ble_eq_true rfl) dX9_firm_138 (fun H locs G => ?_)
                    obtain ⟨rfl, rfl⟩ := u_end h
                    exact u_iret hx hb hr hlk G dX9_firm_141
              · have h := u_neg q h
                refine lv_aload_n hx hb dX9_firm_112 rfl (lv_at hl 0 rfl) ?_
                refine lv_iconst (v := 1) hx hb dX9_firm_113 (by decide) ?_
                obtain ⟨r30, σ31, er30, h⟩ := ub_of h
                refine u_callVi (As := [.int 1]) (rest := []) C G (c_X9_refuse l D ad cs C.2.2.1 σ18 (1 : Int32) r30 σ31 er30) (cwV 1 C.1.2.2.2.2 gX9_firm_X9_refuse rfl rfl rfl (by decide +kernel) ⟨Nat.le_of_ble_eq_true rfl, Nat.le_of_ble_eq_true rfl⟩) obX_0 (ci := 9) (T := TX9) rfl rfl hl rfl (Nat.le_of_ble_eq_true rfl) dX9_firm_114 (fun H locs G => ?_)
                obtain ⟨rfl, rfl⟩ := u_end h
                exact u_iret hx hb hr hlk G dX9_firm_117
        · have h := u_neg q h
          refine lv_bipush (v := (-2)) hx hb dX9_firm_80 (by decide) ?_
          obtain ⟨rfl, rfl⟩ := u_end h
          exact u_iret hx hb hr hlk G dX9_firm_82
      · have h := u_neg q h
        refine lv_iconst (v := (-1)) hx hb dX9_firm_68 (by decide) ?_
        obtain ⟨rfl, rfl⟩ := u_end h
        exact u_iret hx hb hr hlk G dX9_firm_69
set_option maxHeartbeats 4000000 in
set_option maxRecDepth 100000 in
theorem c_X9_firm (l : Launch) (D : va_G) (ad : Nat → Nat) (cs : Nat → ClassId) (J : uJ 99 ad) (σ : St) (v1 : Int32) (v2 : Int32) (v3 : Int32) (v4 : Int32) (v5 : Int32) (r : Int32) (σ' : St) (h : f_X9_firm σ v1 v2 v3 v4 v5 = some (r, σ')) : uMi l yX9_firm wsX9_firm { frames := 3, cells := 0, slots := 0, locals := 65 } D vwCl (tyX cs) 99 ad (enX ad cs) [.ref (ad 0), .int v1, .int v2, .int v3, .int v4, .int v5] σ r σ' := by
  refine u_met (Qf := uQi D vwCl 99 ad (enX ad cs) r σ') (cc := cX9_firm) (maxL := 8) (ret := (some .int)) (lv := [(0, .ref (ad 0)), (1, .int v1), (2, .int v2), (3, .int v3), (4, .int v4), (5, .int v5)]) J (by decide) rfl (Nat.le_of_ble_eq_true rfl) rfl rfl rfl ?_
  intro p e s m args below meth c ls hx hb C hr hlk G hl
  unfold f_X9_firm at h
  obtain ⟨H, eH⟩ : ∃ H, H = s.heap := ⟨_, rfl⟩
  obtain ⟨locs, eL⟩ : ∃ locs : List Loc, locs = [] := ⟨_, rfl⟩
  refine u_start eH eL G ?_
  clear G eH eL
  intro G
  refine lv_iload hx hb dX9_firm_0 (lv_at hl 5 rfl) ?_
  refine lv_bipush (v := (-9)) hx hb dX9_firm_2 (by decide) ?_
  refine lv_icmp_eq (tgt := 11) hx hb dX9_firm_4 (by decide) (fun q => ?_) (fun q => ?_)
  · have h := u_pos q h
    refine lv_iconst (v := 0) hx hb dX9_firm_11 (by decide) ?_
    refine lv_istore (lv' := [(6, .int 0), (0, .ref (ad 0)), (1, .int v1), (2, .int v2), (3, .int v3), (4, .int v4), (5, .int v5)]) hx hb dX9_firm_12 hl (by decide) rfl (fun ls hl => ?_)
    refine lv_iload_n hx hb dX9_firm_14 rfl (lv_at hl 2 rfl) ?_
    obtain ⟨r1, σ2, er1, h⟩ := ub_of h
    refine u_callSi (As := [.int v1]) (rest := []) C G (c_X5_isNumber l D ad cs C.2.2.1 σ v1 r1 σ2 er1) (va_cwS 1 C.1.2.2.2.2 gX9_firm_X5_isNumber rfl rfl rfl (by decide +kernel) ⟨Nat.le_of_ble_eq_true rfl, Nat.le_of_ble_eq_true rfl⟩) rfl hl rfl (Nat.le_of_ble_eq_true rfl) dX9_firm_15 (fun H locs G => ?_)
    refine lv_if_eq (tgt := 45) hx hb dX9_firm_18 (by decide) (fun q => ?_) (fun q => ?_)
    · have h := u_pos q h
      refine lv_iconst (v := (-1)) hx hb dX9_firm_45 (by decide) ?_
      obtain ⟨rfl, rfl⟩ := u_end h
      exact u_iret hx hb hr hlk G dX9_firm_46
    · have h := u_neg q h
      refine lv_iload_n hx hb dX9_firm_21 rfl (lv_at hl 3 rfl) ?_
      obtain ⟨r3, σ4, er3, h⟩ := ub_of h
      refine u_callSi (As := [.int v2]) (rest := []) C G (c_X6_isNumber l D ad cs C.2.2.1 σ2 v2 r3 σ4 er3) (va_cwS 1 C.1.2.2.2.2 gX9_firm_X6_isNumber rfl rfl rfl (by decide +kernel) ⟨Nat.le_of_ble_eq_true rfl, Nat.le_of_ble_eq_true rfl⟩) rfl hl rfl (Nat.le_of_ble_eq_true rfl) dX9_firm_22 (fun H locs G => ?_)
      refine lv_if_eq (tgt := 45) hx hb dX9_firm_25 (by decide) (fun q => ?_) (fun q => ?_)
      · have h := u_pos q h
        refine lv_iconst (v := (-1)) hx hb dX9_firm_45 (by decide) ?_
        obtain ⟨rfl, rfl⟩ := u_end h
        exact u_iret hx hb hr hlk G dX9_firm_46
      · have h := u_neg q h
        refine lv_iload hx hb dX9_firm_28 (lv_at hl 0 rfl) ?_
        refine lv_if_eq (tgt := 47) hx hb dX9_firm_30 (by decide) (fun _ => ?_) (fun q => absurd q (by decide))
        exact w_X9_firm_47 C hr hlk σ4 v1 v2 v3 v4 v5 0 h H locs ls G (lv_sub hl [1, 2, 3, 4, 5, 6, 0] rfl)
  · have h := u_neg q h
    refine lv_iconst (v := 1) hx hb dX9_firm_7 (by decide) ?_
    refine lv_goto (tgt := 12) hx hb dX9_firm_8 (by decide) ?_
    refine lv_istore (lv' := [(6, .int 1), (0, .ref (ad 0)), (1, .int v1), (2, .int v2), (3, .int v3), (4, .int v4), (5, .int v5)]) hx hb dX9_firm_12 hl (by decide) rfl (fun ls hl => ?_)
    refine lv_iload_n hx hb dX9_firm_14 rfl (lv_at hl 2 rfl) ?_
    obtain ⟨r5, σ6, er5, h⟩ := ub_of h
    refine u_callSi (As := [.int v1]) (rest := []) C G (c_X5_isNumber l D ad cs C.2.2.1 σ v1 r5 σ6 er5) (va_cwS 1 C.1.2.2.2.2 gX9_firm_X5_isNumber rfl rfl rfl (by decide +kernel) ⟨Nat.le_of_ble_eq_true rfl, Nat.le_of_ble_eq_true rfl⟩) rfl hl rfl (Nat.le_of_ble_eq_true rfl) dX9_firm_15 (fun H locs G => ?_)
    refine lv_if_eq (tgt := 45) hx hb dX9_firm_18 (by decide) (fun q => ?_) (fun q => ?_)
    · have h := u_pos q h
      refine lv_iconst (v := (-1)) hx hb dX9_firm_45 (by decide) ?_
      obtain ⟨rfl, rfl⟩ := u_end h
      exact u_iret hx hb hr hlk G dX9_firm_46
    · have h := u_neg q h
      refine lv_iload_n hx hb dX9_firm_21 rfl (lv_at hl 3 rfl) ?_
      obtain ⟨r7, σ8, er7, h⟩ := ub_of h
      refine u_callSi (As := [.int v2]) (rest := []) C G (c_X6_isNumber l D ad cs C.2.2.1 σ6 v2 r7 σ8 er7) (va_cwS 1 C.1.2.2.2.2 gX9_firm_X6_isNumber rfl rfl rfl (by decide +kernel) ⟨Nat.le_of_ble_eq_true rfl, Nat.le_of_ble_eq_true rfl⟩) rfl hl rfl (Nat.le_of_ble_eq_true rfl) dX9_firm_22 (fun H locs G => ?_)
      refine lv_if_eq (tgt := 45) hx hb dX9_firm_25 (by decide) (fun q => ?_) (fun q => ?_)
      · have h := u_pos q h
        refine lv_iconst (v := (-1)) hx hb dX9_firm_45 (by decide) ?_
        obtain ⟨rfl, rfl⟩ := u_end h
        exact u_iret hx hb hr hlk G dX9_firm_46
      · have h := u_neg q h
        refine lv_iload hx hb dX9_firm_28 (lv_at hl 0 rfl) ?_
        refine lv_if_eq (tgt := 47) hx hb dX9_firm_30 (by decide) (fun q => absurd q (by decide)) (fun _ => ?_)
        refine lv_aload_n hx hb dX9_firm_33 rfl (lv_at hl 1 rfl) ?_
        refine u_get (v := .ref (ad 8)) C G obX_0 (ci := 9) (N := 14) (Cn := RX9) (T := TX9) rfl fi_X9_firm_9 1 (by decide) (by decide +kernel) rfl dX9_firm_34 ?_
        refine lv_iload hx hb dX9_firm_37 (lv_at hl 6 rfl) ?_
        obtain ⟨r9, σ10, er9, h⟩ := ub_of h
        refine u_callVi (As := [.int v5]) (rest := []) C G (c_X8_isNumber l D ad cs C.2.2.1 σ8 v5 r9 σ10 er9) (cwV 1 C.1.2.2.2.2 gX9_firm_X8_isNumber rfl rfl rfl (by decide +kernel) ⟨Nat.le_of_ble_eq_true rfl, Nat.le_of_ble_eq_true rfl⟩) obX_8 (ci := 8) (T := TX8) rfl rfl hl rfl (Nat.le_of_ble_eq_true rfl) dX9_firm_39 (fun H locs G => ?_)
        refine lv_if_ne (tgt := 47) hx hb dX9_firm_42 (by decide) (fun q => ?_) (fun q => ?_)
        · have h := u_neg q h
          exact w_X9_firm_47 C hr hlk σ10 v1 v2 v3 v4 v5 1 h H locs ls G (lv_sub hl [1, 2, 3, 4, 5, 6, 0] rfl)
        · have h := u_pos q h
          refine lv_iconst (v := (-1)) hx hb dX9_firm_45 (by decide) ?_
          obtain ⟨rfl, rfl⟩ := u_end h
          exact u_iret hx hb hr hlk G dX9_firm_46
/-! X9_slogan -/
def f_X9_slogan (σ : St) (v1 : Int32) (v2 : Int32) : Option (Int32 × St) :=
  ub (f_X5_isNumber σ v1) fun r1 σ2 =>
  if r1 = 0 then
    some (((-1) : Int32), σ2)
  else
    ub (f_X8_isNumber σ2 v2) fun r3 σ4 =>
    if r3 = 0 then
      some (((-1) : Int32), σ4)
    else
      ub (f_X8_isFull σ4) fun r5 σ6 =>
      if r5 = 0 then
        ub (f_X5_isThere σ6 v1) fun r7 σ8 =>
        if r7 = 0 then
          ub (f_X9_refuse σ8 (1 : Int32)) fun r9 σ10 =>
          some (r9, σ10)
        else
          ui v2 16 <|
          if (σ8 17 v2.toNatClampNeg) = 0 then
            ub (f_X8_isOf σ8 v2 (1 : Int32)) fun r12 σ13 =>
            if r12 = 0 then
              ub (f_X9_refuse σ13 (3 : Int32)) fun r28 σ29 =>
              some (r28, σ29)
            else
              ub (f_X9_makesWord σ13 v1) fun r14 σ15 =>
              if r14 = 0 then
                ub (f_X9_refuse σ15 (5 : Int32)) fun r26 σ27 =>
                some (r26, σ27)
              else
                ui v1 4 <|
                ui v1 4 <|
                ub (f_X8_add σ15 v1.toNatClampNeg (σ15 3 v1.toNatClampNeg) (3 : Int32) v2) fun r19 σ20 =>
                ui v2 16 <|
                ui v2 16 <|
                ui v2 16 <|
                ub (f_X8_settle σ20 r19 (σ20 14 v2.toNatClampNeg) (σ20 15 v2.toNatClampNeg) (σ20 16 v2.toNatClampNeg)) fun r24 σ25 =>
                some (r19, σ25)
          else
            ub (f_X9_refuse σ8 (1 : Int32)) fun r30 σ31 =>
            some (r30, σ31)
      else
        some (((-2) : Int32), σ6)
theorem fi_X9_slogan_5 : ∀ w ∈ u_ws RX5 TX5 2, w ∈ wsX9_slogan := by decide +kernel
theorem fi_X9_slogan_8 : ∀ w ∈ u_ws RX8 TX8 10, w ∈ wsX9_slogan := by decide +kernel
theorem fi_X9_slogan_9 : ∀ w ∈ u_ws RX9 TX9 14, w ∈ wsX9_slogan := by decide +kernel
set_option maxHeartbeats 4000000 in
set_option maxRecDepth 100000 in
theorem c_X9_slogan (l : Launch) (D : va_G) (ad : Nat → Nat) (cs : Nat → ClassId) (J : uJ 99 ad) (σ : St) (v1 : Int32) (v2 : Int32) (r : Int32) (σ' : St) (h : f_X9_slogan σ v1 v2 = some (r, σ')) : uMi l yX9_slogan wsX9_slogan { frames := 3, cells := 0, slots := 0, locals := 65 } D vwCl (tyX cs) 99 ad (enX ad cs) [.ref (ad 0), .int v1, .int v2] σ r σ' := by
  refine u_met (Qf := uQi D vwCl 99 ad (enX ad cs) r σ') (cc := cX9_slogan) (maxL := 4) (ret := (some .int)) (lv := [(0, .ref (ad 0)), (1, .int v1), (2, .int v2)]) J (by decide) rfl (Nat.le_of_ble_eq_true rfl) rfl rfl rfl ?_
  intro p e s m args below meth c ls hx hb C hr hlk G hl
  unfold f_X9_slogan at h
  obtain ⟨H, eH⟩ : ∃ H, H = s.heap := ⟨_, rfl⟩
  obtain ⟨locs, eL⟩ : ∃ locs : List Loc, locs = [] := ⟨_, rfl⟩
  refine u_start eH eL G ?_
  clear G eH eL
  intro G
  refine lv_iload_n hx hb dX9_slogan_0 rfl (lv_at hl 1 rfl) ?_
  obtain ⟨r1, σ2, er1, h⟩ := ub_of h
  refine u_callSi (As := [.int v1]) (rest := []) C G (c_X5_isNumber l D ad cs C.2.2.1 σ v1 r1 σ2 er1) (va_cwS 1 C.1.2.2.2.2 gX9_slogan_X5_isNumber rfl rfl rfl (by decide +kernel) ⟨Nat.le_of_ble_eq_true rfl, Nat.le_of_ble_eq_true rfl⟩) rfl hl rfl (Nat.le_of_ble_eq_true rfl) dX9_slogan_1 (fun H locs G => ?_)
  refine lv_if_eq (tgt := 18) hx hb dX9_slogan_4 (by decide) (fun q => ?_) (fun q => ?_)
  · have h := u_pos q h
    refine lv_iconst (v := (-1)) hx hb dX9_slogan_18 (by decide) ?_
    obtain ⟨rfl, rfl⟩ := u_end h
    exact u_iret hx hb hr hlk G dX9_slogan_19
  · have h := u_neg q h
    refine lv_aload_n hx hb dX9_slogan_7 rfl (lv_at hl 0 rfl) ?_
    refine u_get (v := .ref (ad 8)) C G obX_0 (ci := 9) (N := 14) (Cn := RX9) (T := TX9) rfl fi_X9_slogan_9 1 (by decide) (by decide +kernel) rfl dX9_slogan_8 ?_
    refine lv_iload_n hx hb dX9_slogan_11 rfl (lv_at hl 2 rfl) ?_
    obtain ⟨r3, σ4, er3, h⟩ := ub_of h
    refine u_callVi (As := [.int v2]) (rest := []) C G (c_X8_isNumber l D ad cs C.2.2.1 σ2 v2 r3 σ4 er3) (cwV 1 C.1.2.2.2.2 gX9_slogan_X8_isNumber rfl rfl rfl (by decide +kernel) ⟨Nat.le_of_ble_eq_true rfl, Nat.le_of_ble_eq_true rfl⟩) obX_8 (ci := 8) (T := TX8) rfl rfl hl rfl (Nat.le_of_ble_eq_true rfl) dX9_slogan_12 (fun H locs G => ?_)
    refine lv_if_ne (tgt := 20) hx hb dX9_slogan_15 (by decide) (fun q => ?_) (fun q => ?_)
    · have h := u_neg q h
      refine lv_aload_n hx hb dX9_slogan_20 rfl (lv_at hl 0 rfl) ?_
      refine u_get (v := .ref (ad 8)) C G obX_0 (ci := 9) (N := 14) (Cn := RX9) (T := TX9) rfl fi_X9_slogan_9 1 (by decide) (by decide +kernel) rfl dX9_slogan_21 ?_
      obtain ⟨r5, σ6, er5, h⟩ := ub_of h
      refine u_callVi (As := []) (rest := []) C G (c_X8_isFull l D ad cs C.2.2.1 σ4 r5 σ6 er5) (cwV 0 C.1.2.2.2.2 gX9_slogan_X8_isFull rfl rfl rfl (by decide +kernel) ⟨Nat.le_of_ble_eq_true rfl, Nat.le_of_ble_eq_true rfl⟩) obX_8 (ci := 8) (T := TX8) rfl rfl hl rfl (Nat.le_of_ble_eq_true rfl) dX9_slogan_24 (fun H locs G => ?_)
      refine lv_if_eq (tgt := 33) hx hb dX9_slogan_27 (by decide) (fun q => ?_) (fun q => ?_)
      · have h := u_pos q h
        refine lv_aload_n hx hb dX9_slogan_33 rfl (lv_at hl 0 rfl) ?_
        refine u_get (v := .ref (ad 1)) C G obX_0 (ci := 9) (N := 14) (Cn := RX9) (T := TX9) rfl fi_X9_slogan_9 0 (by decide) (by decide +kernel) rfl dX9_slogan_34 ?_
        refine lv_iload_n hx hb dX9_slogan_37 rfl (lv_at hl 1 rfl) ?_
        obtain ⟨r7, σ8, er7, h⟩ := ub_of h
        refine u_callVi (As := [.int v1]) (rest := []) C G (c_X5_isThere l D ad cs C.2.2.1 σ6 v1 r7 σ8 er7) (cwV 1 C.1.2.2.2.2 gX9_slogan_X5_isThere rfl rfl rfl (by decide +kernel) ⟨Nat.le_of_ble_eq_true rfl, Nat.le_of_ble_eq_true rfl⟩) obX_1 (ci := 5) (T := TX5) rfl rfl hl rfl (Nat.le_of_ble_eq_true rfl) dX9_slogan_38 (fun H locs G => ?_)
        refine lv_if_eq (tgt := 56) hx hb dX9_slogan_41 (by decide) (fun q => ?_) (fun q => ?_)
        · have h := u_pos q h
          refine lv_aload_n hx hb dX9_slogan_56 rfl (lv_at hl 0 rfl) ?_
          refine lv_iconst (v := 1) hx hb dX9_slogan_57 (by decide) ?_
          obtain ⟨r9, σ10, er9, h⟩ := ub_of h
          refine u_callVi (As := [.int 1]) (rest := []) C G (c_X9_refuse l D ad cs C.2.2.1 σ8 (1 : Int32) r9 σ10 er9) (cwV 1 C.1.2.2.2.2 gX9_slogan_X9_refuse rfl rfl rfl (by decide +kernel) ⟨Nat.le_of_ble_eq_true rfl, Nat.le_of_ble_eq_true rfl⟩) obX_0 (ci := 9) (T := TX9) rfl rfl hl rfl (Nat.le_of_ble_eq_true rfl) dX9_slogan_58 (fun H locs G => ?_)
          obtain ⟨rfl, rfl⟩ := u_end h
          exact u_iret hx hb hr hlk G dX9_slogan_61
        · have h := u_neg q h
          refine lv_aload_n hx hb dX9_slogan_44 rfl (lv_at hl 0 rfl) ?_
          refine u_get (v := .ref (ad 8)) C G obX_0 (ci := 9) (N := 14) (Cn := RX9) (T := TX9) rfl fi_X9_slogan_9 1 (by decide) (by decide +kernel) rfl dX9_slogan_45 ?_
          refine u_get (v := .ref (ad 17)) C G obX_8 (ci := 8) (N := 10) (Cn := RX8) (T := TX8) rfl fi_X9_slogan_8 8 (by decide) (by decide +kernel) rfl dX9_slogan_48 ?_
          refine lv_iload_n hx hb dX9_slogan_51 rfl (lv_at hl 2 rfl) ?_
          obtain ⟨g11, h⟩ := ui_of h
          refine u_zald C G arX_17 (t0 := 2) rfl g11 dX9_slogan_52 ?_
          refine lv_if_eq (tgt := 62) hx hb dX9_slogan_53 (by decide) (fun q => ?_) (fun q => ?_)
          · have h := u_pos q h
            refine lv_aload_n hx hb dX9_slogan_62 rfl (lv_at hl 0 rfl) ?_
            refine u_get (v := .ref (ad 8)) C G obX_0 (ci := 9) (N := 14) (Cn := RX9) (T := TX9) rfl fi_X9_slogan_9 1 (by decide) (by decide +kernel) rfl dX9_slogan_63 ?_
            refine lv_iload_n hx hb dX9_slogan_66 rfl (lv_at hl 2 rfl) ?_
            refine lv_iconst (v := 1) hx hb dX9_slogan_67 (by decide) ?_
            obtain ⟨r12, σ13, er12, h⟩ := ub_of h
            refine u_callVi (As := [.int v2, .int 1]) (rest := []) C G (c_X8_isOf l D ad cs C.2.2.1 σ8 v2 (1 : Int32) r12 σ13 er12) (cwV 2 C.1.2.2.2.2 gX9_slogan_X8_isOf rfl rfl rfl (by decide +kernel) ⟨Nat.le_of_ble_eq_true rfl, Nat.le_of_ble_eq_true rfl⟩) obX_8 (ci := 8) (T := TX8) rfl rfl hl rfl (Nat.le_of_ble_eq_true rfl) dX9_slogan_68 (fun H locs G => ?_)
            refine lv_if_ne (tgt := 80) hx hb dX9_slogan_71 (by decide) (fun q => ?_) (fun q => ?_)
            · have h := u_neg q h
              refine lv_aload_n hx hb dX9_slogan_80 rfl (lv_at hl 0 rfl) ?_
              refine lv_iload_n hx hb dX9_slogan_81 rfl (lv_at hl 1 rfl) ?_
              obtain ⟨r14, σ15, er14, h⟩ := ub_of h
              refine u_callVi (As := [.int v1]) (rest := []) C G (c_X9_makesWord l D ad cs C.2.2.1 σ13 v1 r14 σ15 er14) (cwV 1 C.1.2.2.2.2 gX9_slogan_X9_makesWord rfl rfl rfl (by decide +kernel) ⟨Nat.le_of_ble_eq_true rfl, Nat.le_of_ble_eq_true rfl⟩) obX_0 (ci := 9) (T := TX9) rfl rfl hl rfl (Nat.le_of_ble_eq_true rfl) dX9_slogan_82 (fun H locs G => ?_)
              refine lv_if_ne (tgt := 94) hx hb dX9_slogan_85 (by decide) (fun q => ?_) (fun q => ?_)
              · have h := u_neg q h
                refine lv_aload_n hx hb dX9_slogan_94 rfl (lv_at hl 0 rfl) ?_
                refine u_get (v := .ref (ad 8)) C G obX_0 (ci := 9) (N := 14) (Cn := RX9) (T := TX9) rfl fi_X9_slogan_9 1 (by decide) (by decide +kernel) rfl dX9_slogan_95 ?_
                refine lv_aload_n hx hb dX9_slogan_98 rfl (lv_at hl 0 rfl) ?_
                refine u_get (v := .ref (ad 1)) C G obX_0 (ci := 9) (N := 14) (Cn := RX9) (T := TX9) rfl fi_X9_slogan_9 0 (by decide) (by decide +kernel) rfl dX9_slogan_99 ?_
                refine u_get (v := .ref (ad 2)) C G obX_1 (ci := 5) (N := 2) (Cn := RX5) (T := TX5) rfl fi_X9_slogan_5 0 (by decide) (by decide +kernel) rfl dX9_slogan_102 ?_
                refine lv_iload_n hx hb dX9_slogan_105 rfl (lv_at hl 1 rfl) ?_
                obtain ⟨g16, h⟩ := ui_of h
                refine u_aald C G rrX_2 (t0 := 4) rfl rfl g16 dX9_slogan_106 (fun b17 => ?_)
                refine lv_aload_n hx hb dX9_slogan_107 rfl (lv_at hl 0 rfl) ?_
                refine u_get (v := .ref (ad 1)) C G obX_0 (ci := 9) (N := 14) (Cn := RX9) (T := TX9) rfl fi_X9_slogan_9 0 (by decide) (by decide +kernel) rfl dX9_slogan_108 ?_
                refine u_get (v := .ref (ad 3)) C G obX_1 (ci := 5) (N := 2) (Cn := RX5) (T := TX5) rfl fi_X9_slogan_5 1 (by decide) (by decide +kernel) rfl dX9_slogan_111 ?_
                refine lv_iload_n hx hb dX9_slogan_114 rfl (lv_at hl 1 rfl) ?_
                obtain ⟨g18, h⟩ := ui_of h
                refine u_iald C G arX_3 (t0 := 0) rfl g18 dX9_slogan_115 ?_
                refine lv_iconst (v := 3) hx hb dX9_slogan_116 (by decide) ?_
                refine lv_iload_n hx hb dX9_slogan_117 rfl (lv_at hl 2 rfl) ?_
                obtain ⟨r19, σ20, er19, h⟩ := ub_of h
                refine u_callVi (As := [.ref (ad (4 + v1.toNatClampNeg)), .int (σ15 3 v1.toNatClampNeg), .int 3, .int v2]) (rest := []) C G (c_X8_add l D ad cs C.2.2.1 σ15 v1.toNatClampNeg (σ15 3 v1.toNatClampNeg) (3 : Int32) v2 b17 r19 σ20 er19) (cwV 4 C.1.2.2.2.2 gX9_slogan_X8_add rfl rfl rfl (by decide +kernel) ⟨Nat.le_of_ble_eq_true rfl, Nat.le_of_ble_eq_true rfl⟩) obX_8 (ci := 8) (T := TX8) rfl rfl hl rfl (Nat.le_of_ble_eq_true rfl) dX9_slogan_118 (fun H locs G => ?_)
                refine lv_istore_n (lv' := [(3, .int r19), (0, .ref (ad 0)), (1, .int v1), (2, .int v2)]) hx hb dX9_slogan_121 rfl hl (by decide) rfl (fun ls hl => ?_)
                refine lv_aload_n hx hb dX9_slogan_122 rfl (lv_at hl 1 rfl) ?_
                refine u_get (v := .ref (ad 8)) C G obX_0 (ci := 9) (N := 14) (Cn := RX9) (T := TX9) rfl fi_X9_slogan_9 1 (by decide) (by decide +kernel) rfl dX9_slogan_123 ?_
                refine lv_iload_n hx hb dX9_slogan_126 rfl (lv_at hl 0 rfl) ?_
                refine lv_aload_n hx hb dX9_slogan_127 rfl (lv_at hl 1 rfl) ?_
                refine u_get (v := .ref (ad 8)) C G obX_0 (ci := 9) (N := 14) (Cn := RX9) (T := TX9) rfl fi_X9_slogan_9 1 (by decide) (by decide +kernel) rfl dX9_slogan_128 ?_
                refine u_get (v := .ref (ad 14)) C G obX_8 (ci := 8) (N := 10) (Cn := RX8) (T := TX8) rfl fi_X9_slogan_8 5 (by decide) (by decide +kernel) rfl dX9_slogan_131 ?_
                refine lv_iload_n hx hb dX9_slogan_134 rfl (lv_at hl 3 rfl) ?_
                obtain ⟨g21, h⟩ := ui_of h
                refine u_iald C G arX_14 (t0 := 0) rfl g21 dX9_slogan_135 ?_
                refine lv_aload_n hx hb dX9_slogan_136 rfl (lv_at hl 1 rfl) ?_
                refine u_get (v := .ref (ad 8)) C G obX_0 (ci := 9) (N := 14) (Cn := RX9) (T := TX9) rfl fi_X9_slogan_9 1 (by decide) (by decide +kernel) rfl dX9_slogan_137 ?_
                refine u_get (v := .ref (ad 15)) C G obX_8 (ci := 8) (N := 10) (Cn := RX8) (T := TX8) rfl fi_X9_slogan_8 6 (by decide) (by decide +kernel) rfl dX9_slogan_140 ?_
                refine lv_iload_n hx hb dX9_slogan_143 rfl (lv_at hl 3 rfl) ?_
                obtain ⟨g22, h⟩ := ui_of h
                refine u_iald C G arX_15 (t0 := 0) rfl g22 dX9_slogan_144 ?_
                refine lv_aload_n hx hb dX9_slogan_145 rfl (lv_at hl 1 rfl) ?_
                refine u_get (v := .ref (ad 8)) C G obX_0 (ci := 9) (N := 14) (Cn := RX9) (T := TX9) rfl fi_X9_slogan_9 1 (by decide) (by decide +kernel) rfl dX9_slogan_146 ?_
                refine u_get (v := .ref (ad 16)) C G obX_8 (ci := 8) (N := 10) (Cn := RX8) (T := TX8) rfl fi_X9_slogan_8 7 (by decide) (by decide +kernel) rfl dX9_slogan_149 ?_
                refine lv_iload_n hx hb dX9_slogan_152 rfl (lv_at hl 3 rfl) ?_
                obtain ⟨g23, h⟩ := ui_of h
                refine u_iald C G arX_16 (t0 := 0) rfl g23 dX9_slogan_153 ?_
                obtain ⟨r24, σ25, er24, h⟩ := ub_of h
                refine u_callVv (As := [.int r19, .int (σ20 14 v2.toNatClampNeg), .int (σ20 15 v2.toNatClampNeg), .int (σ20 16 v2.toNatClampNeg)]) (rest := []) C G (c_X8_settle l D ad cs C.2.2.1 σ20 r19 (σ20 14 v2.toNatClampNeg) (σ20 15 v2.toNatClampNeg) (σ20 16 v2.toNatClampNeg) r24 σ25 er24) (cwV 4 C.1.2.2.2.2 gX9_slogan_X8_settle rfl rfl rfl (by decide +kernel) ⟨Nat.le_of_ble_eq_true rfl, Nat.le_of_ble_eq_true rfl⟩) obX_8 (ci := 8) (T := TX8) rfl rfl hl rfl (Nat.le_of_ble_eq_true rfl) dX9_slogan_154 (fun H locs G => ?_)
                refine lv_iload_n hx hb dX9_slogan_157 rfl (lv_at hl 0 rfl) ?_
                obtain ⟨rfl, rfl⟩ := u_end h
                exact u_iret hx hb hr hlk G dX9_slogan_158
              · have h := u_pos q h
                refine lv_aload_n hx hb dX9_slogan_88 rfl (lv_at hl 0 rfl) ?_
                refine lv_iconst (v := 5) hx hb dX9_slogan_89 (by decide) ?_
                obtain ⟨r26, σ27, er26, h⟩ := ub_of h
                refine u_callVi (As := [.int 5]) (rest := []) C G (c_X9_refuse l D ad cs C.2.2.1 σ15 (5 : Int32) r26 σ27 er26) (cwV 1 C.1.2.2.2.2 gX9_slogan_X9_refuse rfl rfl rfl (by decide +kernel) ⟨Nat.le_of_ble_eq_true rfl, Nat.le_of_ble_eq_true rfl⟩) obX_0 (ci := 9) (T := TX9) rfl rfl hl rfl (Nat.le_of_ble_eq_true rfl) dX9_slogan_90 (fun H locs G => ?_)
                obtain ⟨rfl, rfl⟩ := u_end h
                exact u_iret hx hb hr hlk G dX9_slogan_93
            · have h := u_pos q h
              refine lv_aload_n hx hb dX9_slogan_74 rfl (lv_at hl 0 rfl) ?_
              refine lv_iconst (v := 3) hx hb dX9_slogan_75 (by decide) ?_
              obtain ⟨r28, σ29, er28, h⟩ := ub_of h
              refine u_callVi (As := [.int 3]) (rest := []) C G (c_X9_refuse l D ad cs C.2.2.1 σ13 (3 : Int32) r28 σ29 er28) (cwV 1 C.1.2.2.2.2 gX9_slogan_X9_refuse rfl rfl rfl (by decide +kernel) ⟨Nat.le_of_ble_eq_true rfl, Nat.le_of_ble_eq_true rfl⟩) obX_0 (ci := 9) (T := TX9) rfl rfl hl rfl (Nat.le_of_ble_eq_true rfl) dX9_slogan_76 (fun H locs G => ?_)
              obtain ⟨rfl, rfl⟩ := u_end h
              exact u_iret hx hb hr hlk G dX9_slogan_79
          · have h := u_neg q h
            refine lv_aload_n hx hb dX9_slogan_56 rfl (lv_at hl 0 rfl) ?_
            refine lv_iconst (v := 1) hx hb dX9_slogan_57 (by decide) ?_
            obtain ⟨r30, σ31, er30, h⟩ := ub_of h
            refine u_callVi (As := [.int 1]) (rest := []) C G (c_X9_refuse l D ad cs C.2.2.1 σ8 (1 : Int32) r30 σ31 er30) (cwV 1 C.1.2.2.2.2 gX9_slogan_X9_refuse rfl rfl rfl (by decide +kernel) ⟨Nat.le_of_ble_eq_true rfl, Nat.le_of_ble_eq_true rfl⟩) obX_0 (ci := 9) (T := TX9) rfl rfl hl rfl (Nat.le_of_ble_eq_true rfl) dX9_slogan_58 (fun H locs G => ?_)
            obtain ⟨rfl, rfl⟩ := u_end h
            exact u_iret hx hb hr hlk G dX9_slogan_61
      · have h := u_neg q h
        refine lv_bipush (v := (-2)) hx hb dX9_slogan_30 (by decide) ?_
        obtain ⟨rfl, rfl⟩ := u_end h
        exact u_iret hx hb hr hlk G dX9_slogan_32
    · have h := u_pos q h
      refine lv_iconst (v := (-1)) hx hb dX9_slogan_18 (by decide) ?_
      obtain ⟨rfl, rfl⟩ := u_end h
      exact u_iret hx hb hr hlk G dX9_slogan_19
/-! X9_isLayer -/
def f_X9_isLayer_2 : Nat → St → Int32 → Int32 → Option (Int32 × St)
  | 0, _, _, _ => none
  | fuel + 1, σ, v1, v2 =>
    if 4 ≤ v2 then
      some ((0 : Int32), σ)
    else
      ui v2 4 <|
      ub (f_X2_hasLayerOf σ v2.toNatClampNeg v1) fun r3 σ4 =>
      if r3 = 0 then
        ul (v2 + 1) fun x5 =>
        f_X9_isLayer_2 fuel σ4 v1 x5
      else
        some ((1 : Int32), σ4)
def f_X9_isLayer (σ : St) (v1 : Int32) : Option (Int32 × St) :=
  f_X9_isLayer_2 fu σ v1 0
theorem fi_X9_isLayer_9 : ∀ w ∈ u_ws RX9 TX9 14, w ∈ wsX9_isLayer := by decide +kernel
set_option maxHeartbeats 4000000 in
set_option maxRecDepth 100000 in
theorem w_X9_isLayer_2 {p : Program} {l : Launch} {e : Env} {s : State} {m : MethodId} {args : Array Value} {below : List Frame} {meth : Method} {c : Code} {D : va_G} {ad : Nat → Nat} {cs : Nat → ClassId} (C : uC p { frames := 1, cells := 0, slots := 0, locals := 22 } s m args c cX9_isLayer 3 wsX9_isLayer RX9 D vwCl (tyX cs) 99 ad (uAd 99 ad s.heap.size) 0 0) (hr : meth.sig.returnType = (some .boolean)) (hlk : meth.locks = false) {r : Int32} {σ' : St} :
    ∀ (n : Nat) (σ : St) (v1 : Int32) (v2 : Int32), f_X9_isLayer_2 n σ v1 v2 = some (r, σ') → ∀ (H : Heap) (locs : List Loc) (ls : Array Slot), uG D vwCl 99 ad (enX ad cs) (uAd 99 ad s.heap.size) s σ H locs → lv_has ls 3 [(0, .ref (ad 0)), (1, .int v1), (2, .int v2)] → W p l e { frames := 1, cells := 0, slots := 0, locals := 22 } s m args below meth c H locs 0 0 (MQ below (uQi D vwCl 99 ad (enX ad cs) r σ' s.heap.size) args s 0 0 (uAd 99 ad s.heap.size)) (F0 m 2 ls []) := by
  have hx := C.1.1
  have hb := C.1.2.1
  intro n
  induction n with
  | zero => intro σ v1 v2  h; exact absurd h (by simp [f_X9_isLayer_2])
  | succ fuel ih =>
    intro σ v1 v2  h H locs ls G hl
    rw [f_X9_isLayer_2] at h
    refine lv_iload_n hx hb dX9_isLayer_2 rfl (lv_at hl 2 rfl) ?_
    refine lv_iconst (v := 4) hx hb dX9_isLayer_3 (by decide) ?_
    refine lv_icmp_ge (tgt := 28) hx hb dX9_isLayer_4 (by decide) (fun q => ?_) (fun q => ?_)
    · have h := u_pos q h
      refine lv_iconst (v := 0) hx hb dX9_isLayer_28 (by decide) ?_
      obtain ⟨rfl, rfl⟩ := u_end h
      exact u_zret hx hb hr hlk G (by decide) dX9_isLayer_29
    · have h := u_neg q h
      refine lv_aload_n hx hb dX9_isLayer_7 rfl (lv_at hl 0 rfl) ?_
      refine u_get (v := .ref (ad 34)) C G obX_0 (ci := 9) (N := 14) (Cn := RX9) (T := TX9) rfl fi_X9_isLayer_9 2 (by decide) (by decide +kernel) rfl dX9_isLayer_8 ?_
      refine lv_iload_n hx hb dX9_isLayer_11 rfl (lv_at hl 2 rfl) ?_
      obtain ⟨g1, h⟩ := ui_of h
      refine u_aald C G rrX_34 (t0 := 3) rfl rfl g1 dX9_isLayer_12 (fun b2 => ?_)
      refine lv_iload_n hx hb dX9_isLayer_13 rfl (lv_at hl 1 rfl) ?_
      obtain ⟨r3, σ4, er3, h⟩ := ub_of h
      refine u_callVi (As := [.int v1]) (rest := []) C G (c_X2_hasLayerOf l D ad cs C.2.2.1 σ v2.toNatClampNeg v1 b2 r3 σ4 er3) (cwV 1 C.1.2.2.2.2 gX9_isLayer_X2_hasLayerOf rfl rfl rfl (by decide +kernel) ⟨Nat.le_of_ble_eq_true rfl, Nat.le_of_ble_eq_true rfl⟩) (obX_line b2) (ci := 2) (T := TX2) rfl rfl hl rfl (Nat.le_of_ble_eq_true rfl) dX9_isLayer_14 (fun H locs G => ?_)
      refine lv_if_eq (tgt := 22) hx hb dX9_isLayer_17 (by decide) (fun q => ?_) (fun q => ?_)
      · have h := u_pos q h
        obtain ⟨x5, ex5, h⟩ := ul_of h
        refine lv_iinc (v := x5) (lv' := [(2, .int x5), (0, .ref (ad 0)), (1, .int v1)]) hx hb dX9_isLayer_22 hl (k := 2) rfl (by rw [ex5]; rfl) (by decide) rfl (fun ls hl => ?_)
        refine lv_goto (tgt := 2) hx hb dX9_isLayer_25 (by decide) ?_
        exact ih σ4 v1 x5 h H locs ls G (lv_sub hl [1, 2, 0] rfl)
      · have h := u_neg q h
        refine lv_iconst (v := 1) hx hb dX9_isLayer_20 (by decide) ?_
        obtain ⟨rfl, rfl⟩ := u_end h
        exact u_zret hx hb hr hlk G (by decide) dX9_isLayer_21
set_option maxHeartbeats 4000000 in
set_option maxRecDepth 100000 in
theorem c_X9_isLayer (l : Launch) (D : va_G) (ad : Nat → Nat) (cs : Nat → ClassId) (J : uJ 99 ad) (σ : St) (v1 : Int32) (r : Int32) (σ' : St) (h : f_X9_isLayer σ v1 = some (r, σ')) : uMi l yX9_isLayer wsX9_isLayer { frames := 1, cells := 0, slots := 0, locals := 22 } D vwCl (tyX cs) 99 ad (enX ad cs) [.ref (ad 0), .int v1] σ r σ' := by
  refine u_met (Qf := uQi D vwCl 99 ad (enX ad cs) r σ') (cc := cX9_isLayer) (maxL := 3) (ret := (some .boolean)) (lv := [(0, .ref (ad 0)), (1, .int v1)]) J (by decide) rfl (Nat.le_of_ble_eq_true rfl) rfl rfl rfl ?_
  intro p e s m args below meth c ls hx hb C hr hlk G hl
  unfold f_X9_isLayer at h
  obtain ⟨H, eH⟩ : ∃ H, H = s.heap := ⟨_, rfl⟩
  obtain ⟨locs, eL⟩ : ∃ locs : List Loc, locs = [] := ⟨_, rfl⟩
  refine u_start eH eL G ?_
  clear G eH eL
  intro G
  refine lv_iconst (v := 0) hx hb dX9_isLayer_0 (by decide) ?_
  refine lv_istore_n (lv' := [(2, .int 0), (0, .ref (ad 0)), (1, .int v1)]) hx hb dX9_isLayer_1 rfl hl (by decide) rfl (fun ls hl => ?_)
  exact w_X9_isLayer_2 C hr hlk fu σ v1 0 h H locs ls G (lv_sub hl [1, 2, 0] rfl)
