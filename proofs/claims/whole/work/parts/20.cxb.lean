/-! X9_strike -/
def f_X9_strike (σ : St) (v1 : Int32) : Option (Int32 × St) :=
  ub (f_X8_isNumber σ v1) fun r1 σ2 =>
  if r1 = 0 then
    some (((-1) : Int32), σ2)
  else
    ui v1 16 <|
    if (σ2 17 v1.toNatClampNeg) = 0 then
      ub (f_X9_isLayer σ2 v1) fun r4 σ5 =>
      if r4 = 0 then
        ub (f_X8_sizeOfHouse σ5 v1) fun r6 σ7 =>
        if r6 ≤ 0 then
          ui v1 16 <|
          ul (us σ7 17 v1.toNatClampNeg (vp_nar .boolean 1)) fun σ9 =>
          some ((1 : Int32), σ9)
        else
          some (((-4) : Int32), σ7)
      else
        some (((-4) : Int32), σ5)
    else
      ub (f_X9_refuse σ2 (1 : Int32)) fun r10 σ11 =>
      some (r10, σ11)
theorem fi_X9_strike_8 : ∀ w ∈ u_ws RX8 TX8 10, w ∈ wsX9_strike := by decide +kernel
theorem fi_X9_strike_9 : ∀ w ∈ u_ws RX9 TX9 14, w ∈ wsX9_strike := by decide +kernel
set_option maxHeartbeats 4000000 in
set_option maxRecDepth 100000 in
theorem c_X9_strike (l : Launch) (D : va_G) (ad : Nat → Nat) (cs : Nat → ClassId) (J : uJ 99 ad) (σ : St) (v1 : Int32) (r : Int32) (σ' : St) (h : f_X9_strike σ v1 = some (r, σ')) : uMi l yX9_strike wsX9_strike { frames := 2, cells := 0, slots := 0, locals := 44 } D vwCl (tyX cs) 99 ad (enX ad cs) [.ref (ad 0), .int v1] σ r σ' := by
  refine u_met (Qf := uQi D vwCl 99 ad (enX ad cs) r σ') (cc := cX9_strike) (maxL := 2) (ret := (some .int)) (lv := [(0, .ref (ad 0)), (1, .int v1)]) J (by decide) rfl (Nat.le_of_ble_eq_true rfl) rfl rfl rfl ?_
  intro p e s m args below meth c ls hx hb C hr hlk G hl
  unfold f_X9_strike at h
  obtain ⟨H, eH⟩ : ∃ H, H = s.heap := ⟨_, rfl⟩
  obtain ⟨locs, eL⟩ : ∃ locs : List Loc, locs = [] := ⟨_, rfl⟩
  refine u_start eH eL G ?_
  clear G eH eL
  intro G
  refine lv_aload_n hx hb dX9_strike_0 rfl (lv_at hl 0 rfl) ?_
  refine u_get (v := .ref (ad 8)) C G obX_0 (ci := 9) (N := 14) (Cn := RX9) (T := TX9) rfl fi_X9_strike_9 1 (by decide) (by decide +kernel) rfl dX9_strike_1 ?_
  refine lv_iload_n hx hb dX9_strike_4 rfl (lv_at hl 1 rfl) ?_
  obtain ⟨r1, σ2, er1, h⟩ := ub_of h
  refine u_callVi (As := [.int v1]) (rest := []) C G (c_X8_isNumber l D ad cs C.2.2.1 σ v1 r1 σ2 er1) (cwV 1 C.1.2.2.2.2 gX9_strike_X8_isNumber rfl rfl rfl (by decide +kernel) ⟨Nat.le_of_ble_eq_true rfl, Nat.le_of_ble_eq_true rfl⟩) obX_8 (ci := 8) (T := TX8) rfl rfl hl rfl (Nat.le_of_ble_eq_true rfl) dX9_strike_5 (fun H locs G => ?_)
  refine lv_if_ne (tgt := 13) hx hb dX9_strike_8 (by decide) (fun q => ?_) (fun q => ?_)
  · have h := u_neg q h
    refine lv_aload_n hx hb dX9_strike_13 rfl (lv_at hl 0 rfl) ?_
    refine u_get (v := .ref (ad 8)) C G obX_0 (ci := 9) (N := 14) (Cn := RX9) (T := TX9) rfl fi_X9_strike_9 1 (by decide) (by decide +kernel) rfl dX9_strike_14 ?_
    refine u_get (v := .ref (ad 17)) C G obX_8 (ci := 8) (N := 10) (Cn := RX8) (T := TX8) rfl fi_X9_strike_8 8 (by decide) (by decide +kernel) rfl dX9_strike_17 ?_
    refine lv_iload_n hx hb dX9_strike_20 rfl (lv_at hl 1 rfl) ?_
    obtain ⟨g3, h⟩ := ui_of h
    refine u_zald C G arX_17 (t0 := 2) rfl g3 dX9_strike_21 ?_
    refine lv_if_eq (tgt := 31) hx hb dX9_strike_22 (by decide) (fun q => ?_) (fun q => ?_)
    · have h := u_pos q h
      refine lv_aload_n hx hb dX9_strike_31 rfl (lv_at hl 0 rfl) ?_
      refine lv_iload_n hx hb dX9_strike_32 rfl (lv_at hl 1 rfl) ?_
      obtain ⟨r4, σ5, er4, h⟩ := ub_of h
      refine u_callVi (As := [.int v1]) (rest := []) C G (c_X9_isLayer l D ad cs C.2.2.1 σ2 v1 r4 σ5 er4) (cwV 1 C.1.2.2.2.2 gX9_strike_X9_isLayer rfl rfl rfl (by decide +kernel) ⟨Nat.le_of_ble_eq_true rfl, Nat.le_of_ble_eq_true rfl⟩) obX_0 (ci := 9) (T := TX9) rfl rfl hl rfl (Nat.le_of_ble_eq_true rfl) dX9_strike_33 (fun H locs G => ?_)
      refine lv_if_ne (tgt := 50) hx hb dX9_strike_36 (by decide) (fun q => ?_) (fun q => ?_)
      · have h := u_neg q h
        refine lv_bipush (v := (-4)) hx hb dX9_strike_50 (by decide) ?_
        obtain ⟨rfl, rfl⟩ := u_end h
        exact u_iret hx hb hr hlk G dX9_strike_52
      · have h := u_pos q h
        refine lv_aload_n hx hb dX9_strike_39 rfl (lv_at hl 0 rfl) ?_
        refine u_get (v := .ref (ad 8)) C G obX_0 (ci := 9) (N := 14) (Cn := RX9) (T := TX9) rfl fi_X9_strike_9 1 (by decide) (by decide +kernel) rfl dX9_strike_40 ?_
        refine lv_iload_n hx hb dX9_strike_43 rfl (lv_at hl 1 rfl) ?_
        obtain ⟨r6, σ7, er6, h⟩ := ub_of h
        refine u_callVi (As := [.int v1]) (rest := []) C G (c_X8_sizeOfHouse l D ad cs C.2.2.1 σ5 v1 r6 σ7 er6) (cwV 1 C.1.2.2.2.2 gX9_strike_X8_sizeOfHouse rfl rfl rfl (by decide +kernel) ⟨Nat.le_of_ble_eq_true rfl, Nat.le_of_ble_eq_true rfl⟩) obX_8 (ci := 8) (T := TX8) rfl rfl hl rfl (Nat.le_of_ble_eq_true rfl) dX9_strike_44 (fun H locs G => ?_)
        refine lv_if_le (tgt := 53) hx hb dX9_strike_47 (by decide) (fun q => ?_) (fun q => ?_)
        · have h := u_pos q h
          refine lv_aload_n hx hb dX9_strike_53 rfl (lv_at hl 0 rfl) ?_
          refine u_get (v := .ref (ad 8)) C G obX_0 (ci := 9) (N := 14) (Cn := RX9) (T := TX9) rfl fi_X9_strike_9 1 (by decide) (by decide +kernel) rfl dX9_strike_54 ?_
          refine u_get (v := .ref (ad 17)) C G obX_8 (ci := 8) (N := 10) (Cn := RX8) (T := TX8) rfl fi_X9_strike_8 8 (by decide) (by decide +kernel) rfl dX9_strike_57 ?_
          refine lv_iload_n hx hb dX9_strike_60 rfl (lv_at hl 1 rfl) ?_
          refine lv_iconst (v := 1) hx hb dX9_strike_61 (by decide) ?_
          obtain ⟨g8, h⟩ := ui_of h
          refine u_zast C G arX_17 (t0 := 2) rfl g8 dX9_strike_62 (fun H locs G => ?_)
          obtain ⟨σ9, eσ9, h⟩ := ul_of h
          replace G := uG_eq eσ9 G
          refine lv_iconst (v := 1) hx hb dX9_strike_63 (by decide) ?_
          obtain ⟨rfl, rfl⟩ := u_end h
          exact u_iret hx hb hr hlk G dX9_strike_64
        · have h := u_neg q h
          refine lv_bipush (v := (-4)) hx hb dX9_strike_50 (by decide) ?_
          obtain ⟨rfl, rfl⟩ := u_end h
          exact u_iret hx hb hr hlk G dX9_strike_52
    · have h := u_neg q h
      refine lv_aload_n hx hb dX9_strike_25 rfl (lv_at hl 0 rfl) ?_
      refine lv_iconst (v := 1) hx hb dX9_strike_26 (by decide) ?_
      obtain ⟨r10, σ11, er10, h⟩ := ub_of h
      refine u_callVi (As := [.int 1]) (rest := []) C G (c_X9_refuse l D ad cs C.2.2.1 σ2 (1 : Int32) r10 σ11 er10) (cwV 1 C.1.2.2.2.2 gX9_strike_X9_refuse rfl rfl rfl (by decide +kernel) ⟨Nat.le_of_ble_eq_true rfl, Nat.le_of_ble_eq_true rfl⟩) obX_0 (ci := 9) (T := TX9) rfl rfl hl rfl (Nat.le_of_ble_eq_true rfl) dX9_strike_27 (fun H locs G => ?_)
      obtain ⟨rfl, rfl⟩ := u_end h
      exact u_iret hx hb hr hlk G dX9_strike_30
  · have h := u_pos q h
    refine lv_iconst (v := (-1)) hx hb dX9_strike_11 (by decide) ?_
    obtain ⟨rfl, rfl⟩ := u_end h
    exact u_iret hx hb hr hlk G dX9_strike_12
/-! X9_told -/
def f_X9_told (σ : St) (v1 : Int32) (v2 : Int32) : Option (Int32 × St) :=
  ub (f_X8_isNumber σ v1) fun r1 σ2 =>
  if r1 = 0 then
    some (((-1) : Int32), σ2)
  else
    if v2 < 0 then
      some (((-1) : Int32), σ2)
    else
      if v2 ≤ 5 then
        ui v1 16 <|
        if (σ2 17 v1.toNatClampNeg) = 0 then
          ub (f_X8_factOf σ2 v1 v2) fun r4 σ5 =>
          some (r4, σ5)
        else
          ub (f_X9_refuse σ2 (1 : Int32)) fun r6 σ7 =>
          some (r6, σ7)
      else
        some (((-1) : Int32), σ2)
theorem fi_X9_told_8 : ∀ w ∈ u_ws RX8 TX8 10, w ∈ wsX9_told := by decide +kernel
theorem fi_X9_told_9 : ∀ w ∈ u_ws RX9 TX9 14, w ∈ wsX9_told := by decide +kernel
set_option maxHeartbeats 4000000 in
set_option maxRecDepth 100000 in
theorem c_X9_told (l : Launch) (D : va_G) (ad : Nat → Nat) (cs : Nat → ClassId) (J : uJ 99 ad) (σ : St) (v1 : Int32) (v2 : Int32) (r : Int32) (σ' : St) (h : f_X9_told σ v1 v2 = some (r, σ')) : uMi l yX9_told wsX9_told { frames := 3, cells := 0, slots := 0, locals := 69 } D vwCl (tyX cs) 99 ad (enX ad cs) [.ref (ad 0), .int v1, .int v2] σ r σ' := by
  refine u_met (Qf := uQi D vwCl 99 ad (enX ad cs) r σ') (cc := cX9_told) (maxL := 3) (ret := (some .int)) (lv := [(0, .ref (ad 0)), (1, .int v1), (2, .int v2)]) J (by decide) rfl (Nat.le_of_ble_eq_true rfl) rfl rfl rfl ?_
  intro p e s m args below meth c ls hx hb C hr hlk G hl
  unfold f_X9_told at h
  obtain ⟨H, eH⟩ : ∃ H, H = s.heap := ⟨_, rfl⟩
  obtain ⟨locs, eL⟩ : ∃ locs : List Loc, locs = [] := ⟨_, rfl⟩
  refine u_start eH eL G ?_
  clear G eH eL
  intro G
  refine lv_aload_n hx hb dX9_told_0 rfl (lv_at hl 0 rfl) ?_
  refine u_get (v := .ref (ad 8)) C G obX_0 (ci := 9) (N := 14) (Cn := RX9) (T := TX9) rfl fi_X9_told_9 1 (by decide) (by decide +kernel) rfl dX9_told_1 ?_
  refine lv_iload_n hx hb dX9_told_4 rfl (lv_at hl 1 rfl) ?_
  obtain ⟨r1, σ2, er1, h⟩ := ub_of h
  refine u_callVi (As := [.int v1]) (rest := []) C G (c_X8_isNumber l D ad cs C.2.2.1 σ v1 r1 σ2 er1) (cwV 1 C.1.2.2.2.2 gX9_told_X8_isNumber rfl rfl rfl (by decide +kernel) ⟨Nat.le_of_ble_eq_true rfl, Nat.le_of_ble_eq_true rfl⟩) obX_8 (ci := 8) (T := TX8) rfl rfl hl rfl (Nat.le_of_ble_eq_true rfl) dX9_told_5 (fun H locs G => ?_)
  refine lv_if_eq (tgt := 20) hx hb dX9_told_8 (by decide) (fun q => ?_) (fun q => ?_)
  · have h := u_pos q h
    refine lv_iconst (v := (-1)) hx hb dX9_told_20 (by decide) ?_
    obtain ⟨rfl, rfl⟩ := u_end h
    exact u_iret hx hb hr hlk G dX9_told_21
  · have h := u_neg q h
    refine lv_iload_n hx hb dX9_told_11 rfl (lv_at hl 2 rfl) ?_
    refine lv_if_lt (tgt := 20) hx hb dX9_told_12 (by decide) (fun q => ?_) (fun q => ?_)
    · have h := u_pos q h
      refine lv_iconst (v := (-1)) hx hb dX9_told_20 (by decide) ?_
      obtain ⟨rfl, rfl⟩ := u_end h
      exact u_iret hx hb hr hlk G dX9_told_21
    · have h := u_neg q h
      refine lv_iload_n hx hb dX9_told_15 rfl (lv_at hl 2 rfl) ?_
      refine lv_iconst (v := 5) hx hb dX9_told_16 (by decide) ?_
      refine lv_icmp_le (tgt := 22) hx hb dX9_told_17 (by decide) (fun q => ?_) (fun q => ?_)
      · have h := u_pos q h
        refine lv_aload_n hx hb dX9_told_22 rfl (lv_at hl 0 rfl) ?_
        refine u_get (v := .ref (ad 8)) C G obX_0 (ci := 9) (N := 14) (Cn := RX9) (T := TX9) rfl fi_X9_told_9 1 (by decide) (by decide +kernel) rfl dX9_told_23 ?_
        refine u_get (v := .ref (ad 17)) C G obX_8 (ci := 8) (N := 10) (Cn := RX8) (T := TX8) rfl fi_X9_told_8 8 (by decide) (by decide +kernel) rfl dX9_told_26 ?_
        refine lv_iload_n hx hb dX9_told_29 rfl (lv_at hl 1 rfl) ?_
        obtain ⟨g3, h⟩ := ui_of h
        refine u_zald C G arX_17 (t0 := 2) rfl g3 dX9_told_30 ?_
        refine lv_if_eq (tgt := 40) hx hb dX9_told_31 (by decide) (fun q => ?_) (fun q => ?_)
        · have h := u_pos q h
          refine lv_aload_n hx hb dX9_told_40 rfl (lv_at hl 0 rfl) ?_
          refine u_get (v := .ref (ad 8)) C G obX_0 (ci := 9) (N := 14) (Cn := RX9) (T := TX9) rfl fi_X9_told_9 1 (by decide) (by decide +kernel) rfl dX9_told_41 ?_
          refine lv_iload_n hx hb dX9_told_44 rfl (lv_at hl 1 rfl) ?_
          refine lv_iload_n hx hb dX9_told_45 rfl (lv_at hl 2 rfl) ?_
          obtain ⟨r4, σ5, er4, h⟩ := ub_of h
          refine u_callVi (As := [.int v1, .int v2]) (rest := []) C G (c_X8_factOf l D ad cs C.2.2.1 σ2 v1 v2 r4 σ5 er4) (cwV 2 C.1.2.2.2.2 gX9_told_X8_factOf rfl rfl rfl (by decide +kernel) ⟨Nat.le_of_ble_eq_true rfl, Nat.le_of_ble_eq_true rfl⟩) obX_8 (ci := 8) (T := TX8) rfl rfl hl rfl (Nat.le_of_ble_eq_true rfl) dX9_told_46 (fun H locs G => ?_)
          obtain ⟨rfl, rfl⟩ := u_end h
          exact u_iret hx hb hr hlk G dX9_told_49
        · have h := u_neg q h
          refine lv_aload_n hx hb dX9_told_34 rfl (lv_at hl 0 rfl) ?_
          refine lv_iconst (v := 1) hx hb dX9_told_35 (by decide) ?_
          obtain ⟨r6, σ7, er6, h⟩ := ub_of h
          refine u_callVi (As := [.int 1]) (rest := []) C G (c_X9_refuse l D ad cs C.2.2.1 σ2 (1 : Int32) r6 σ7 er6) (cwV 1 C.1.2.2.2.2 gX9_told_X9_refuse rfl rfl rfl (by decide +kernel) ⟨Nat.le_of_ble_eq_true rfl, Nat.le_of_ble_eq_true rfl⟩) obX_0 (ci := 9) (T := TX9) rfl rfl hl rfl (Nat.le_of_ble_eq_true rfl) dX9_told_36 (fun H locs G => ?_)
          obtain ⟨rfl, rfl⟩ := u_end h
          exact u_iret hx hb hr hlk G dX9_told_39
      · have h := u_neg q h
        refine lv_iconst (v := (-1)) hx hb dX9_told_20 (by decide) ?_
        obtain ⟨rfl, rfl⟩ := u_end h
        exact u_iret hx hb hr hlk G dX9_told_21
/-! X9_mark -/
def f_X9_mark (σ : St) (v1 : Int32) (v2 : Int32) : Option (Int32 × St) :=
  ub (f_X8_isNumber σ v1) fun r1 σ2 =>
  if r1 = 0 then
    some (((-1) : Int32), σ2)
  else
    if v2 < 1 then
      some (((-1) : Int32), σ2)
    else
      if v2 ≤ 3 then
        ui v1 16 <|
        if (σ2 17 v1.toNatClampNeg) = 0 then
          ub (f_X8_isOf σ2 v1 v2) fun r4 σ5 =>
          if r4 = 0 then
            ub (f_X9_refuse σ5 (3 : Int32)) fun r11 σ12 =>
            some (r11, σ12)
          else
            if v2 = 1 then
              ub (f_X8_sizeOfHouse σ5 v1) fun r9 σ10 =>
              some (r9, σ10)
            else
              if v2 = 2 then
                ub (f_X8_founderOf σ5 v1) fun r7 σ8 =>
                some (r7, σ8)
              else
                ui v1 16 <|
                some ((σ5 13 v1.toNatClampNeg), σ5)
        else
          ub (f_X9_refuse σ2 (1 : Int32)) fun r13 σ14 =>
          some (r13, σ14)
      else
        some (((-1) : Int32), σ2)
theorem fi_X9_mark_8 : ∀ w ∈ u_ws RX8 TX8 10, w ∈ wsX9_mark := by decide +kernel
theorem fi_X9_mark_9 : ∀ w ∈ u_ws RX9 TX9 14, w ∈ wsX9_mark := by decide +kernel
set_option maxHeartbeats 4000000 in
set_option maxRecDepth 100000 in
theorem c_X9_mark (l : Launch) (D : va_G) (ad : Nat → Nat) (cs : Nat → ClassId) (J : uJ 99 ad) (σ : St) (v1 : Int32) (v2 : Int32) (r : Int32) (σ' : St) (h : f_X9_mark σ v1 v2 = some (r, σ')) : uMi l yX9_mark wsX9_mark { frames := 1, cells := 0, slots := 0, locals := 23 } D vwCl (tyX cs) 99 ad (enX ad cs) [.ref (ad 0), .int v1, .int v2] σ r σ' := by
  refine u_met (Qf := uQi D vwCl 99 ad (enX ad cs) r σ') (cc := cX9_mark) (maxL := 3) (ret := (some .int)) (lv := [(0, .ref (ad 0)), (1, .int v1), (2, .int v2)]) J (by decide) rfl (Nat.le_of_ble_eq_true rfl) rfl rfl rfl ?_
  intro p e s m args below meth c ls hx hb C hr hlk G hl
  unfold f_X9_mark at h
  obtain ⟨H, eH⟩ : ∃ H, H = s.heap := ⟨_, rfl⟩
  obtain ⟨locs, eL⟩ : ∃ locs : List Loc, locs = [] := ⟨_, rfl⟩
  refine u_start eH eL G ?_
  clear G eH eL
  intro G
  refine lv_aload_n hx hb dX9_mark_0 rfl (lv_at hl 0 rfl) ?_
  refine u_get (v := .ref (ad 8)) C G obX_0 (ci := 9) (N := 14) (Cn := RX9) (T := TX9) rfl fi_X9_mark_9 1 (by decide) (by decide +kernel) rfl dX9_mark_1 ?_
  refine lv_iload_n hx hb dX9_mark_4 rfl (lv_at hl 1 rfl) ?_
  obtain ⟨r1, σ2, er1, h⟩ := ub_of h
  refine u_callVi (As := [.int v1]) (rest := []) C G (c_X8_isNumber l D ad cs C.2.2.1 σ v1 r1 σ2 er1) (cwV 1 C.1.2.2.2.2 gX9_mark_X8_isNumber rfl rfl rfl (by decide +kernel) ⟨Nat.le_of_ble_eq_true rfl, Nat.le_of_ble_eq_true rfl⟩) obX_8 (ci := 8) (T := TX8) rfl rfl hl rfl (Nat.le_of_ble_eq_true rfl) dX9_mark_5 (fun H locs G => ?_)
  refine lv_if_eq (tgt := 21) hx hb dX9_mark_8 (by decide) (fun q => ?_) (fun q => ?_)
  · have h := u_pos q h
    refine lv_iconst (v := (-1)) hx hb dX9_mark_21 (by decide) ?_
    obtain ⟨rfl, rfl⟩ := u_end h
    exact u_iret hx hb hr hlk G dX9_mark_22
  · have h := u_neg q h
    refine lv_iload_n hx hb dX9_mark_11 rfl (lv_at hl 2 rfl) ?_
    refine lv_iconst (v := 1) hx hb dX9_mark_12 (by decide) ?_
    refine lv_icmp_lt (tgt := 21) hx hb dX9_mark_13 (by decide) (fun q => ?_) (fun q => ?_)
    · have h := u_pos q h
      refine lv_iconst (v := (-1)) hx hb dX9_mark_21 (by decide) ?_
      obtain ⟨rfl, rfl⟩ := u_end h
      exact u_iret hx hb hr hlk G dX9_mark_22
    · have h := u_neg q h
      refine lv_iload_n hx hb dX9_mark_16 rfl (lv_at hl 2 rfl) ?_
      refine lv_iconst (v := 3) hx hb dX9_mark_17 (by decide) ?_
      refine lv_icmp_le (tgt := 23) hx hb dX9_mark_18 (by decide) (fun q => ?_) (fun q => ?_)
      · have h := u_pos q h
        refine lv_aload_n hx hb dX9_mark_23 rfl (lv_at hl 0 rfl) ?_
        refine u_get (v := .ref (ad 8)) C G obX_0 (ci := 9) (N := 14) (Cn := RX9) (T := TX9) rfl fi_X9_mark_9 1 (by decide) (by decide +kernel) rfl dX9_mark_24 ?_
        refine u_get (v := .ref (ad 17)) C G obX_8 (ci := 8) (N := 10) (Cn := RX8) (T := TX8) rfl fi_X9_mark_8 8 (by decide) (by decide +kernel) rfl dX9_mark_27 ?_
        refine lv_iload_n hx hb dX9_mark_30 rfl (lv_at hl 1 rfl) ?_
        obtain ⟨g3, h⟩ := ui_of h
        refine u_zald C G arX_17 (t0 := 2) rfl g3 dX9_mark_31 ?_
        refine lv_if_eq (tgt := 41) hx hb dX9_mark_32 (by decide) (fun q => ?_) (fun q => ?_)
        · have h := u_pos q h
          refine lv_aload_n hx hb dX9_mark_41 rfl (lv_at hl 0 rfl) ?_
          refine u_get (v := .ref (ad 8)) C G obX_0 (ci := 9) (N := 14) (Cn := RX9) (T := TX9) rfl fi_X9_mark_9 1 (by decide) (by decide +kernel) rfl dX9_mark_42 ?_
          refine lv_iload_n hx hb dX9_mark_45 rfl (lv_at hl 1 rfl) ?_
          refine lv_iload_n hx hb dX9_mark_46 rfl (lv_at hl 2 rfl) ?_
          obtain ⟨r4, σ5, er4, h⟩ := ub_of h
          refine u_callVi (As := [.int v1, .int v2]) (rest := []) C G (c_X8_isOf l D ad cs C.2.2.1 σ2 v1 v2 r4 σ5 er4) (cwV 2 C.1.2.2.2.2 gX9_mark_X8_isOf rfl rfl rfl (by decide +kernel) ⟨Nat.le_of_ble_eq_true rfl, Nat.le_of_ble_eq_true rfl⟩) obX_8 (ci := 8) (T := TX8) rfl rfl hl rfl (Nat.le_of_ble_eq_true rfl) dX9_mark_47 (fun H locs G => ?_)
          refine lv_if_ne (tgt := 59) hx hb dX9_mark_50 (by decide) (fun q => ?_) (fun q => ?_)
          · have h := u_neg q h
            refine lv_iload_n hx hb dX9_mark_59 rfl (lv_at hl 2 rfl) ?_
            refine lv_iconst (v := 1) hx hb dX9_mark_60 (by decide) ?_
            refine lv_icmp_ne (tgt := 73) hx hb dX9_mark_61 (by decide) (fun q => ?_) (fun q => ?_)
            · have h := u_neg q h
              refine lv_iload_n hx hb dX9_mark_73 rfl (lv_at hl 2 rfl) ?_
              refine lv_iconst (v := 2) hx hb dX9_mark_74 (by decide) ?_
              refine lv_icmp_ne (tgt := 89) hx hb dX9_mark_75 (by decide) (fun q => ?_) (fun q => ?_)
              · have h := u_neg q h
                refine lv_aload_n hx hb dX9_mark_89 rfl (lv_at hl 0 rfl) ?_
                refine u_get (v := .ref (ad 8)) C G obX_0 (ci := 9) (N := 14) (Cn := RX9) (T := TX9) rfl fi_X9_mark_9 1 (by decide) (by decide +kernel) rfl dX9_mark_90 ?_
                refine u_get (v := .ref (ad 13)) C G obX_8 (ci := 8) (N := 10) (Cn := RX8) (T := TX8) rfl fi_X9_mark_8 4 (by decide) (by decide +kernel) rfl dX9_mark_93 ?_
                refine lv_iload_n hx hb dX9_mark_96 rfl (lv_at hl 1 rfl) ?_
                obtain ⟨g6, h⟩ := ui_of h
                refine u_iald C G arX_13 (t0 := 0) rfl g6 dX9_mark_97 ?_
                obtain ⟨rfl, rfl⟩ := u_end h
                exact u_iret hx hb hr hlk G dX9_mark_98
              · have h := u_pos q h
                refine lv_aload_n hx hb dX9_mark_78 rfl (lv_at hl 0 rfl) ?_
                refine u_get (v := .ref (ad 8)) C G obX_0 (ci := 9) (N := 14) (Cn := RX9) (T := TX9) rfl fi_X9_mark_9 1 (by decide) (by decide +kernel) rfl dX9_mark_79 ?_
                refine lv_iload_n hx hb dX9_mark_82 rfl (lv_at hl 1 rfl) ?_
                obtain ⟨r7, σ8, er7, h⟩ := ub_of h
                refine u_callVi (As := [.int v1]) (rest := []) C G (c_X8_founderOf l D ad cs C.2.2.1 σ5 v1 r7 σ8 er7) (cwV 1 C.1.2.2.2.2 gX9_mark_X8_founderOf rfl rfl rfl (by decide +kernel) ⟨Nat.le_of_ble_eq_true rfl, Nat.le_of_ble_eq_true rfl⟩) obX_8 (ci := 8) (T := TX8) rfl rfl hl rfl (Nat.le_of_ble_eq_true rfl) dX9_mark_83 (fun H locs G => ?_)
                refine lv_goto (tgt := 98) hx hb dX9_mark_86 (by decide) ?_
                obtain ⟨rfl, rfl⟩ := u_end h
                exact u_iret hx hb hr hlk G dX9_mark_98
            · have h := u_pos q h
              refine lv_aload_n hx hb dX9_mark_64 rfl (lv_at hl 0 rfl) ?_
              refine u_get (v := .ref (ad 8)) C G obX_0 (ci := 9) (N := 14) (Cn := RX9) (T := TX9) rfl fi_X9_mark_9 1 (by decide) (by decide +kernel) rfl dX9_mark_65 ?_
              refine lv_iload_n hx hb dX9_mark_68 rfl (lv_at hl 1 rfl) ?_
              obtain ⟨r9, σ10, er9, h⟩ := ub_of h
              refine u_callVi (As := [.int v1]) (rest := []) C G (c_X8_sizeOfHouse l D ad cs C.2.2.1 σ5 v1 r9 σ10 er9) (cwV 1 C.1.2.2.2.2 gX9_mark_X8_sizeOfHouse rfl rfl rfl (by decide +kernel) ⟨Nat.le_of_ble_eq_true rfl, Nat.le_of_ble_eq_true rfl⟩) obX_8 (ci := 8) (T := TX8) rfl rfl hl rfl (Nat.le_of_ble_eq_true rfl) dX9_mark_69 (fun H locs G => ?_)
              obtain ⟨rfl, rfl⟩ := u_end h
              exact u_iret hx hb hr hlk G dX9_mark_72
          · have h := u_pos q h
            refine lv_aload_n hx hb dX9_mark_53 rfl (lv_at hl 0 rfl) ?_
            refine lv_iconst (v := 3) hx hb dX9_mark_54 (by decide) ?_
            obtain ⟨r11, σ12, er11, h⟩ := ub_of h
            refine u_callVi (As := [.int 3]) (rest := []) C G (c_X9_refuse l D ad cs C.2.2.1 σ5 (3 : Int32) r11 σ12 er11) (cwV 1 C.1.2.2.2.2 gX9_mark_X9_refuse rfl rfl rfl (by decide +kernel) ⟨Nat.le_of_ble_eq_true rfl, Nat.le_of_ble_eq_true rfl⟩) obX_0 (ci := 9) (T := TX9) rfl rfl hl rfl (Nat.le_of_ble_eq_true rfl) dX9_mark_55 (fun H locs G => ?_)
            obtain ⟨rfl, rfl⟩ := u_end h
            exact u_iret hx hb hr hlk G dX9_mark_58
        · have h := u_neg q h
          refine lv_aload_n hx hb dX9_mark_35 rfl (lv_at hl 0 rfl) ?_
          refine lv_iconst (v := 1) hx hb dX9_mark_36 (by decide) ?_
          obtain ⟨r13, σ14, er13, h⟩ := ub_of h
          refine u_callVi (As := [.int 1]) (rest := []) C G (c_X9_refuse l D ad cs C.2.2.1 σ2 (1 : Int32) r13 σ14 er13) (cwV 1 C.1.2.2.2.2 gX9_mark_X9_refuse rfl rfl rfl (by decide +kernel) ⟨Nat.le_of_ble_eq_true rfl, Nat.le_of_ble_eq_true rfl⟩) obX_0 (ci := 9) (T := TX9) rfl rfl hl rfl (Nat.le_of_ble_eq_true rfl) dX9_mark_37 (fun H locs G => ?_)
          obtain ⟨rfl, rfl⟩ := u_end h
          exact u_iret hx hb hr hlk G dX9_mark_40
      · have h := u_neg q h
        refine lv_iconst (v := (-1)) hx hb dX9_mark_21 (by decide) ?_
        obtain ⟨rfl, rfl⟩ := u_end h
        exact u_iret hx hb hr hlk G dX9_mark_22
/-! X9_mean -/
def f_X9_mean (σ : St) : Option (Int32 × St) :=
  ub (f_X8_sizeThere σ) fun r1 σ2 =>
  if r1 = 0 then
    ub (f_X9_refuse σ2 (4 : Int32)) fun r5 σ6 =>
    some (r5, σ6)
  else
    ub (f_X8_lettersThere σ2) fun r3 σ4 =>
    ug (decide (¬ r1 = 0)) <|
    some ((r3 / r1), σ4)
theorem fi_X9_mean_9 : ∀ w ∈ u_ws RX9 TX9 14, w ∈ wsX9_mean := by decide +kernel
set_option maxHeartbeats 4000000 in
set_option maxRecDepth 100000 in
theorem c_X9_mean (l : Launch) (D : va_G) (ad : Nat → Nat) (cs : Nat → ClassId) (J : uJ 99 ad) (σ : St) (r : Int32) (σ' : St) (h : f_X9_mean σ = some (r, σ')) : uMi l yX9_mean wsX9_mean { frames := 1, cells := 0, slots := 0, locals := 22 } D vwCl (tyX cs) 99 ad (enX ad cs) [.ref (ad 0)] σ r σ' := by
  refine u_met (Qf := uQi D vwCl 99 ad (enX ad cs) r σ') (cc := cX9_mean) (maxL := 2) (ret := (some .int)) (lv := [(0, .ref (ad 0))]) J (by decide) rfl (Nat.le_of_ble_eq_true rfl) rfl rfl rfl ?_
  intro p e s m args below meth c ls hx hb C hr hlk G hl
  unfold f_X9_mean at h
  obtain ⟨H, eH⟩ : ∃ H, H = s.heap := ⟨_, rfl⟩
  obtain ⟨locs, eL⟩ : ∃ locs : List Loc, locs = [] := ⟨_, rfl⟩
  refine u_start eH eL G ?_
  clear G eH eL
  intro G
  refine lv_aload_n hx hb dX9_mean_0 rfl (lv_at hl 0 rfl) ?_
  refine u_get (v := .ref (ad 8)) C G obX_0 (ci := 9) (N := 14) (Cn := RX9) (T := TX9) rfl fi_X9_mean_9 1 (by decide) (by decide +kernel) rfl dX9_mean_1 ?_
  obtain ⟨r1, σ2, er1, h⟩ := ub_of h
  refine u_callVi (As := []) (rest := []) C G (c_X8_sizeThere l D ad cs C.2.2.1 σ r1 σ2 er1) (cwV 0 C.1.2.2.2.2 gX9_mean_X8_sizeThere rfl rfl rfl (by decide +kernel) ⟨Nat.le_of_ble_eq_true rfl, Nat.le_of_ble_eq_true rfl⟩) obX_8 (ci := 8) (T := TX8) rfl rfl hl rfl (Nat.le_of_ble_eq_true rfl) dX9_mean_4 (fun H locs G => ?_)
  refine lv_istore_n (lv' := [(1, .int r1), (0, .ref (ad 0))]) hx hb dX9_mean_7 rfl hl (by decide) rfl (fun ls hl => ?_)
  refine lv_iload_n hx hb dX9_mean_8 rfl (lv_at hl 0 rfl) ?_
  refine lv_if_ne (tgt := 18) hx hb dX9_mean_9 (by decide) (fun q => ?_) (fun q => ?_)
  · have h := u_neg q h
    refine lv_aload_n hx hb dX9_mean_18 rfl (lv_at hl 1 rfl) ?_
    refine u_get (v := .ref (ad 8)) C G obX_0 (ci := 9) (N := 14) (Cn := RX9) (T := TX9) rfl fi_X9_mean_9 1 (by decide) (by decide +kernel) rfl dX9_mean_19 ?_
    obtain ⟨r3, σ4, er3, h⟩ := ub_of h
    refine u_callVi (As := []) (rest := []) C G (c_X8_lettersThere l D ad cs C.2.2.1 σ2 r3 σ4 er3) (cwV 0 C.1.2.2.2.2 gX9_mean_X8_lettersThere rfl rfl rfl (by decide +kernel) ⟨Nat.le_of_ble_eq_true rfl, Nat.le_of_ble_eq_true rfl⟩) obX_8 (ci := 8) (T := TX8) rfl rfl hl rfl (Nat.le_of_ble_eq_true rfl) dX9_mean_22 (fun H locs G => ?_)
    refine lv_iload_n hx hb dX9_mean_25 rfl (lv_at hl 0 rfl) ?_
    obtain ⟨gz, h⟩ := ug_of h
    refine lv_idiv hx hb dX9_mean_26 (of_decide_eq_true gz) ?_
    obtain ⟨rfl, rfl⟩ := u_end h
    exact u_iret hx hb hr hlk G dX9_mean_27
  · have h := u_pos q h
    refine lv_aload_n hx hb dX9_mean_12 rfl (lv_at hl 1 rfl) ?_
    refine lv_iconst (v := 4) hx hb dX9_mean_13 (by decide) ?_
    obtain ⟨r5, σ6, er5, h⟩ := ub_of h
    refine u_callVi (As := [.int 4]) (rest := []) C G (c_X9_refuse l D ad cs C.2.2.1 σ2 (4 : Int32) r5 σ6 er5) (cwV 1 C.1.2.2.2.2 gX9_mean_X9_refuse rfl rfl rfl (by decide +kernel) ⟨Nat.le_of_ble_eq_true rfl, Nat.le_of_ble_eq_true rfl⟩) obX_0 (ci := 9) (T := TX9) rfl rfl hl rfl (Nat.le_of_ble_eq_true rfl) dX9_mean_14 (fun H locs G => ?_)
    obtain ⟨rfl, rfl⟩ := u_end h
    exact u_iret hx hb hr hlk G dX9_mean_17
/-! X9_isLine -/
def f_X9_isLine (σ : St) (v0 : Int32) : Option (Int32 × St) :=
  if v0 < 0 then
    some ((0 : Int32), σ)
  else
    if 4 ≤ v0 then
      some ((0 : Int32), σ)
    else
      some ((1 : Int32), σ)
set_option maxHeartbeats 4000000 in
set_option maxRecDepth 100000 in
theorem c_X9_isLine (l : Launch) (D : va_G) (ad : Nat → Nat) (cs : Nat → ClassId) (J : uJ 99 ad) (σ : St) (v0 : Int32) (r : Int32) (σ' : St) (h : f_X9_isLine σ v0 = some (r, σ')) : uMi l yX9_isLine wsX9_isLine { frames := 0, cells := 0, slots := 0, locals := 0 } D vwCl (tyX cs) 99 ad (enX ad cs) [.int v0] σ r σ' := by
  refine u_met (Qf := uQi D vwCl 99 ad (enX ad cs) r σ') (cc := cX9_isLine) (maxL := 1) (ret := (some .boolean)) (lv := [(0, .int v0)]) J (by decide) rfl (Nat.le_of_ble_eq_true rfl) rfl rfl rfl ?_
  intro p e s m args below meth c ls hx hb C hr hlk G hl
  unfold f_X9_isLine at h
  obtain ⟨H, eH⟩ : ∃ H, H = s.heap := ⟨_, rfl⟩
  obtain ⟨locs, eL⟩ : ∃ locs : List Loc, locs = [] := ⟨_, rfl⟩
  refine u_start eH eL G ?_
  clear G eH eL
  intro G
  refine lv_iload_n hx hb dX9_isLine_0 rfl (lv_at hl 0 rfl) ?_
  refine lv_if_lt (tgt := 13) hx hb dX9_isLine_1 (by decide) (fun q => ?_) (fun q => ?_)
  · have h := u_pos q h
    refine lv_iconst (v := 0) hx hb dX9_isLine_13 (by decide) ?_
    obtain ⟨rfl, rfl⟩ := u_end h
    exact u_zret hx hb hr hlk G (by decide) dX9_isLine_14
  · have h := u_neg q h
    refine lv_iload_n hx hb dX9_isLine_4 rfl (lv_at hl 0 rfl) ?_
    refine lv_iconst (v := 4) hx hb dX9_isLine_5 (by decide) ?_
    refine lv_icmp_ge (tgt := 13) hx hb dX9_isLine_6 (by decide) (fun q => ?_) (fun q => ?_)
    · have h := u_pos q h
      refine lv_iconst (v := 0) hx hb dX9_isLine_13 (by decide) ?_
      obtain ⟨rfl, rfl⟩ := u_end h
      exact u_zret hx hb hr hlk G (by decide) dX9_isLine_14
    · have h := u_neg q h
      refine lv_iconst (v := 1) hx hb dX9_isLine_9 (by decide) ?_
      refine lv_goto (tgt := 14) hx hb dX9_isLine_10 (by decide) ?_
      obtain ⟨rfl, rfl⟩ := u_end h
      exact u_zret hx hb hr hlk G (by decide) dX9_isLine_14
/-! X9_isSlot -/
def f_X9_isSlot (σ : St) (v0 : Int32) : Option (Int32 × St) :=
  if v0 < 0 then
    some ((0 : Int32), σ)
  else
    if 10 ≤ v0 then
      some ((0 : Int32), σ)
    else
      some ((1 : Int32), σ)
set_option maxHeartbeats 4000000 in
set_option maxRecDepth 100000 in
theorem c_X9_isSlot (l : Launch) (D : va_G) (ad : Nat → Nat) (cs : Nat → ClassId) (J : uJ 99 ad) (σ : St) (v0 : Int32) (r : Int32) (σ' : St) (h : f_X9_isSlot σ v0 = some (r, σ')) : uMi l yX9_isSlot wsX9_isSlot { frames := 0, cells := 0, slots := 0, locals := 0 } D vwCl (tyX cs) 99 ad (enX ad cs) [.int v0] σ r σ' := by
  refine u_met (Qf := uQi D vwCl 99 ad (enX ad cs) r σ') (cc := cX9_isSlot) (maxL := 1) (ret := (some .boolean)) (lv := [(0, .int v0)]) J (by decide) rfl (Nat.le_of_ble_eq_true rfl) rfl rfl rfl ?_
  intro p e s m args below meth c ls hx hb C hr hlk G hl
  unfold f_X9_isSlot at h
  obtain ⟨H, eH⟩ : ∃ H, H = s.heap := ⟨_, rfl⟩
  obtain ⟨locs, eL⟩ : ∃ locs : List Loc, locs = [] := ⟨_, rfl⟩
  refine u_start eH eL G ?_
  clear G eH eL
  intro G
  refine lv_iload_n hx hb dX9_isSlot_0 rfl (lv_at hl 0 rfl) ?_
  refine lv_if_lt (tgt := 14) hx hb dX9_isSlot_1 (by decide) (fun q => ?_) (fun q => ?_)
  · have h := u_pos q h
    refine lv_iconst (v := 0) hx hb dX9_isSlot_14 (by decide) ?_
    obtain ⟨rfl, rfl⟩ := u_end h
    exact u_zret hx hb hr hlk G (by decide) dX9_isSlot_15
  · have h := u_neg q h
    refine lv_iload_n hx hb dX9_isSlot_4 rfl (lv_at hl 0 rfl) ?_
    refine lv_bipush (v := 10) hx hb dX9_isSlot_5 (by decide) ?_
    refine lv_icmp_ge (tgt := 14) hx hb dX9_isSlot_7 (by decide) (fun q => ?_) (fun q => ?_)
    · have h := u_pos q h
      refine lv_iconst (v := 0) hx hb dX9_isSlot_14 (by decide) ?_
      obtain ⟨rfl, rfl⟩ := u_end h
      exact u_zret hx hb hr hlk G (by decide) dX9_isSlot_15
    · have h := u_neg q h
      refine lv_iconst (v := 1) hx hb dX9_isSlot_10 (by decide) ?_
      refine lv_goto (tgt := 15) hx hb dX9_isSlot_11 (by decide) ?_
      obtain ⟨rfl, rfl⟩ := u_end h
      exact u_zret hx hb hr hlk G (by decide) dX9_isSlot_15
/-! X9_see -/
def f_X9_see (σ : St) (v1 : Int32) (v2 : Int32) (v3 : Int32) (v4 : Int32) : Option (Int32 × St) :=
  ub (f_X9_isLine σ v1) fun r1 σ2 =>
  if r1 = 0 then
    some (((-1) : Int32), σ2)
  else
    ub (f_X9_isCells σ2 v3) fun r3 σ4 =>
    if r3 = 0 then
      some (((-1) : Int32), σ4)
    else
      if v4 < 0 then
        some (((-1) : Int32), σ4)
      else
        if v4 ≤ 4 then
          ub (f_X9_isSlot σ4 v2) fun r5 σ6 =>
          if r5 = 0 then
            ub (f_X9_refuse σ6 (2 : Int32)) fun r11 σ12 =>
            some (r11, σ12)
          else
            ui v1 4 <|
            ub (f_X2_show σ6 v1.toNatClampNeg v2 v3 v4) fun r9 σ10 =>
            some (r9, σ10)
        else
          some (((-1) : Int32), σ4)
theorem fi_X9_see_9 : ∀ w ∈ u_ws RX9 TX9 14, w ∈ wsX9_see := by decide +kernel
set_option maxHeartbeats 4000000 in
set_option maxRecDepth 100000 in
theorem c_X9_see (l : Launch) (D : va_G) (ad : Nat → Nat) (cs : Nat → ClassId) (J : uJ 99 ad) (σ : St) (v1 : Int32) (v2 : Int32) (v3 : Int32) (v4 : Int32) (r : Int32) (σ' : St) (h : f_X9_see σ v1 v2 v3 v4 = some (r, σ')) : uMi l yX9_see wsX9_see { frames := 2, cells := 0, slots := 0, locals := 46 } D vwCl (tyX cs) 99 ad (enX ad cs) [.ref (ad 0), .int v1, .int v2, .int v3, .int v4] σ r σ' := by
  refine u_met (Qf := uQi D vwCl 99 ad (enX ad cs) r σ') (cc := cX9_see) (maxL := 5) (ret := (some .int)) (lv := [(0, .ref (ad 0)), (1, .int v1), (2, .int v2), (3, .int v3), (4, .int v4)]) J (by decide) rfl (Nat.le_of_ble_eq_true rfl) rfl rfl rfl ?_
  intro p e s m args below meth c ls hx hb C hr hlk G hl
  unfold f_X9_see at h
  obtain ⟨H, eH⟩ : ∃ H, H = s.heap := ⟨_, rfl⟩
  obtain ⟨locs, eL⟩ : ∃ locs : List Loc, locs = [] := ⟨_, rfl⟩
  refine u_start eH eL G ?_
  clear G eH eL
  intro G
  refine lv_iload_n hx hb dX9_see_0 rfl (lv_at hl 1 rfl) ?_
  obtain ⟨r1, σ2, er1, h⟩ := ub_of h
  refine u_callSi (As := [.int v1]) (rest := []) C G (c_X9_isLine l D ad cs C.2.2.1 σ v1 r1 σ2 er1) (va_cwS 1 C.1.2.2.2.2 gX9_see_X9_isLine rfl rfl rfl (by decide +kernel) ⟨Nat.le_of_ble_eq_true rfl, Nat.le_of_ble_eq_true rfl⟩) rfl hl rfl (Nat.le_of_ble_eq_true rfl) dX9_see_1 (fun H locs G => ?_)
  refine lv_if_eq (tgt := 25) hx hb dX9_see_4 (by decide) (fun q => ?_) (fun q => ?_)
  · have h := u_pos q h
    refine lv_iconst (v := (-1)) hx hb dX9_see_25 (by decide) ?_
    obtain ⟨rfl, rfl⟩ := u_end h
    exact u_iret hx hb hr hlk G dX9_see_26
  · have h := u_neg q h
    refine lv_iload_n hx hb dX9_see_7 rfl (lv_at hl 3 rfl) ?_
    obtain ⟨r3, σ4, er3, h⟩ := ub_of h
    refine u_callSi (As := [.int v3]) (rest := []) C G (c_X9_isCells l D ad cs C.2.2.1 σ2 v3 r3 σ4 er3) (va_cwS 1 C.1.2.2.2.2 gX9_see_X9_isCells rfl rfl rfl (by decide +kernel) ⟨Nat.le_of_ble_eq_true rfl, Nat.le_of_ble_eq_true rfl⟩) rfl hl rfl (Nat.le_of_ble_eq_true rfl) dX9_see_8 (fun H locs G => ?_)
    refine lv_if_eq (tgt := 25) hx hb dX9_see_11 (by decide) (fun q => ?_) (fun q => ?_)
    · have h := u_pos q h
      refine lv_iconst (v := (-1)) hx hb dX9_see_25 (by decide) ?_
      obtain ⟨rfl, rfl⟩ := u_end h
      exact u_iret hx hb hr hlk G dX9_see_26
    · have h := u_neg q h
      refine lv_iload hx hb dX9_see_14 (lv_at hl 4 rfl) ?_
      refine lv_if_lt (tgt := 25) hx hb dX9_see_16 (by decide) (fun q => ?_) (fun q => ?_)
      · have h := u_pos q h
        refine lv_iconst (v := (-1)) hx hb dX9_see_25 (by decide) ?_
        obtain ⟨rfl, rfl⟩ := u_end h
        exact u_iret hx hb hr hlk G dX9_see_26
      · have h := u_neg q h
        refine lv_iload hx hb dX9_see_19 (lv_at hl 4 rfl) ?_
        refine lv_iconst (v := 4) hx hb dX9_see_21 (by decide) ?_
        refine lv_icmp_le (tgt := 27) hx hb dX9_see_22 (by decide) (fun q => ?_) (fun q => ?_)
        · have h := u_pos q h
          refine lv_iload_n hx hb dX9_see_27 rfl (lv_at hl 2 rfl) ?_
          obtain ⟨r5, σ6, er5, h⟩ := ub_of h
          refine u_callSi (As := [.int v2]) (rest := []) C G (c_X9_isSlot l D ad cs C.2.2.1 σ4 v2 r5 σ6 er5) (va_cwS 1 C.1.2.2.2.2 gX9_see_X9_isSlot rfl rfl rfl (by decide +kernel) ⟨Nat.le_of_ble_eq_true rfl, Nat.le_of_ble_eq_true rfl⟩) rfl hl rfl (Nat.le_of_ble_eq_true rfl) dX9_see_28 (fun H locs G => ?_)
          refine lv_if_ne (tgt := 40) hx hb dX9_see_31 (by decide) (fun q => ?_) (fun q => ?_)
          · have h := u_neg q h
            refine lv_aload_n hx hb dX9_see_40 rfl (lv_at hl 0 rfl) ?_
            refine u_get (v := .ref (ad 34)) C G obX_0 (ci := 9) (N := 14) (Cn := RX9) (T := TX9) rfl fi_X9_see_9 2 (by decide) (by decide +kernel) rfl dX9_see_41 ?_
            refine lv_iload_n hx hb dX9_see_44 rfl (lv_at hl 1 rfl) ?_
            obtain ⟨g7, h⟩ := ui_of h
            refine u_aald C G rrX_34 (t0 := 3) rfl rfl g7 dX9_see_45 (fun b8 => ?_)
            refine lv_iload_n hx hb dX9_see_46 rfl (lv_at hl 2 rfl) ?_
            refine lv_iload_n hx hb dX9_see_47 rfl (lv_at hl 3 rfl) ?_
            refine lv_iload hx hb dX9_see_48 (lv_at hl 4 rfl) ?_
            obtain ⟨r9, σ10, er9, h⟩ := ub_of h
            refine u_callVi (As := [.int v2, .int v3, .int v4]) (rest := []) C G (c_X2_show l D ad cs C.2.2.1 σ6 v1.toNatClampNeg v2 v3 v4 b8 r9 σ10 er9) (cwV 3 C.1.2.2.2.2 gX9_see_X2_show rfl rfl rfl (by decide +kernel) ⟨Nat.le_of_ble_eq_true rfl, Nat.le_of_ble_eq_true rfl⟩) (obX_line b8) (ci := 2) (T := TX2) rfl rfl hl rfl (Nat.le_of_ble_eq_true rfl) dX9_see_50 (fun H locs G => ?_)
            obtain ⟨rfl, rfl⟩ := u_end h
            exact u_iret hx hb hr hlk G dX9_see_53
          · have h := u_pos q h
            refine lv_aload_n hx hb dX9_see_34 rfl (lv_at hl 0 rfl) ?_
            refine lv_iconst (v := 2) hx hb dX9_see_35 (by decide) ?_
            obtain ⟨r11, σ12, er11, h⟩ := ub_of h
            refine u_callVi (As := [.int 2]) (rest := []) C G (c_X9_refuse l D ad cs C.2.2.1 σ6 (2 : Int32) r11 σ12 er11) (cwV 1 C.1.2.2.2.2 gX9_see_X9_refuse rfl rfl rfl (by decide +kernel) ⟨Nat.le_of_ble_eq_true rfl, Nat.le_of_ble_eq_true rfl⟩) obX_0 (ci := 9) (T := TX9) rfl rfl hl rfl (Nat.le_of_ble_eq_true rfl) dX9_see_36 (fun H locs G => ?_)
            obtain ⟨rfl, rfl⟩ := u_end h
            exact u_iret hx hb hr hlk G dX9_see_39
        · have h := u_neg q h
          refine lv_iconst (v := (-1)) hx hb dX9_see_25 (by decide) ?_
          obtain ⟨rfl, rfl⟩ := u_end h
          exact u_iret hx hb hr hlk G dX9_see_26
/-! X9_seen -/
def f_X9_seen (σ : St) (v1 : Int32) (v2 : Int32) (v3 : Int32) : Option (Int32 × St) :=
  ub (f_X9_isLine σ v1) fun r1 σ2 =>
  if r1 = 0 then
    some (((-1) : Int32), σ2)
  else
    if v3 < 0 then
      some (((-1) : Int32), σ2)
    else
      if v3 < 15 then
        ub (f_X9_isSlot σ2 v2) fun r3 σ4 =>
        if r3 = 0 then
          ub (f_X9_refuse σ4 (2 : Int32)) fun r9 σ10 =>
          some (r9, σ10)
        else
          ui v1 4 <|
          ub (f_X2_valueAt σ4 v1.toNatClampNeg v2 v3) fun r7 σ8 =>
          some (r7, σ8)
      else
        some (((-1) : Int32), σ2)
theorem fi_X9_seen_9 : ∀ w ∈ u_ws RX9 TX9 14, w ∈ wsX9_seen := by decide +kernel
set_option maxHeartbeats 4000000 in
set_option maxRecDepth 100000 in
theorem c_X9_seen (l : Launch) (D : va_G) (ad : Nat → Nat) (cs : Nat → ClassId) (J : uJ 99 ad) (σ : St) (v1 : Int32) (v2 : Int32) (v3 : Int32) (r : Int32) (σ' : St) (h : f_X9_seen σ v1 v2 v3 = some (r, σ')) : uMi l yX9_seen wsX9_seen { frames := 1, cells := 0, slots := 0, locals := 23 } D vwCl (tyX cs) 99 ad (enX ad cs) [.ref (ad 0), .int v1, .int v2, .int v3] σ r σ' := by
  refine u_met (Qf := uQi D vwCl 99 ad (enX ad cs) r σ') (cc := cX9_seen) (maxL := 4) (ret := (some .int)) (lv := [(0, .ref (ad 0)), (1, .int v1), (2, .int v2), (3, .int v3)]) J (by decide) rfl (Nat.le_of_ble_eq_true rfl) rfl rfl rfl ?_
  intro p e s m args below meth c ls hx hb C hr hlk G hl
  unfold f_X9_seen at h
  obtain ⟨H, eH⟩ : ∃ H, H = s.heap := ⟨_, rfl⟩
  obtain ⟨locs, eL⟩ : ∃ locs : List Loc, locs = [] := ⟨_, rfl⟩
  refine u_start eH eL G ?_
  clear G eH eL
  intro G
  refine lv_iload_n hx hb dX9_seen_0 rfl (lv_at hl 1 rfl) ?_
  obtain ⟨r1, σ2, er1, h⟩ := ub_of h
  refine u_callSi (As := [.int v1]) (rest := []) C G (c_X9_isLine l D ad cs C.2.2.1 σ v1 r1 σ2 er1) (va_cwS 1 C.1.2.2.2.2 gX9_seen_X9_isLine rfl rfl rfl (by decide +kernel) ⟨Nat.le_of_ble_eq_true rfl, Nat.le_of_ble_eq_true rfl⟩) rfl hl rfl (Nat.le_of_ble_eq_true rfl) dX9_seen_1 (fun H locs G => ?_)
  refine lv_if_eq (tgt := 17) hx hb dX9_seen_4 (by decide) (fun q => ?_) (fun q => ?_)
  · have h := u_pos q h
    refine lv_iconst (v := (-1)) hx hb dX9_seen_17 (by decide) ?_
    obtain ⟨rfl, rfl⟩ := u_end h
    exact u_iret hx hb hr hlk G dX9_seen_18
  · have h := u_neg q h
    refine lv_iload_n hx hb dX9_seen_7 rfl (lv_at hl 3 rfl) ?_
    refine lv_if_lt (tgt := 17) hx hb dX9_seen_8 (by decide) (fun q => ?_) (fun q => ?_)
    · have h := u_pos q h
      refine lv_iconst (v := (-1)) hx hb dX9_seen_17 (by decide) ?_
      obtain ⟨rfl, rfl⟩ := u_end h
      exact u_iret hx hb hr hlk G dX9_seen_18
    · have h := u_neg q h
      refine lv_iload_n hx hb dX9_seen_11 rfl (lv_at hl 3 rfl) ?_
      refine lv_bipush (v := 15) hx hb dX9_seen_12 (by decide) ?_
      refine lv_icmp_lt (tgt := 19) hx hb dX9_seen_14 (by decide) (fun q => ?_) (fun q => ?_)
      · have h := u_pos q h
        refine lv_iload_n hx hb dX9_seen_19 rfl (lv_at hl 2 rfl) ?_
        obtain ⟨r3, σ4, er3, h⟩ := ub_of h
        refine u_callSi (As := [.int v2]) (rest := []) C G (c_X9_isSlot l D ad cs C.2.2.1 σ2 v2 r3 σ4 er3) (va_cwS 1 C.1.2.2.2.2 gX9_seen_X9_isSlot rfl rfl rfl (by decide +kernel) ⟨Nat.le_of_ble_eq_true rfl, Nat.le_of_ble_eq_true rfl⟩) rfl hl rfl (Nat.le_of_ble_eq_true rfl) dX9_seen_20 (fun H locs G => ?_)
        refine lv_if_ne (tgt := 32) hx hb dX9_seen_23 (by decide) (fun q => ?_) (fun q => ?_)
        · have h := u_neg q h
          refine lv_aload_n hx hb dX9_seen_32 rfl (lv_at hl 0 rfl) ?_
          refine u_get (v := .ref (ad 34)) C G obX_0 (ci := 9) (N := 14) (Cn := RX9) (T := TX9) rfl fi_X9_seen_9 2 (by decide) (by decide +kernel) rfl dX9_seen_33 ?_
          refine lv_iload_n hx hb dX9_seen_36 rfl (lv_at hl 1 rfl) ?_
          obtain ⟨g5, h⟩ := ui_of h
          refine u_aald C G rrX_34 (t0 := 3) rfl rfl g5 dX9_seen_37 (fun b6 => ?_)
          refine lv_iload_n hx hb dX9_seen_38 rfl (lv_at hl 2 rfl) ?_
          refine lv_iload_n hx hb dX9_seen_39 rfl (lv_at hl 3 rfl) ?_
          obtain ⟨r7, σ8, er7, h⟩ := ub_of h
          refine u_callVi (As := [.int v2, .int v3]) (rest := []) C G (c_X2_valueAt l D ad cs C.2.2.1 σ4 v1.toNatClampNeg v2 v3 b6 r7 σ8 er7) (cwV 2 C.1.2.2.2.2 gX9_seen_X2_valueAt rfl rfl rfl (by decide +kernel) ⟨Nat.le_of_ble_eq_true rfl, Nat.le_of_ble_eq_true rfl⟩) (obX_line b6) (ci := 2) (T := TX2) rfl rfl hl rfl (Nat.le_of_ble_eq_true rfl) dX9_seen_40 (fun H locs G => ?_)
          obtain ⟨rfl, rfl⟩ := u_end h
          exact u_iret hx hb hr hlk G dX9_seen_43
        · have h := u_pos q h
          refine lv_aload_n hx hb dX9_seen_26 rfl (lv_at hl 0 rfl) ?_
          refine lv_iconst (v := 2) hx hb dX9_seen_27 (by decide) ?_
          obtain ⟨r9, σ10, er9, h⟩ := ub_of h
          refine u_callVi (As := [.int 2]) (rest := []) C G (c_X9_refuse l D ad cs C.2.2.1 σ4 (2 : Int32) r9 σ10 er9) (cwV 1 C.1.2.2.2.2 gX9_seen_X9_refuse rfl rfl rfl (by decide +kernel) ⟨Nat.le_of_ble_eq_true rfl, Nat.le_of_ble_eq_true rfl⟩) obX_0 (ci := 9) (T := TX9) rfl rfl hl rfl (Nat.le_of_ble_eq_true rfl) dX9_seen_28 (fun H locs G => ?_)
          obtain ⟨rfl, rfl⟩ := u_end h
          exact u_iret hx hb hr hlk G dX9_seen_31
      · have h := u_neg q h
        refine lv_iconst (v := (-1)) hx hb dX9_seen_17 (by decide) ?_
        obtain ⟨rfl, rfl⟩ := u_end h
        exact u_iret hx hb hr hlk G dX9_seen_18
/-! X9_isColour -/
def f_X9_isColour (σ : St) (v0 : Int32) : Option (Int32 × St) :=
  if v0 < 1 then
    some ((0 : Int32), σ)
  else
    if 3 < v0 then
      some ((0 : Int32), σ)
    else
      some ((1 : Int32), σ)
set_option maxHeartbeats 4000000 in
set_option maxRecDepth 100000 in
theorem c_X9_isColour (l : Launch) (D : va_G) (ad : Nat → Nat) (cs : Nat → ClassId) (J : uJ 99 ad) (σ : St) (v0 : Int32) (r : Int32) (σ' : St) (h : f_X9_isColour σ v0 = some (r, σ')) : uMi l yX9_isColour wsX9_isColour { frames := 0, cells := 0, slots := 0, locals := 0 } D vwCl (tyX cs) 99 ad (enX ad cs) [.int v0] σ r σ' := by
  refine u_met (Qf := uQi D vwCl 99 ad (enX ad cs) r σ') (cc := cX9_isColour) (maxL := 1) (ret := (some .boolean)) (lv := [(0, .int v0)]) J (by decide) rfl (Nat.le_of_ble_eq_true rfl) rfl rfl rfl ?_
  intro p e s m args below meth c ls hx hb C hr hlk G hl
  unfold f_X9_isColour at h
  obtain ⟨H, eH⟩ : ∃ H, H = s.heap := ⟨_, rfl⟩
  obtain ⟨locs, eL⟩ : ∃ locs : List Loc, locs = [] := ⟨_, rfl⟩
  refine u_start eH eL G ?_
  clear G eH eL
  intro G
  refine lv_iload_n hx hb dX9_isColour_0 rfl (lv_at hl 0 rfl) ?_
  refine lv_iconst (v := 1) hx hb dX9_isColour_1 (by decide) ?_
  refine lv_icmp_lt (tgt := 14) hx hb dX9_isColour_2 (by decide) (fun q => ?_) (fun q => ?_)
  · have h := u_pos q h
    refine lv_iconst (v := 0) hx hb dX9_isColour_14 (by decide) ?_
    obtain ⟨rfl, rfl⟩ := u_end h
    exact u_zret hx hb hr hlk G (by decide) dX9_isColour_15
  · have h := u_neg q h
    refine lv_iload_n hx hb dX9_isColour_5 rfl (lv_at hl 0 rfl) ?_
    refine lv_iconst (v := 3) hx hb dX9_isColour_6 (by decide) ?_
    refine lv_icmp_gt (tgt := 14) hx hb dX9_isColour_7 (by decide) (fun q => ?_) (fun q => ?_)
    · have h := u_pos q h
      refine lv_iconst (v := 0) hx hb dX9_isColour_14 (by decide) ?_
      obtain ⟨rfl, rfl⟩ := u_end h
      exact u_zret hx hb hr hlk G (by decide) dX9_isColour_15
    · have h := u_neg q h
      refine lv_iconst (v := 1) hx hb dX9_isColour_10 (by decide) ?_
      refine lv_goto (tgt := 15) hx hb dX9_isColour_11 (by decide) ?_
      obtain ⟨rfl, rfl⟩ := u_end h
      exact u_zret hx hb hr hlk G (by decide) dX9_isColour_15
/-! X9_lackAt -/
def f_X9_lackAt_6 : Nat → St → Nat → Int32 → Int32 → Int32 → Int32 → Int32 → Option (Int32 × St)
  | 0, _, _, _, _, _, _, _ => none
  | fuel + 1, σ, i1, v2, v3, v4, v5, v6 =>
    if 10 ≤ v6 then
      some (v5, σ)
    else
      ub (f_X8_cellsIn σ v2 v3 v6) fun r1 σ2 =>
      ui v4 4 <|
      ui v6 10 <|
      ul (σ2 (35 + 9 * i1 + 2 + v4.toNatClampNeg) v6.toNatClampNeg) fun x6 =>
      if (x6 &&& (r1 ^^^ (-1))) = 0 then
        ub (f_X2_known σ2 i1 v6) fun r7 σ8 =>
        ub (f_J6_bitCount_0f7a4 σ8 ((r1 &&& r7) &&& (x6 ^^^ (-1)))) fun r9 σ10 =>
        ul (v5 + r9) fun x11 =>
        ul (v6 + 1) fun x12 =>
        f_X9_lackAt_6 fuel σ10 i1 v2 v3 v4 x11 x12
      else
        some (((-9) : Int32), σ2)
def f_X9_lackAt (σ : St) (i1 : Nat) (v2 : Int32) (v3 : Int32) (v4 : Int32) : Option (Int32 × St) :=
  f_X9_lackAt_6 fu σ i1 v2 v3 v4 0 0
theorem fi_X9_lackAt_2 : ∀ w ∈ u_ws RX2 TX2 5, w ∈ wsX9_lackAt := by decide +kernel
theorem fi_X9_lackAt_9 : ∀ w ∈ u_ws RX9 TX9 14, w ∈ wsX9_lackAt := by decide +kernel
set_option maxHeartbeats 4000000 in
set_option maxRecDepth 100000 in
theorem w_X9_lackAt_6 {p : Program} {l : Launch} {e : Env} {s : State} {m : MethodId} {args : Array Value} {below : List Frame} {meth : Method} {c : Code} {D : va_G} {ad : Nat → Nat} {cs : Nat → ClassId} (C : uC p { frames := 1, cells := 0, slots := 0, locals := 24 } s m args c cX9_lackAt 9 wsX9_lackAt RX9 D vwCl (tyX cs) 99 ad (uAd 99 ad s.heap.size) 0 0) (hr : meth.sig.returnType = (some .int)) (hlk : meth.locks = false) {r : Int32} {σ' : St} :
    ∀ (n : Nat) (σ : St) (i1 : Nat) (v2 : Int32) (v3 : Int32) (v4 : Int32) (v5 : Int32) (v6 : Int32) (bi1 : i1 < 4), f_X9_lackAt_6 n σ i1 v2 v3 v4 v5 v6 = some (r, σ') → ∀ (H : Heap) (locs : List Loc) (ls : Array Slot), uG D vwCl 99 ad (enX ad cs) (uAd 99 ad s.heap.size) s σ H locs → lv_has ls 9 [(0, .ref (ad 0)), (1, .ref (ad (35 + 9 * i1))), (2, .int v2), (3, .int v3), (4, .int v4), (5, .int v5), (6, .int v6)] → W p l e { frames := 1, cells := 0, slots := 0, locals := 24 } s m args below meth c H locs 0 0 (MQ below (uQi D vwCl 99 ad (enX ad cs) r σ' s.heap.size) args s 0 0 (uAd 99 ad s.heap.size)) (F0 m 6 ls []) := by
  have hx := C.1.1
  have hb := C.1.2.1
  intro n
  induction n with
  | zero => intro σ i1 v2 v3 v4 v5 v6 bi1 h; exact absurd h (by simp [f_X9_lackAt_6])
  | succ fuel ih =>
    intro σ i1 v2 v3 v4 v5 v6 bi1 h H locs ls G hl
    rw [f_X9_lackAt_6] at h
    refine lv_iload hx hb dX9_lackAt_6 (lv_at hl 6 rfl) ?_
    refine lv_bipush (v := 10) hx hb dX9_lackAt_8 (by decide) ?_
    refine lv_icmp_ge (tgt := 79) hx hb dX9_lackAt_10 (by decide) (fun q => ?_) (fun q => ?_)
    · have h := u_pos q h
      refine lv_iload hx hb dX9_lackAt_79 (lv_at hl 5 rfl) ?_
      obtain ⟨rfl, rfl⟩ := u_end h
      exact u_iret hx hb hr hlk G dX9_lackAt_81
    · have h := u_neg q h
      refine lv_aload_n hx hb dX9_lackAt_13 rfl (lv_at hl 0 rfl) ?_
      refine u_get (v := .ref (ad 8)) C G obX_0 (ci := 9) (N := 14) (Cn := RX9) (T := TX9) rfl fi_X9_lackAt_9 1 (by decide) (by decide +kernel) rfl dX9_lackAt_14 ?_
      refine lv_iload_n hx hb dX9_lackAt_17 rfl (lv_at hl 2 rfl) ?_
      refine lv_iload_n hx hb dX9_lackAt_18 rfl (lv_at hl 3 rfl) ?_
      refine lv_iload hx hb dX9_lackAt_19 (lv_at hl 6 rfl) ?_
      obtain ⟨r1, σ2, er1, h⟩ := ub_of h
      refine u_callVi (As := [.int v2, .int v3, .int v6]) (rest := []) C G (c_X8_cellsIn l D ad cs C.2.2.1 σ v2 v3 v6 r1 σ2 er1) (cwV 3 C.1.2.2.2.2 gX9_lackAt_X8_cellsIn rfl rfl rfl (by decide +kernel) ⟨Nat.le_of_ble_eq_true rfl, Nat.le_of_ble_eq_true rfl⟩) obX_8 (ci := 8) (T := TX8) rfl rfl hl rfl (Nat.le_of_ble_eq_true rfl) dX9_lackAt_21 (fun H locs G => ?_)
      refine lv_istore (lv' := [(7, .int r1), (0, .ref (ad 0)), (1, .ref (ad (35 + 9 * i1))), (2, .int v2), (3, .int v3), (4, .int v4), (5, .int v5), (6, .int v6)]) hx hb dX9_lackAt_24 hl (by decide) rfl (fun ls hl => ?_)
      refine lv_aload_n hx hb dX9_lackAt_26 rfl (lv_at hl 2 rfl) ?_
      refine u_get (v := .ref (ad (35 + 9 * i1 + 1))) C G (obX_line bi1) (ci := 2) (N := 5) (Cn := RX2) (T := TX2) rfl fi_X9_lackAt_2 0 (by decide) (by decide +kernel) rfl dX9_lackAt_27 ?_
      refine lv_iload hx hb dX9_lackAt_30 (lv_at hl 5 rfl) ?_
      obtain ⟨g3, h⟩ := ui_of h
      refine u_aald C G (rrX_cells bi1) (t0 := 5) rfl rfl g3 dX9_lackAt_32 (fun b4 => ?_)
      refine lv_iload hx hb dX9_lackAt_33 (lv_at hl 7 rfl) ?_
      obtain ⟨g5, h⟩ := ui_of h
      refine u_iald C G (arX_crow bi1 b4) (t0 := 0) rfl g5 dX9_lackAt_35 ?_
      obtain ⟨x6, ex6, h⟩ := ul_of h
      refine u_nmi ex6 ?_
      refine lv_istore (lv' := [(8, .int x6), (7, .int r1), (0, .ref (ad 0)), (1, .ref (ad (35 + 9 * i1))), (2, .int v2), (3, .int v3), (4, .int v4), (5, .int v5), (6, .int v6)]) hx hb dX9_lackAt_36 hl (by decide) rfl (fun ls hl => ?_)
      refine lv_iload hx hb dX9_lackAt_38 (lv_at hl 0 rfl) ?_
      refine lv_iload hx hb dX9_lackAt_40 (lv_at hl 1 rfl) ?_
      refine lv_iconst (v := (-1)) hx hb dX9_lackAt_42 (by decide) ?_
      refine lv_ixor hx hb dX9_lackAt_43 ?_
      refine lv_iand hx hb dX9_lackAt_44 ?_
      refine lv_if_eq (tgt := 51) hx hb dX9_lackAt_45 (by decide) (fun q => ?_) (fun q => ?_)
      · have h := u_pos q h
        refine lv_iload hx hb dX9_lackAt_51 (lv_at hl 7 rfl) ?_
        refine lv_iload hx hb dX9_lackAt_53 (lv_at hl 1 rfl) ?_
        refine lv_aload_n hx hb dX9_lackAt_55 rfl (lv_at hl 3 rfl) ?_
        refine lv_iload hx hb dX9_lackAt_56 (lv_at hl 8 rfl) ?_
        obtain ⟨r7, σ8, er7, h⟩ := ub_of h
        refine u_callVi (As := [.int v6]) (rest := [.int r1, .int v5]) C G (c_X2_known l D ad cs C.2.2.1 σ2 i1 v6 bi1 r7 σ8 er7) (cwV 1 C.1.2.2.2.2 gX9_lackAt_X2_known rfl rfl rfl (by decide +kernel) ⟨Nat.le_of_ble_eq_true rfl, Nat.le_of_ble_eq_true rfl⟩) (obX_line bi1) (ci := 2) (T := TX2) rfl rfl hl rfl (Nat.le_of_ble_eq_true rfl) dX9_lackAt_58 (fun H locs G => ?_)
        refine lv_iand hx hb dX9_lackAt_61 ?_
        refine lv_iload hx hb dX9_lackAt_62 (lv_at hl 0 rfl) ?_
        refine lv_iconst (v := (-1)) hx hb dX9_lackAt_64 (by decide) ?_
        refine lv_ixor hx hb dX9_lackAt_65 ?_
        refine lv_iand hx hb dX9_lackAt_66 ?_
        obtain ⟨r9, σ10, er9, h⟩ := ub_of h
        refine u_callSi (As := [.int ((r1 &&& r7) &&& (x6 ^^^ (-1)))]) (rest := [.int v5]) C G (c_J6_bitCount_0f7a4 l D ad cs C.2.2.1 σ8 ((r1 &&& r7) &&& (x6 ^^^ (-1))) r9 σ10 er9) (va_cwS 1 C.1.2.2.2.2 gX9_lackAt_J6_bitCount_0f7a4 rfl rfl rfl (by decide +kernel) ⟨Nat.le_of_ble_eq_true rfl, Nat.le_of_ble_eq_true rfl⟩) rfl hl rfl (Nat.le_of_ble_eq_true rfl) dX9_lackAt_67 (fun H locs G => ?_)
        refine lv_iadd hx hb dX9_lackAt_70 ?_
        obtain ⟨x11, ex11, h⟩ := ul_of h
        refine u_nmi ex11 ?_
        refine lv_istore (lv' := [(5, .int x11), (8, .int x6), (7, .int r1), (0, .ref (ad 0)), (1, .ref (ad (35 + 9 * i1))), (2, .int v2), (3, .int v3), (4, .int v4), (6, .int v6)]) hx hb dX9_lackAt_71 hl (by decide) rfl (fun ls hl => ?_)
        obtain ⟨x12, ex12, h⟩ := ul_of h
        refine lv_iinc (v := x12) (lv' := [(6, .int x12), (5, .int x11), (8, .int x6), (7, .int r1), (0, .ref (ad 0)), (1, .ref (ad (35 + 9 * i1))), (2, .int v2), (3, .int v3), (4, .int v4)]) hx hb dX9_lackAt_73 hl (k := 8) rfl (by rw [ex12]; rfl) (by decide) rfl (fun ls hl => ?_)
        refine lv_goto (tgt := 6) hx hb dX9_lackAt_76 (by decide) ?_
        exact ih σ10 i1 v2 v3 v4 x11 x12 bi1 h H locs ls G (lv_sub hl [4, 5, 6, 7, 8, 1, 0] rfl)
      · have h := u_neg q h
        refine lv_bipush (v := (-9)) hx hb dX9_lackAt_48 (by decide) ?_
        obtain ⟨rfl, rfl⟩ := u_end h
        exact u_iret hx hb hr hlk G dX9_lackAt_50
set_option maxHeartbeats 4000000 in
set_option maxRecDepth 100000 in
theorem c_X9_lackAt (l : Launch) (D : va_G) (ad : Nat → Nat) (cs : Nat → ClassId) (J : uJ 99 ad) (σ : St) (i1 : Nat) (v2 : Int32) (v3 : Int32) (v4 : Int32) (bi1 : i1 < 4) (r : Int32) (σ' : St) (h : f_X9_lackAt σ i1 v2 v3 v4 = some (r, σ')) : uMi l yX9_lackAt wsX9_lackAt { frames := 1, cells := 0, slots := 0, locals := 24 } D vwCl (tyX cs) 99 ad (enX ad cs) [.ref (ad 0), .ref (ad (35 + 9 * i1)), .int v2, .int v3, .int v4] σ r σ' := by
  refine u_met (Qf := uQi D vwCl 99 ad (enX ad cs) r σ') (cc := cX9_lackAt) (maxL := 9) (ret := (some .int)) (lv := [(0, .ref (ad 0)), (1, .ref (ad (35 + 9 * i1))), (2, .int v2), (3, .int v3), (4, .int v4)]) J (by decide) rfl (Nat.le_of_ble_eq_true rfl) rfl rfl rfl ?_
  intro p e s m args below meth c ls hx hb C hr hlk G hl
  unfold f_X9_lackAt at h
  obtain ⟨H, eH⟩ : ∃ H, H = s.heap := ⟨_, rfl⟩
  obtain ⟨locs, eL⟩ : ∃ locs : List Loc, locs = [] := ⟨_, rfl⟩
  refine u_start eH eL G ?_
  clear G eH eL
  intro G
  refine lv_iconst (v := 0) hx hb dX9_lackAt_0 (by decide) ?_
  refine lv_istore (lv' := [(5, .int 0), (0, .ref (ad 0)), (1, .ref (ad (35 + 9 * i1))), (2, .int v2), (3, .int v3), (4, .int v4)]) hx hb dX9_lackAt_1 hl (by decide) rfl (fun ls hl => ?_)
  refine lv_iconst (v := 0) hx hb dX9_lackAt_3 (by decide) ?_
  refine lv_istore (lv' := [(6, .int 0), (5, .int 0), (0, .ref (ad 0)), (1, .ref (ad (35 + 9 * i1))), (2, .int v2), (3, .int v3), (4, .int v4)]) hx hb dX9_lackAt_4 hl (by decide) rfl (fun ls hl => ?_)
  exact w_X9_lackAt_6 C hr hlk fu σ i1 v2 v3 v4 0 0 bi1 h H locs ls G (lv_sub hl [2, 3, 4, 5, 6, 1, 0] rfl)
/-! X9_lack -/
def f_X9_lack (σ : St) (v1 : Int32) (v2 : Int32) (v3 : Int32) (v4 : Int32) : Option (Int32 × St) :=
  ub (f_X9_isLine σ v1) fun r1 σ2 =>
  if r1 = 0 then
    some (((-1) : Int32), σ2)
  else
    ub (f_X8_isNumber σ2 v2) fun r3 σ4 =>
    if r3 = 0 then
      some (((-1) : Int32), σ4)
    else
      ub (f_X9_isColour σ4 v4) fun r5 σ6 =>
      if r5 = 0 then
        some (((-1) : Int32), σ6)
      else
        ui v2 16 <|
        if (σ6 17 v2.toNatClampNeg) = 0 then
          ub (f_X8_isOnLine σ6 v2 v3) fun r8 σ9 =>
          if r8 = 0 then
            ub (f_X9_refuse σ9 (2 : Int32)) fun r14 σ15 =>
            some (r14, σ15)
          else
            ui v1 4 <|
            ub (f_X9_lackAt σ9 v1.toNatClampNeg v2 v3 v4) fun r12 σ13 =>
            some (r12, σ13)
        else
          ub (f_X9_refuse σ6 (1 : Int32)) fun r16 σ17 =>
          some (r16, σ17)
theorem fi_X9_lack_8 : ∀ w ∈ u_ws RX8 TX8 10, w ∈ wsX9_lack := by decide +kernel
theorem fi_X9_lack_9 : ∀ w ∈ u_ws RX9 TX9 14, w ∈ wsX9_lack := by decide +kernel
set_option maxHeartbeats 4000000 in
set_option maxRecDepth 100000 in
theorem c_X9_lack (l : Launch) (D : va_G) (ad : Nat → Nat) (cs : Nat → ClassId) (J : uJ 99 ad) (σ : St) (v1 : Int32) (v2 : Int32) (v3 : Int32) (v4 : Int32) (r : Int32) (σ' : St) (h : f_X9_lack σ v1 v2 v3 v4 = some (r, σ')) : uMi l yX9_lack wsX9_lack { frames := 2, cells := 0, slots := 0, locals := 52 } D vwCl (tyX cs) 99 ad (enX ad cs) [.ref (ad 0), .int v1, .int v2, .int v3, .int v4] σ r σ' := by
  refine u_met (Qf := uQi D vwCl 99 ad (enX ad cs) r σ') (cc := cX9_lack) (maxL := 5) (ret := (some .int)) (lv := [(0, .ref (ad 0)), (1, .int v1), (2, .int v2), (3, .int v3), (4, .int v4)]) J (by decide) rfl (Nat.le_of_ble_eq_true rfl) rfl rfl rfl ?_
  intro p e s m args below meth c ls hx hb C hr hlk G hl
  unfold f_X9_lack at h
  obtain ⟨H, eH⟩ : ∃ H, H = s.heap := ⟨_, rfl⟩
  obtain ⟨locs, eL⟩ : ∃ locs : List Loc, locs = [] := ⟨_, rfl⟩
  refine u_start eH eL G ?_
  clear G eH eL
  intro G
  refine lv_iload_n hx hb dX9_lack_0 rfl (lv_at hl 1 rfl) ?_
  obtain ⟨r1, σ2, er1, h⟩ := ub_of h
  refine u_callSi (As := [.int v1]) (rest := []) C G (c_X9_isLine l D ad cs C.2.2.1 σ v1 r1 σ2 er1) (va_cwS 1 C.1.2.2.2.2 gX9_lack_X9_isLine rfl rfl rfl (by decide +kernel) ⟨Nat.le_of_ble_eq_true rfl, Nat.le_of_ble_eq_true rfl⟩) rfl hl rfl (Nat.le_of_ble_eq_true rfl) dX9_lack_1 (fun H locs G => ?_)
  refine lv_if_eq (tgt := 26) hx hb dX9_lack_4 (by decide) (fun q => ?_) (fun q => ?_)
  · have h := u_pos q h
    refine lv_iconst (v := (-1)) hx hb dX9_lack_26 (by decide) ?_
    obtain ⟨rfl, rfl⟩ := u_end h
    exact u_iret hx hb hr hlk G dX9_lack_27
  · have h := u_neg q h
    refine lv_aload_n hx hb dX9_lack_7 rfl (lv_at hl 0 rfl) ?_
    refine u_get (v := .ref (ad 8)) C G obX_0 (ci := 9) (N := 14) (Cn := RX9) (T := TX9) rfl fi_X9_lack_9 1 (by decide) (by decide +kernel) rfl dX9_lack_8 ?_
    refine lv_iload_n hx hb dX9_lack_11 rfl (lv_at hl 2 rfl) ?_
    obtain ⟨r3, σ4, er3, h⟩ := ub_of h
    refine u_callVi (As := [.int v2]) (rest := []) C G (c_X8_isNumber l D ad cs C.2.2.1 σ2 v2 r3 σ4 er3) (cwV 1 C.1.2.2.2.2 gX9_lack_X8_isNumber rfl rfl rfl (by decide +kernel) ⟨Nat.le_of_ble_eq_true rfl, Nat.le_of_ble_eq_true rfl⟩) obX_8 (ci := 8) (T := TX8) rfl rfl hl rfl (Nat.le_of_ble_eq_true rfl) dX9_lack_12 (fun H locs G => ?_)
    refine lv_if_eq (tgt := 26) hx hb dX9_lack_15 (by decide) (fun q => ?_) (fun q => ?_)
    · have h := u_pos q h
      refine lv_iconst (v := (-1)) hx hb dX9_lack_26 (by decide) ?_
      obtain ⟨rfl, rfl⟩ := u_end h
      exact u_iret hx hb hr hlk G dX9_lack_27
    · have h := u_neg q h
      refine lv_iload hx hb dX9_lack_18 (lv_at hl 4 rfl) ?_
      obtain ⟨r5, σ6, er5, h⟩ := ub_of h
      refine u_callSi (As := [.int v4]) (rest := []) C G (c_X9_isColour l D ad cs C.2.2.1 σ4 v4 r5 σ6 er5) (va_cwS 1 C.1.2.2.2.2 gX9_lack_X9_isColour rfl rfl rfl (by decide +kernel) ⟨Nat.le_of_ble_eq_true rfl, Nat.le_of_ble_eq_true rfl⟩) rfl hl rfl (Nat.le_of_ble_eq_true rfl) dX9_lack_20 (fun H locs G => ?_)
      refine lv_if_ne (tgt := 28) hx hb dX9_lack_23 (by decide) (fun q => ?_) (fun q => ?_)
      · have h := u_neg q h
        refine lv_aload_n hx hb dX9_lack_28 rfl (lv_at hl 0 rfl) ?_
        refine u_get (v := .ref (ad 8)) C G obX_0 (ci := 9) (N := 14) (Cn := RX9) (T := TX9) rfl fi_X9_lack_9 1 (by decide) (by decide +kernel) rfl dX9_lack_29 ?_
        refine u_get (v := .ref (ad 17)) C G obX_8 (ci := 8) (N := 10) (Cn := RX8) (T := TX8) rfl fi_X9_lack_8 8 (by decide) (by decide +kernel) rfl dX9_lack_32 ?_
        refine lv_iload_n hx hb dX9_lack_35 rfl (lv_at hl 2 rfl) ?_
        obtain ⟨g7, h⟩ := ui_of h
        refine u_zald C G arX_17 (t0 := 2) rfl g7 dX9_lack_36 ?_
        refine lv_if_eq (tgt := 46) hx hb dX9_lack_37 (by decide) (fun q => ?_) (fun q => ?_)
        · have h := u_pos q h
          refine lv_aload_n hx hb dX9_lack_46 rfl (lv_at hl 0 rfl) ?_
          refine u_get (v := .ref (ad 8)) C G obX_0 (ci := 9) (N := 14) (Cn := RX9) (T := TX9) rfl fi_X9_lack_9 1 (by decide) (by decide +kernel) rfl dX9_lack_47 ?_
          refine lv_iload_n hx hb dX9_lack_50 rfl (lv_at hl 2 rfl) ?_
          refine lv_iload_n hx hb dX9_lack_51 rfl (lv_at hl 3 rfl) ?_
          obtain ⟨r8, σ9, er8, h⟩ := ub_of h
          refine u_callVi (As := [.int v2, .int v3]) (rest := []) C G (c_X8_isOnLine l D ad cs C.2.2.1 σ6 v2 v3 r8 σ9 er8) (cwV 2 C.1.2.2.2.2 gX9_lack_X8_isOnLine rfl rfl rfl (by decide +kernel) ⟨Nat.le_of_ble_eq_true rfl, Nat.le_of_ble_eq_true rfl⟩) obX_8 (ci := 8) (T := TX8) rfl rfl hl rfl (Nat.le_of_ble_eq_true rfl) dX9_lack_52 (fun H locs G => ?_)
          refine lv_if_ne (tgt := 64) hx hb dX9_lack_55 (by decide) (fun q => ?_) (fun q => ?_)
          · have h := u_neg q h
            refine lv_aload_n hx hb dX9_lack_64 rfl (lv_at hl 0 rfl) ?_
            refine lv_aload_n hx hb dX9_lack_65 rfl (lv_at hl 0 rfl) ?_
            refine u_get (v := .ref (ad 34)) C G obX_0 (ci := 9) (N := 14) (Cn := RX9) (T := TX9) rfl fi_X9_lack_9 2 (by decide) (by decide +kernel) rfl dX9_lack_66 ?_
            refine lv_iload_n hx hb dX9_lack_69 rfl (lv_at hl 1 rfl) ?_
            obtain ⟨g10, h⟩ := ui_of h
            refine u_aald C G rrX_34 (t0 := 3) rfl rfl g10 dX9_lack_70 (fun b11 => ?_)
            refine lv_iload_n hx hb dX9_lack_71 rfl (lv_at hl 2 rfl) ?_
            refine lv_iload_n hx hb dX9_lack_72 rfl (lv_at hl 3 rfl) ?_
            refine lv_iload hx hb dX9_lack_73 (lv_at hl 4 rfl) ?_
            obtain ⟨r12, σ13, er12, h⟩ := ub_of h
            refine u_callVi (As := [.ref (ad (35 + 9 * v1.toNatClampNeg)), .int v2, .int v3, .int v4]) (rest := []) C G (c_X9_lackAt l D ad cs C.2.2.1 σ9 v1.toNatClampNeg v2 v3 v4 b11 r12 σ13 er12) (cwV 4 C.1.2.2.2.2 gX9_lack_X9_lackAt rfl rfl rfl (by decide +kernel) ⟨Nat.le_of_ble_eq_true rfl, Nat.le_of_ble_eq_true rfl⟩) obX_0 (ci := 9) (T := TX9) rfl rfl hl rfl (Nat.le_of_ble_eq_true rfl) dX9_lack_75 (fun H locs G => ?_)
            obtain ⟨rfl, rfl⟩ := u_end h
            exact u_iret hx hb hr hlk G dX9_lack_78
          · have h := u_pos q h
            refine lv_aload_n hx hb dX9_lack_58 rfl (lv_at hl 0 rfl) ?_
            refine lv_iconst (v := 2) hx hb dX9_lack_59 (by decide) ?_
            obtain ⟨r14, σ15, er14, h⟩ := ub_of h
            refine u_callVi (As := [.int 2]) (rest := []) C G (c_X9_refuse l D ad cs C.2.2.1 σ9 (2 : Int32) r14 σ15 er14) (cwV 1 C.1.2.2.2.2 gX9_lack_X9_refuse rfl rfl rfl (by decide +kernel) ⟨Nat.le_of_ble_eq_true rfl, Nat.le_of_ble_eq_true rfl⟩) obX_0 (ci := 9) (T := TX9) rfl rfl hl rfl (Nat.le_of_ble_eq_true rfl) dX9_lack_60 (fun H locs G => ?_)
            obtain ⟨rfl, rfl⟩ := u_end h
            exact u_iret hx hb hr hlk G dX9_lack_63
        · have h := u_neg q h
          refine lv_aload_n hx hb dX9_lack_40 rfl (lv_at hl 0 rfl) ?_
          refine lv_iconst (v := 1) hx hb dX9_lack_41 (by decide) ?_
          obtain ⟨r16, σ17, er16, h⟩ := ub_of h
          refine u_callVi (As := [.int 1]) (rest := []) C G (c_X9_refuse l D ad cs C.2.2.1 σ6 (1 : Int32) r16 σ17 er16) (cwV 1 C.1.2.2.2.2 gX9_lack_X9_refuse rfl rfl rfl (by decide +kernel) ⟨Nat.le_of_ble_eq_true rfl, Nat.le_of_ble_eq_true rfl⟩) obX_0 (ci := 9) (T := TX9) rfl rfl hl rfl (Nat.le_of_ble_eq_true rfl) dX9_lack_42 (fun H locs G => ?_)
          obtain ⟨rfl, rfl⟩ := u_end h
          exact u_iret hx hb hr hlk G dX9_lack_45
      · have h := u_pos q h
        refine lv_iconst (v := (-1)) hx hb dX9_lack_26 (by decide) ?_
        obtain ⟨rfl, rfl⟩ := u_end h
        exact u_iret hx hb hr hlk G dX9_lack_27
/-! X9_bareAt -/
def f_X9_bareAt_6 : Nat → St → Nat → Int32 → Int32 → Int32 → Int32 → Option (Int32 × St)
  | 0, _, _, _, _, _, _ => none
  | fuel + 1, σ, i1, v2, v3, v4, v5 =>
    if 10 ≤ v5 then
      some (v4, σ)
    else
      ub (f_X8_cellsIn σ v2 v3 v5) fun r1 σ2 =>
      ui v5 10 <|
      ub (f_J6_bitCount_0f7a4 σ2 (r1 &&& (σ2 (35 + 9 * i1 + 2 + (0 : Int32).toNatClampNeg) v5.toNatClampNeg))) fun r5 σ6 =>
      ul (v4 + r5) fun x7 =>
      ul (v5 + 1) fun x8 =>
      f_X9_bareAt_6 fuel σ6 i1 v2 v3 x7 x8
def f_X9_bareAt (σ : St) (i1 : Nat) (v2 : Int32) (v3 : Int32) : Option (Int32 × St) :=
  f_X9_bareAt_6 fu σ i1 v2 v3 0 0
theorem fi_X9_bareAt_2 : ∀ w ∈ u_ws RX2 TX2 5, w ∈ wsX9_bareAt := by decide +kernel
theorem fi_X9_bareAt_9 : ∀ w ∈ u_ws RX9 TX9 14, w ∈ wsX9_bareAt := by decide +kernel
set_option maxHeartbeats 4000000 in
set_option maxRecDepth 100000 in
theorem w_X9_bareAt_6 {p : Program} {l : Launch} {e : Env} {s : State} {m : MethodId} {args : Array Value} {below : List Frame} {meth : Method} {c : Code} {D : va_G} {ad : Nat → Nat} {cs : Nat → ClassId} (C : uC p { frames := 1, cells := 0, slots := 0, locals := 24 } s m args c cX9_bareAt 6 wsX9_bareAt RX9 D vwCl (tyX cs) 99 ad (uAd 99 ad s.heap.size) 0 0) (hr : meth.sig.returnType = (some .int)) (hlk : meth.locks = false) {r : Int32} {σ' : St} :
    ∀ (n : Nat) (σ : St) (i1 : Nat) (v2 : Int32) (v3 : Int32) (v4 : Int32) (v5 : Int32) (bi1 : i1 < 4), f_X9_bareAt_6 n σ i1 v2 v3 v4 v5 = some (r, σ') → ∀ (H : Heap) (locs : List Loc) (ls : Array Slot), uG D vwCl 99 ad (enX ad cs) (uAd 99 ad s.heap.size) s σ H locs → lv_has ls 6 [(0, .ref (ad 0)), (1, .ref (ad (35 + 9 * i1))), (2, .int v2), (3, .int v3), (4, .int v4), (5, .int v5)] → W p l e { frames := 1, cells := 0, slots := 0, locals := 24 } s m args below meth c H locs 0 0 (MQ below (uQi D vwCl 99 ad (enX ad cs) r σ' s.heap.size) args s 0 0 (uAd 99 ad s.heap.size)) (F0 m 6 ls []) := by
  have hx := C.1.1
  have hb := C.1.2.1
  intro n
  induction n with
  | zero => intro σ i1 v2 v3 v4 v5 bi1 h; exact absurd h (by simp [f_X9_bareAt_6])
  | succ fuel ih =>
    intro σ i1 v2 v3 v4 v5 bi1 h H locs ls G hl
    rw [f_X9_bareAt_6] at h
    refine lv_iload hx hb dX9_bareAt_6 (lv_at hl 5 rfl) ?_
    refine lv_bipush (v := 10) hx hb dX9_bareAt_8 (by decide) ?_
    refine lv_icmp_ge (tgt := 48) hx hb dX9_bareAt_10 (by decide) (fun q => ?_) (fun q => ?_)
    · have h := u_pos q h
      refine lv_iload hx hb dX9_bareAt_48 (lv_at hl 4 rfl) ?_
      obtain ⟨rfl, rfl⟩ := u_end h
      exact u_iret hx hb hr hlk G dX9_bareAt_50
    · have h := u_neg q h
      refine lv_iload hx hb dX9_bareAt_13 (lv_at hl 4 rfl) ?_
      refine lv_aload_n hx hb dX9_bareAt_15 rfl (lv_at hl 0 rfl) ?_
      refine u_get (v := .ref (ad 8)) C G obX_0 (ci := 9) (N := 14) (Cn := RX9) (T := TX9) rfl fi_X9_bareAt_9 1 (by decide) (by decide +kernel) rfl dX9_bareAt_16 ?_
      refine lv_iload_n hx hb dX9_bareAt_19 rfl (lv_at hl 2 rfl) ?_
      refine lv_iload_n hx hb dX9_bareAt_20 rfl (lv_at hl 3 rfl) ?_
      refine lv_iload hx hb dX9_bareAt_21 (lv_at hl 5 rfl) ?_
      obtain ⟨r1, σ2, er1, h⟩ := ub_of h
      refine u_callVi (As := [.int v2, .int v3, .int v5]) (rest := [.int v4]) C G (c_X8_cellsIn l D ad cs C.2.2.1 σ v2 v3 v5 r1 σ2 er1) (cwV 3 C.1.2.2.2.2 gX9_bareAt_X8_cellsIn rfl rfl rfl (by decide +kernel) ⟨Nat.le_of_ble_eq_true rfl, Nat.le_of_ble_eq_true rfl⟩) obX_8 (ci := 8) (T := TX8) rfl rfl hl rfl (Nat.le_of_ble_eq_true rfl) dX9_bareAt_23 (fun H locs G => ?_)
      refine lv_aload_n hx hb dX9_bareAt_26 rfl (lv_at hl 1 rfl) ?_
      refine u_get (v := .ref (ad (35 + 9 * i1 + 1))) C G (obX_line bi1) (ci := 2) (N := 5) (Cn := RX2) (T := TX2) rfl fi_X9_bareAt_2 0 (by decide) (by decide +kernel) rfl dX9_bareAt_27 ?_
      refine lv_iconst (v := 0) hx hb dX9_bareAt_30 (by decide) ?_
      refine u_aald C G (rrX_cells bi1) (t0 := 5) rfl rfl (vp_lit (by decide)) dX9_bareAt_31 (fun b3 => ?_)
      refine lv_iload hx hb dX9_bareAt_32 (lv_at hl 5 rfl) ?_
      obtain ⟨g4, h⟩ := ui_of h
      refine u_iald C G (arX_crow bi1 b3) (t0 := 0) rfl g4 dX9_bareAt_34 ?_
      refine lv_iand hx hb dX9_bareAt_35 ?_
      obtain ⟨r5, σ6, er5, h⟩ := ub_of h
      refine u_callSi (As := [.int (r1 &&& (σ2 (35 + 9 * i1 + 2 + (0 : Int32).toNatClampNeg) v5.toNatClampNeg))]) (rest := [.int v4]) C G (c_J6_bitCount_0f7a4 l D ad cs C.2.2.1 σ2 (r1 &&& (σ2 (35 + 9 * i1 + 2 + (0 : Int32).toNatClampNeg) v5.toNatClampNeg)) r5 σ6 er5) (va_cwS 1 C.1.2.2.2.2 gX9_bareAt_J6_bitCount_0f7a4 rfl rfl rfl (by decide +kernel) ⟨Nat.le_of_ble_eq_true rfl, Nat.le_of_ble_eq_true rfl⟩) rfl hl rfl (Nat.le_of_ble_eq_true rfl) dX9_bareAt_36 (fun H locs G => ?_)
      refine lv_iadd hx hb dX9_bareAt_39 ?_
      obtain ⟨x7, ex7, h⟩ := ul_of h
      refine u_nmi ex7 ?_
      refine lv_istore (lv' := [(4, .int x7), (0, .ref (ad 0)), (1, .ref (ad (35 + 9 * i1))), (2, .int v2), (3, .int v3), (5, .int v5)]) hx hb dX9_bareAt_40 hl (by decide) rfl (fun ls hl => ?_)
      obtain ⟨x8, ex8, h⟩ := ul_of h
      refine lv_iinc (v := x8) (lv' := [(5, .int x8), (4, .int x7), (0, .ref (ad 0)), (1, .ref (ad (35 + 9 * i1))), (2, .int v2), (3, .int v3)]) hx hb dX9_bareAt_42 hl (k := 5) rfl (by rw [ex8]; rfl) (by decide) rfl (fun ls hl => ?_)
      refine lv_goto (tgt := 6) hx hb dX9_bareAt_45 (by decide) ?_
      exact ih σ6 i1 v2 v3 x7 x8 bi1 h H locs ls G (lv_sub hl [2, 3, 4, 5, 1, 0] rfl)
set_option maxHeartbeats 4000000 in
set_option maxRecDepth 100000 in
theorem c_X9_bareAt (l : Launch) (D : va_G) (ad : Nat → Nat) (cs : Nat → ClassId) (J : uJ 99 ad) (σ : St) (i1 : Nat) (v2 : Int32) (v3 : Int32) (bi1 : i1 < 4) (r : Int32) (σ' : St) (h : f_X9_bareAt σ i1 v2 v3 = some (r, σ')) : uMi l yX9_bareAt wsX9_bareAt { frames := 1, cells := 0, slots := 0, locals := 24 } D vwCl (tyX cs) 99 ad (enX ad cs) [.ref (ad 0), .ref (ad (35 + 9 * i1)), .int v2, .int v3] σ r σ' := by
  refine u_met (Qf := uQi D vwCl 99 ad (enX ad cs) r σ') (cc := cX9_bareAt) (maxL := 6) (ret := (some .int)) (lv := [(0, .ref (ad 0)), (1, .ref (ad (35 + 9 * i1))), (2, .int v2), (3, .int v3)]) J (by decide) rfl (Nat.le_of_ble_eq_true rfl) rfl rfl rfl ?_
  intro p e s m args below meth c ls hx hb C hr hlk G hl
  unfold f_X9_bareAt at h
  obtain ⟨H, eH⟩ : ∃ H, H = s.heap := ⟨_, rfl⟩
  obtain ⟨locs, eL⟩ : ∃ locs : List Loc, locs = [] := ⟨_, rfl⟩
  refine u_start eH eL G ?_
  clear G eH eL
  intro G
  refine lv_iconst (v := 0) hx hb dX9_bareAt_0 (by decide) ?_
  refine lv_istore (lv' := [(4, .int 0), (0, .ref (ad 0)), (1, .ref (ad (35 + 9 * i1))), (2, .int v2), (3, .int v3)]) hx hb dX9_bareAt_1 hl (by decide) rfl (fun ls hl => ?_)
  refine lv_iconst (v := 0) hx hb dX9_bareAt_3 (by decide) ?_
  refine lv_istore (lv' := [(5, .int 0), (4, .int 0), (0, .ref (ad 0)), (1, .ref (ad (35 + 9 * i1))), (2, .int v2), (3, .int v3)]) hx hb dX9_bareAt_4 hl (by decide) rfl (fun ls hl => ?_)
  exact w_X9_bareAt_6 C hr hlk fu σ i1 v2 v3 0 0 bi1 h H locs ls G (lv_sub hl [2, 3, 4, 5, 1, 0] rfl)
/-! X9_gatherPlaces -/
def f_X9_gatherPlaces_23 (k8 : St → Nat → Int32 → Nat → Int32 → Option (Unit × St)) : Nat → St → Nat → Int32 → Nat → Int32 → Int32 → Option (Unit × St)
  | 0, _, _, _, _, _, _ => none
  | fuel + 1, σ, i1, v2, i3, v4, v5 =>
    if 10 ≤ v5 then
      ul (v4 + 1) fun x2 =>
      k8 σ i1 v2 i3 x2
    else
      ub (f_X8_isThere σ v4) fun r3 σ4 =>
      if r3 = 0 then
        ul (v5 + 1) fun x5 =>
        f_X9_gatherPlaces_23 k8 fuel σ4 i1 v2 i3 v4 x5
      else
        ub (f_X8_isOnLine σ4 v4 v5) fun r6 σ7 =>
        if r6 = 0 then
          ul (v5 + 1) fun x8 =>
          f_X9_gatherPlaces_23 k8 fuel σ7 i1 v2 i3 v4 x8
        else
          ub (f_X9_lackAt σ7 i1 v4 v5 v2) fun r9 σ10 =>
          if r9 = (-9) then
            ul (v5 + 1) fun x11 =>
            f_X9_gatherPlaces_23 k8 fuel σ10 i1 v2 i3 v4 x11
          else
            ub (f_X9_bareAt σ10 i1 v4 v5) fun r12 σ13 =>
            ub (f_X4_add σ13 i3 v4 v5 r9 r12) fun r14 σ15 =>
            ul (v5 + 1) fun x16 =>
            f_X9_gatherPlaces_23 k8 fuel σ15 i1 v2 i3 v4 x16
def f_X9_gatherPlaces_8 : Nat → St → Nat → Int32 → Nat → Int32 → Option (Unit × St)
  | 0, _, _, _, _, _ => none
  | fuel + 1, σ, i1, v2, i3, v4 =>
    if (σ 8 9) ≤ v4 then
      some ((), σ)
    else
      f_X9_gatherPlaces_23 (f_X9_gatherPlaces_8 fuel) fu σ i1 v2 i3 v4 0
def f_X9_gatherPlaces (σ : St) (i1 : Nat) (v2 : Int32) (i3 : Nat) : Option (Unit × St) :=
  ul (us σ (86 + 5 * i3) 4 0) fun σ1 =>
  f_X9_gatherPlaces_8 fu σ1 i1 v2 i3 0
theorem fi_X9_gatherPlaces_4 : ∀ w ∈ u_ws RX4 TX4 5, w ∈ wsX9_gatherPlaces := by decide +kernel
theorem fi_X9_gatherPlaces_8 : ∀ w ∈ u_ws RX8 TX8 10, w ∈ wsX9_gatherPlaces := by decide +kernel
theorem fi_X9_gatherPlaces_9 : ∀ w ∈ u_ws RX9 TX9 14, w ∈ wsX9_gatherPlaces := by decide +kernel
set_option maxHeartbeats 4000000 in
set_option maxRecDepth 100000 in
theorem w_X9_gatherPlaces_23 {p : Program} {l : Launch} {e : Env} {s : State} {m : MethodId} {args : Array Value} {below : List Frame} {meth : Method} {c : Code} {D : va_G} {ad : Nat → Nat} {cs : Nat → ClassId} (C : uC p { frames := 2, cells := 0, slots := 0, locals := 52 } s m args c cX9_gatherPlaces 7 wsX9_gatherPlaces RX9 D vwCl (tyX cs) 99 ad (uAd 99 ad s.heap.size) 0 0) (hr : meth.sig.returnType = none) (hlk : meth.locks = false) {σ' : St} {k8 : St → Nat → Int32 → Nat → Int32 → Option (Unit × St)} (hk8 : ∀ (σ : St) (i1 : Nat) (v2 : Int32) (i3 : Nat) (v4 : Int32) (bi1 : i1 < 4) (bi3 : i3 < 2), k8 σ i1 v2 i3 v4 = some ((), σ') → ∀ (H : Heap) (locs : List Loc) (ls : Array Slot), uG D vwCl 99 ad (enX ad cs) (uAd 99 ad s.heap.size) s σ H locs → lv_has ls 7 [(0, .ref (ad 0)), (1, .ref (ad (35 + 9 * i1))), (2, .int v2), (3, .ref (ad (86 + 5 * i3))), (4, .int v4)] → W p l e { frames := 2, cells := 0, slots := 0, locals := 52 } s m args below meth c H locs 0 0 (MQ below (uQv D vwCl 99 ad (enX ad cs) σ' s.heap.size) args s 0 0 (uAd 99 ad s.heap.size)) (F0 m 8 ls [])) :
    ∀ (n : Nat) (σ : St) (i1 : Nat) (v2 : Int32) (i3 : Nat) (v4 : Int32) (v5 : Int32) (bi1 : i1 < 4) (bi3 : i3 < 2), f_X9_gatherPlaces_23 k8 n σ i1 v2 i3 v4 v5 = some ((), σ') → ∀ (H : Heap) (locs : List Loc) (ls : Array Slot), uG D vwCl 99 ad (enX ad cs) (uAd 99 ad s.heap.size) s σ H locs → lv_has ls 7 [(0, .ref (ad 0)), (1, .ref (ad (35 + 9 * i1))), (2, .int v2), (3, .ref (ad (86 + 5 * i3))), (4, .int v4), (5, .int v5)] → W p l e { frames := 2, cells := 0, slots := 0, locals := 52 } s m args below meth c H locs 0 0 (MQ below (uQv D vwCl 99 ad (enX ad cs) σ' s.heap.size) args s 0 0 (uAd 99 ad s.heap.size)) (F0 m 23 ls []) := by
  have hx := C.1.1
  have hb := C.1.2.1
  intro n
  induction n with
  | zero => intro σ i1 v2 i3 v4 v5 bi1 bi3 h; exact absurd h (by simp [f_X9_gatherPlaces_23])
  | succ fuel ih =>
    intro σ i1 v2 i3 v4 v5 bi1 bi3 h H locs ls G hl
    rw [f_X9_gatherPlaces_23] at h
    refine lv_iload hx hb dX9_gatherPlaces_23 (lv_at hl 5 rfl) ?_
    refine lv_bipush (v := 10) hx hb dX9_gatherPlaces_25 (by decide) ?_
    refine lv_icmp_ge (tgt := 100) hx hb dX9_gatherPlaces_27 (by decide) (fun q => ?_) (fun q => ?_)
    · have h := u_pos q h
      obtain ⟨x2, ex2, h⟩ := ul_of h
      refine lv_iinc (v := x2) (lv' := [(4, .int x2), (0, .ref (ad 0)), (1, .ref (ad (35 + 9 * i1))), (2, .int v2), (3, .ref (ad (86 + 5 * i3))), (5, .int v5)]) hx hb dX9_gatherPlaces_100 hl (k := 4) rfl (by rw [ex2]; rfl) (by decide) rfl (fun ls hl => ?_)
      refine lv_goto (tgt := 8) hx hb dX9_gatherPlaces_103 (by decide) ?_
      exact hk8 σ i1 v2 i3 x2 bi1 bi3 h H locs ls G (lv_sub hl [1, 2, 3, 4, 0] rfl)
    · have h := u_neg q h
      refine lv_aload_n hx hb dX9_gatherPlaces_30 rfl (lv_at hl 0 rfl) ?_
      refine u_get (v := .ref (ad 8)) C G obX_0 (ci := 9) (N := 14) (Cn := RX9) (T := TX9) rfl fi_X9_gatherPlaces_9 1 (by decide) (by decide +kernel) rfl dX9_gatherPlaces_31 ?_
      refine lv_iload hx hb dX9_gatherPlaces_34 (lv_at hl 4 rfl) ?_
      obtain ⟨r3, σ4, er3, h⟩ := ub_of h
      refine u_callVi (As := [.int v4]) (rest := []) C G (c_X8_isThere l D ad cs C.2.2.1 σ v4 r3 σ4 er3) (cwV 1 C.1.2.2.2.2 gX9_gatherPlaces_X8_isThere rfl rfl rfl (by decide +kernel) ⟨Nat.le_of_ble_eq_true rfl, Nat.le_of_ble_eq_true rfl⟩) obX_8 (ci := 8) (T := TX8) rfl rfl hl rfl (Nat.le_of_ble_eq_true rfl) dX9_gatherPlaces_36 (fun H locs G => ?_)
      refine lv_if_eq (tgt := 94) hx hb dX9_gatherPlaces_39 (by decide) (fun q => ?_) (fun q => ?_)
      · have h := u_pos q h
        obtain ⟨x5, ex5, h⟩ := ul_of h
        refine lv_iinc (v := x5) (lv' := [(5, .int x5), (0, .ref (ad 0)), (1, .ref (ad (35 + 9 * i1))), (2, .int v2), (3, .ref (ad (86 + 5 * i3))), (4, .int v4)]) hx hb dX9_gatherPlaces_94 hl (k := 5) rfl (by rw [ex5]; rfl) (by decide) rfl (fun ls hl => ?_)
        refine lv_goto (tgt := 23) hx hb dX9_gatherPlaces_97 (by decide) ?_
        exact ih σ4 i1 v2 i3 v4 x5 bi1 bi3 h H locs ls G (lv_sub hl [1, 2, 3, 4, 5, 0] rfl)
      · have h := u_neg q h
        refine lv_aload_n hx hb dX9_gatherPlaces_42 rfl (lv_at hl 0 rfl) ?_
        refine u_get (v := .ref (ad 8)) C G obX_0 (ci := 9) (N := 14) (Cn := RX9) (T := TX9) rfl fi_X9_gatherPlaces_9 1 (by decide) (by decide +kernel) rfl dX9_gatherPlaces_43 ?_
        refine lv_iload hx hb dX9_gatherPlaces_46 (lv_at hl 4 rfl) ?_
        refine lv_iload hx hb dX9_gatherPlaces_48 (lv_at hl 5 rfl) ?_
        obtain ⟨r6, σ7, er6, h⟩ := ub_of h
        refine u_callVi (As := [.int v4, .int v5]) (rest := []) C G (c_X8_isOnLine l D ad cs C.2.2.1 σ4 v4 v5 r6 σ7 er6) (cwV 2 C.1.2.2.2.2 gX9_gatherPlaces_X8_isOnLine rfl rfl rfl (by decide +kernel) ⟨Nat.le_of_ble_eq_true rfl, Nat.le_of_ble_eq_true rfl⟩) obX_8 (ci := 8) (T := TX8) rfl rfl hl rfl (Nat.le_of_ble_eq_true rfl) dX9_gatherPlaces_50 (fun H locs G => ?_)
        refine lv_if_eq (tgt := 94) hx hb dX9_gatherPlaces_53 (by decide) (fun q => ?_) (fun q => ?_)
        · have h := u_pos q h
          obtain ⟨x8, ex8, h⟩ := ul_of h
          refine lv_iinc (v := x8) (lv' := [(5, .int x8), (0, .ref (ad 0)), (1, .ref (ad (35 + 9 * i1))), (2, .int v2), (3, .ref (ad (86 + 5 * i3))), (4, .int v4)]) hx hb dX9_gatherPlaces_94 hl (k := 5) rfl (by rw [ex8]; rfl) (by decide) rfl (fun ls hl => ?_)
          refine lv_goto (tgt := 23) hx hb dX9_gatherPlaces_97 (by decide) ?_
          exact ih σ7 i1 v2 i3 v4 x8 bi1 bi3 h H locs ls G (lv_sub hl [1, 2, 3, 4, 5, 0] rfl)
        · have h := u_neg q h
          refine lv_aload_n hx hb dX9_gatherPlaces_56 rfl (lv_at hl 0 rfl) ?_
          refine lv_aload_n hx hb dX9_gatherPlaces_57 rfl (lv_at hl 1 rfl) ?_
          refine lv_iload hx hb dX9_gatherPlaces_58 (lv_at hl 4 rfl) ?_
          refine lv_iload hx hb dX9_gatherPlaces_60 (lv_at hl 5 rfl) ?_
          refine lv_iload_n hx hb dX9_gatherPlaces_62 rfl (lv_at hl 2 rfl) ?_
          obtain ⟨r9, σ10, er9, h⟩ := ub_of h
          refine u_callVi (As := [.ref (ad (35 + 9 * i1)), .int v4, .int v5, .int v2]) (rest := []) C G (c_X9_lackAt l D ad cs C.2.2.1 σ7 i1 v4 v5 v2 bi1 r9 σ10 er9) (cwV 4 C.1.2.2.2.2 gX9_gatherPlaces_X9_lackAt rfl rfl rfl (by decide +kernel) ⟨Nat.le_of_ble_eq_true rfl, Nat.le_of_ble_eq_true rfl⟩) obX_0 (ci := 9) (T := TX9) rfl rfl hl rfl (Nat.le_of_ble_eq_true rfl) dX9_gatherPlaces_63 (fun H locs G => ?_)
          refine lv_istore (lv' := [(6, .int r9), (0, .ref (ad 0)), (1, .ref (ad (35 + 9 * i1))), (2, .int v2), (3, .ref (ad (86 + 5 * i3))), (4, .int v4), (5, .int v5)]) hx hb dX9_gatherPlaces_66 hl (by decide) rfl (fun ls hl => ?_)
          refine lv_iload hx hb dX9_gatherPlaces_68 (lv_at hl 0 rfl) ?_
          refine lv_bipush (v := (-9)) hx hb dX9_gatherPlaces_70 (by decide) ?_
          refine lv_icmp_eq (tgt := 94) hx hb dX9_gatherPlaces_72 (by decide) (fun q => ?_) (fun q => ?_)
          · have h := u_pos q h
            obtain ⟨x11, ex11, h⟩ := ul_of h
            refine lv_iinc (v := x11) (lv' := [(5, .int x11), (6, .int r9), (0, .ref (ad 0)), (1, .ref (ad (35 + 9 * i1))), (2, .int v2), (3, .ref (ad (86 + 5 * i3))), (4, .int v4)]) hx hb dX9_gatherPlaces_94 hl (k := 6) rfl (by rw [ex11]; rfl) (by decide) rfl (fun ls hl => ?_)
            refine lv_goto (tgt := 23) hx hb dX9_gatherPlaces_97 (by decide) ?_
            exact ih σ10 i1 v2 i3 v4 x11 bi1 bi3 h H locs ls G (lv_sub hl [2, 3, 4, 5, 6, 0] rfl)
          · have h := u_neg q h
            refine lv_aload_n hx hb dX9_gatherPlaces_75 rfl (lv_at hl 4 rfl) ?_
            refine lv_iload hx hb dX9_gatherPlaces_76 (lv_at hl 5 rfl) ?_
            refine lv_iload hx hb dX9_gatherPlaces_78 (lv_at hl 6 rfl) ?_
            refine lv_iload hx hb dX9_gatherPlaces_80 (lv_at hl 0 rfl) ?_
            refine lv_aload_n hx hb dX9_gatherPlaces_82 rfl (lv_at hl 1 rfl) ?_
            refine lv_aload_n hx hb dX9_gatherPlaces_83 rfl (lv_at hl 2 rfl) ?_
            refine lv_iload hx hb dX9_gatherPlaces_84 (lv_at hl 5 rfl) ?_
            refine lv_iload hx hb dX9_gatherPlaces_86 (lv_at hl 6 rfl) ?_
            obtain ⟨r12, σ13, er12, h⟩ := ub_of h
            refine u_callVi (As := [.ref (ad (35 + 9 * i1)), .int v4, .int v5]) (rest := [.int r9, .int v5, .int v4, .ref (ad (86 + 5 * i3))]) C G (c_X9_bareAt l D ad cs C.2.2.1 σ10 i1 v4 v5 bi1 r12 σ13 er12) (cwV 3 C.1.2.2.2.2 gX9_gatherPlaces_X9_bareAt rfl rfl rfl (by decide +kernel) ⟨Nat.le_of_ble_eq_true rfl, Nat.le_of_ble_eq_true rfl⟩) obX_0 (ci := 9) (T := TX9) rfl rfl hl rfl (Nat.le_of_ble_eq_true rfl) dX9_gatherPlaces_88 (fun H locs G => ?_)
            obtain ⟨r14, σ15, er14, h⟩ := ub_of h
            refine u_callVv (As := [.int v4, .int v5, .int r9, .int r12]) (rest := []) C G (c_X4_add l D ad cs C.2.2.1 σ13 i3 v4 v5 r9 r12 bi3 r14 σ15 er14) (cwV 4 C.1.2.2.2.2 gX9_gatherPlaces_X4_add rfl rfl rfl (by decide +kernel) ⟨Nat.le_of_ble_eq_true rfl, Nat.le_of_ble_eq_true rfl⟩) (obX_places bi3) (ci := 4) (T := TX4) rfl rfl hl rfl (Nat.le_of_ble_eq_true rfl) dX9_gatherPlaces_91 (fun H locs G => ?_)
            obtain ⟨x16, ex16, h⟩ := ul_of h
            refine lv_iinc (v := x16) (lv' := [(5, .int x16), (6, .int r9), (0, .ref (ad 0)), (1, .ref (ad (35 + 9 * i1))), (2, .int v2), (3, .ref (ad (86 + 5 * i3))), (4, .int v4)]) hx hb dX9_gatherPlaces_94 hl (k := 6) rfl (by rw [ex16]; rfl) (by decide) rfl (fun ls hl => ?_)
            refine lv_goto (tgt := 23) hx hb dX9_gatherPlaces_97 (by decide) ?_
            exact ih σ15 i1 v2 i3 v4 x16 bi1 bi3 h H locs ls G (lv_sub hl [2, 3, 4, 5, 6, 0] rfl)
set_option maxHeartbeats 4000000 in
set_option maxRecDepth 100000 in
theorem w_X9_gatherPlaces_8 {p : Program} {l : Launch} {e : Env} {s : State} {m : MethodId} {args : Array Value} {below : List Frame} {meth : Method} {c : Code} {D : va_G} {ad : Nat → Nat} {cs : Nat → ClassId} (C : uC p { frames := 2, cells := 0, slots := 0, locals := 52 } s m args c cX9_gatherPlaces 7 wsX9_gatherPlaces RX9 D vwCl (tyX cs) 99 ad (uAd 99 ad s.heap.size) 0 0) (hr : meth.sig.returnType = none) (hlk : meth.locks = false) {σ' : St} :
    ∀ (n : Nat) (σ : St) (i1 : Nat) (v2 : Int32) (i3 : Nat) (v4 : Int32) (bi1 : i1 < 4) (bi3 : i3 < 2), f_X9_gatherPlaces_8 n σ i1 v2 i3 v4 = some ((), σ') → ∀ (H : Heap) (locs : List Loc) (ls : Array Slot), uG D vwCl 99 ad (enX ad cs) (uAd 99 ad s.heap.size) s σ H locs → lv_has ls 7 [(0, .ref (ad 0)), (1, .ref (ad (35 + 9 * i1))), (2, .int v2), (3, .ref (ad (86 + 5 * i3))), (4, .int v4)] → W p l e { frames := 2, cells := 0, slots := 0, locals := 52 } s m args below meth c H locs 0 0 (MQ below (uQv D vwCl 99 ad (enX ad cs) σ' s.heap.size) args s 0 0 (uAd 99 ad s.heap.size)) (F0 m 8 ls []) := by
  have hx := C.1.1
  have hb := C.1.2.1
  intro n
  induction n with
  | zero => intro σ i1 v2 i3 v4 bi1 bi3 h; exact absurd h (by simp [f_X9_gatherPlaces_8])
  | succ fuel ih =>
    intro σ i1 v2 i3 v4 bi1 bi3 h H locs ls G hl
    rw [f_X9_gatherPlaces_8] at h
    refine lv_iload hx hb dX9_gatherPlaces_8 (lv_at hl 4 rfl) ?_
    refine lv_aload_n hx hb dX9_gatherPlaces_10 rfl (lv_at hl 0 rfl) ?_
    refine u_get (v := .ref (ad 8)) C G obX_0 (ci := 9) (N := 14) (Cn := RX9) (T := TX9) rfl fi_X9_gatherPlaces_9 1 (by decide) (by decide +kernel) rfl dX9_gatherPlaces_11 ?_
    refine u_get (v := .int (σ 8 9)) C G obX_8 (ci := 8) (N := 10) (Cn := RX8) (T := TX8) rfl fi_X9_gatherPlaces_8 9 (by decide) (by decide +kernel) rfl dX9_gatherPlaces_14 ?_
    refine lv_icmp_ge (tgt := 106) hx hb dX9_gatherPlaces_17 (by decide) (fun q => ?_) (fun q => ?_)
    · have h := u_pos q h
      obtain ⟨-, rfl⟩ := u_end h
      exact u_vret hx hb hr hlk G dX9_gatherPlaces_106
    · have h := u_neg q h
      refine lv_iconst (v := 0) hx hb dX9_gatherPlaces_20 (by decide) ?_
      refine lv_istore (lv' := [(5, .int 0), (0, .ref (ad 0)), (1, .ref (ad (35 + 9 * i1))), (2, .int v2), (3, .ref (ad (86 + 5 * i3))), (4, .int v4)]) hx hb dX9_gatherPlaces_21 hl (by decide) rfl (fun ls hl => ?_)
      exact w_X9_gatherPlaces_23 C hr hlk ih fu σ i1 v2 i3 v4 0 bi1 bi3 h H locs ls G (lv_sub hl [1, 2, 3, 4, 5, 0] rfl)
set_option maxHeartbeats 4000000 in
set_option maxRecDepth 100000 in
theorem c_X9_gatherPlaces (l : Launch) (D : va_G) (ad : Nat → Nat) (cs : Nat → ClassId) (J : uJ 99 ad) (σ : St) (i1 : Nat) (v2 : Int32) (i3 : Nat) (bi1 : i1 < 4) (bi3 : i3 < 2) (r : Unit) (σ' : St) (h : f_X9_gatherPlaces σ i1 v2 i3 = some (r, σ')) : uMv l yX9_gatherPlaces wsX9_gatherPlaces { frames := 2, cells := 0, slots := 0, locals := 52 } D vwCl (tyX cs) 99 ad (enX ad cs) [.ref (ad 0), .ref (ad (35 + 9 * i1)), .int v2, .ref (ad (86 + 5 * i3))] σ σ' := by
  refine u_met (Qf := uQv D vwCl 99 ad (enX ad cs) σ') (cc := cX9_gatherPlaces) (maxL := 7) (ret := none) (lv := [(0, .ref (ad 0)), (1, .ref (ad (35 + 9 * i1))), (2, .int v2), (3, .ref (ad (86 + 5 * i3)))]) J (by decide) rfl (Nat.le_of_ble_eq_true rfl) rfl rfl rfl ?_
  intro p e s m args below meth c ls hx hb C hr hlk G hl
  unfold f_X9_gatherPlaces at h
  obtain ⟨H, eH⟩ : ∃ H, H = s.heap := ⟨_, rfl⟩
  obtain ⟨locs, eL⟩ : ∃ locs : List Loc, locs = [] := ⟨_, rfl⟩
  refine u_start eH eL G ?_
  clear G eH eL
  intro G
  refine lv_aload_n hx hb dX9_gatherPlaces_0 rfl (lv_at hl 3 rfl) ?_
  refine lv_iconst (v := 0) hx hb dX9_gatherPlaces_1 (by decide) ?_
  refine u_put (x := 0) (ty := .int) C G (obX_places bi3) (ci := 4) (N := 5) (Cn := RX4) (T := TX4) rfl fi_X9_gatherPlaces_4 tyX4 tyX4_ok nmX4 4 (by decide) (by decide +kernel) rfl (by decide +kernel) rfl rfl (fun f => by simp) (fun f => rfl) dX9_gatherPlaces_2 (fun H locs G => ?_)
  obtain ⟨σ1, eσ1, h⟩ := ul_of h
  replace G := uG_eq eσ1 G
  refine lv_iconst (v := 0) hx hb dX9_gatherPlaces_5 (by decide) ?_
  refine lv_istore (lv' := [(4, .int 0), (0, .ref (ad 0)), (1, .ref (ad (35 + 9 * i1))), (2, .int v2), (3, .ref (ad (86 + 5 * i3)))]) hx hb dX9_gatherPlaces_6 hl (by decide) rfl (fun ls hl => ?_)
  exact w_X9_gatherPlaces_8 C hr hlk fu σ1 i1 v2 i3 0 bi1 bi3 h H locs ls G (lv_sub hl [1, 2, 3, 4, 0] rfl)
/-! X9_reading -/
def f_X9_reading (σ : St) (v1 : Int32) (v2 : Int32) : Option (Int32 × St) :=
  ub (f_X9_isLine σ v1) fun r1 σ2 =>
  if r1 = 0 then
    some (((-1) : Int32), σ2)
  else
    ub (f_X9_isColour σ2 v2) fun r3 σ4 =>
    if r3 = 0 then
      some (((-1) : Int32), σ4)
    else
      ui v1 4 <|
      ub (f_X9_gatherPlaces σ4 v1.toNatClampNeg v2 0) fun r7 σ8 =>
      ub (f_X4_firstRival σ8 0) fun r9 σ10 =>
      if r9 = (-9) then
        some (((-9) : Int32), σ10)
      else
        ui r9 160 <|
        ul (us σ10 0 13 (σ10 (86 + 5 * 0 + 2) r9.toNatClampNeg)) fun σ12 =>
        ui r9 160 <|
        some ((σ12 (86 + 5 * 0 + 1) r9.toNatClampNeg), σ12)
theorem fi_X9_reading_4 : ∀ w ∈ u_ws RX4 TX4 5, w ∈ wsX9_reading := by decide +kernel
theorem fi_X9_reading_9 : ∀ w ∈ u_ws RX9 TX9 14, w ∈ wsX9_reading := by decide +kernel
set_option maxHeartbeats 4000000 in
set_option maxRecDepth 100000 in
theorem c_X9_reading (l : Launch) (D : va_G) (ad : Nat → Nat) (cs : Nat → ClassId) (J : uJ 99 ad) (σ : St) (v1 : Int32) (v2 : Int32) (r : Int32) (σ' : St) (h : f_X9_reading σ v1 v2 = some (r, σ')) : uMi l yX9_reading wsX9_reading { frames := 3, cells := 0, slots := 0, locals := 78 } D vwCl (tyX cs) 99 ad (enX ad cs) [.ref (ad 0), .int v1, .int v2] σ r σ' := by
  refine u_met (Qf := uQi D vwCl 99 ad (enX ad cs) r σ') (cc := cX9_reading) (maxL := 4) (ret := (some .int)) (lv := [(0, .ref (ad 0)), (1, .int v1), (2, .int v2)]) J (by decide) rfl (Nat.le_of_ble_eq_true rfl) rfl rfl rfl ?_
  intro p e s m args below meth c ls hx hb C hr hlk G hl
  unfold f_X9_reading at h
  obtain ⟨H, eH⟩ : ∃ H, H = s.heap := ⟨_, rfl⟩
  obtain ⟨locs, eL⟩ : ∃ locs : List Loc, locs = [] := ⟨_, rfl⟩
  refine u_start eH eL G ?_
  clear G eH eL
  intro G
  refine lv_iload_n hx hb dX9_reading_0 rfl (lv_at hl 1 rfl) ?_
  obtain ⟨r1, σ2, er1, h⟩ := ub_of h
  refine u_callSi (As := [.int v1]) (rest := []) C G (c_X9_isLine l D ad cs C.2.2.1 σ v1 r1 σ2 er1) (va_cwS 1 C.1.2.2.2.2 gX9_reading_X9_isLine rfl rfl rfl (by decide +kernel) ⟨Nat.le_of_ble_eq_true rfl, Nat.le_of_ble_eq_true rfl⟩) rfl hl rfl (Nat.le_of_ble_eq_true rfl) dX9_reading_1 (fun H locs G => ?_)
  refine lv_if_eq (tgt := 14) hx hb dX9_reading_4 (by decide) (fun q => ?_) (fun q => ?_)
  · have h := u_pos q h
    refine lv_iconst (v := (-1)) hx hb dX9_reading_14 (by decide) ?_
    obtain ⟨rfl, rfl⟩ := u_end h
    exact u_iret hx hb hr hlk G dX9_reading_15
  · have h := u_neg q h
    refine lv_iload_n hx hb dX9_reading_7 rfl (lv_at hl 2 rfl) ?_
    obtain ⟨r3, σ4, er3, h⟩ := ub_of h
    refine u_callSi (As := [.int v2]) (rest := []) C G (c_X9_isColour l D ad cs C.2.2.1 σ2 v2 r3 σ4 er3) (va_cwS 1 C.1.2.2.2.2 gX9_reading_X9_isColour rfl rfl rfl (by decide +kernel) ⟨Nat.le_of_ble_eq_true rfl, Nat.le_of_ble_eq_true rfl⟩) rfl hl rfl (Nat.le_of_ble_eq_true rfl) dX9_reading_8 (fun H locs G => ?_)
    refine lv_if_ne (tgt := 16) hx hb dX9_reading_11 (by decide) (fun q => ?_) (fun q => ?_)
    · have h := u_neg q h
      refine lv_aload_n hx hb dX9_reading_16 rfl (lv_at hl 0 rfl) ?_
      refine lv_aload_n hx hb dX9_reading_17 rfl (lv_at hl 0 rfl) ?_
      refine u_get (v := .ref (ad 34)) C G obX_0 (ci := 9) (N := 14) (Cn := RX9) (T := TX9) rfl fi_X9_reading_9 2 (by decide) (by decide +kernel) rfl dX9_reading_18 ?_
      refine lv_iload_n hx hb dX9_reading_21 rfl (lv_at hl 1 rfl) ?_
      obtain ⟨g5, h⟩ := ui_of h
      refine u_aald C G rrX_34 (t0 := 3) rfl rfl g5 dX9_reading_22 (fun b6 => ?_)
      refine lv_iload_n hx hb dX9_reading_23 rfl (lv_at hl 2 rfl) ?_
      refine lv_aload_n hx hb dX9_reading_24 rfl (lv_at hl 0 rfl) ?_
      refine u_get (v := .ref (ad (86 + 5 * 0))) C G obX_0 (ci := 9) (N := 14) (Cn := RX9) (T := TX9) rfl fi_X9_reading_9 7 (by decide) (by decide +kernel) rfl dX9_reading_25 ?_
      obtain ⟨r7, σ8, er7, h⟩ := ub_of h
      refine u_callVv (As := [.ref (ad (35 + 9 * v1.toNatClampNeg)), .int v2, .ref (ad (86 + 5 * 0))]) (rest := []) C G (c_X9_gatherPlaces l D ad cs C.2.2.1 σ4 v1.toNatClampNeg v2 0 b6 (show 0 < 2 by decide) r7 σ8 er7) (cwV 3 C.1.2.2.2.2 gX9_reading_X9_gatherPlaces rfl rfl rfl (by decide +kernel) ⟨Nat.le_of_ble_eq_true rfl, Nat.le_of_ble_eq_true rfl⟩) obX_0 (ci := 9) (T := TX9) rfl rfl hl rfl (Nat.le_of_ble_eq_true rfl) dX9_reading_28 (fun H locs G => ?_)
      refine lv_aload_n hx hb dX9_reading_31 rfl (lv_at hl 0 rfl) ?_
      refine u_get (v := .ref (ad (86 + 5 * 0))) C G obX_0 (ci := 9) (N := 14) (Cn := RX9) (T := TX9) rfl fi_X9_reading_9 7 (by decide) (by decide +kernel) rfl dX9_reading_32 ?_
      obtain ⟨r9, σ10, er9, h⟩ := ub_of h
      refine u_callVi (As := []) (rest := []) C G (c_X4_firstRival l D ad cs C.2.2.1 σ8 0 (show 0 < 2 by decide) r9 σ10 er9) (cwV 0 C.1.2.2.2.2 gX9_reading_X4_firstRival rfl rfl rfl (by decide +kernel) ⟨Nat.le_of_ble_eq_true rfl, Nat.le_of_ble_eq_true rfl⟩) (obX_places (show 0 < 2 by decide)) (ci := 4) (T := TX4) rfl rfl hl rfl (Nat.le_of_ble_eq_true rfl) dX9_reading_35 (fun H locs G => ?_)
      refine lv_istore_n (lv' := [(3, .int r9), (0, .ref (ad 0)), (1, .int v1), (2, .int v2)]) hx hb dX9_reading_38 rfl hl (by decide) rfl (fun ls hl => ?_)
      refine lv_iload_n hx hb dX9_reading_39 rfl (lv_at hl 0 rfl) ?_
      refine lv_bipush (v := (-9)) hx hb dX9_reading_40 (by decide) ?_
      refine lv_icmp_ne (tgt := 48) hx hb dX9_reading_42 (by decide) (fun q => ?_) (fun q => ?_)
      · have h := u_neg q h
        refine lv_aload_n hx hb dX9_reading_48 rfl (lv_at hl 1 rfl) ?_
        refine lv_aload_n hx hb dX9_reading_49 rfl (lv_at hl 1 rfl) ?_
        refine u_get (v := .ref (ad (86 + 5 * 0))) C G obX_0 (ci := 9) (N := 14) (Cn := RX9) (T := TX9) rfl fi_X9_reading_9 7 (by decide) (by decide +kernel) rfl dX9_reading_50 ?_
        refine u_get (v := .ref (ad (86 + 5 * 0 + 2))) C G (obX_places (show 0 < 2 by decide)) (ci := 4) (N := 5) (Cn := RX4) (T := TX4) rfl fi_X9_reading_4 1 (by decide) (by decide +kernel) rfl dX9_reading_53 ?_
        refine lv_iload_n hx hb dX9_reading_56 rfl (lv_at hl 0 rfl) ?_
        obtain ⟨g11, h⟩ := ui_of h
        refine u_iald C G (arX_pl2 (show 0 < 2 by decide)) (t0 := 0) rfl g11 dX9_reading_57 ?_
        refine u_put (x := (σ10 (86 + 5 * 0 + 2) r9.toNatClampNeg)) (ty := .int) C G obX_0 (ci := 9) (N := 14) (Cn := RX9) (T := TX9) rfl fi_X9_reading_9 tyX9 tyX9_ok nmX9 13 (by decide) (by decide +kernel) rfl (by decide +kernel) rfl rfl (fun f => by simp) (fun f => rfl) dX9_reading_58 (fun H locs G => ?_)
        obtain ⟨σ12, eσ12, h⟩ := ul_of h
        replace G := uG_eq eσ12 G
        refine lv_aload_n hx hb dX9_reading_61 rfl (lv_at hl 1 rfl) ?_
        refine u_get (v := .ref (ad (86 + 5 * 0))) C G obX_0 (ci := 9) (N := 14) (Cn := RX9) (T := TX9) rfl fi_X9_reading_9 7 (by decide) (by decide +kernel) rfl dX9_reading_62 ?_
        refine u_get (v := .ref (ad (86 + 5 * 0 + 1))) C G (obX_places (show 0 < 2 by decide)) (ci := 4) (N := 5) (Cn := RX4) (T := TX4) rfl fi_X9_reading_4 0 (by decide) (by decide +kernel) rfl dX9_reading_65 ?_
        refine lv_iload_n hx hb dX9_reading_68 rfl (lv_at hl 0 rfl) ?_
        obtain ⟨g13, h⟩ := ui_of h
        refine u_iald C G (arX_pl1 (show 0 < 2 by decide)) (t0 := 0) rfl g13 dX9_reading_69 ?_
        obtain ⟨rfl, rfl⟩ := u_end h
        exact u_iret hx hb hr hlk G dX9_reading_70
      · have h := u_pos q h
        refine lv_bipush (v := (-9)) hx hb dX9_reading_45 (by decide) ?_
        obtain ⟨rfl, rfl⟩ := u_end h
        exact u_iret hx hb hr hlk G dX9_reading_47
    · have h := u_pos q h
      refine lv_iconst (v := (-1)) hx hb dX9_reading_14 (by decide) ?_
      obtain ⟨rfl, rfl⟩ := u_end h
      exact u_iret hx hb hr hlk G dX9_reading_15
/-! X9_rivals -/
def f_X9_rivals (σ : St) (v1 : Int32) (v2 : Int32) : Option (Int32 × St) :=
  ub (f_X9_isLine σ v1) fun r1 σ2 =>
  if r1 = 0 then
    some (((-1) : Int32), σ2)
  else
    ub (f_X9_isColour σ2 v2) fun r3 σ4 =>
    if r3 = 0 then
      some (((-1) : Int32), σ4)
    else
      ui v1 4 <|
      ub (f_X9_gatherPlaces σ4 v1.toNatClampNeg v2 0) fun r7 σ8 =>
      ub (f_X4_sizeOfRivals σ8 0) fun r9 σ10 =>
      some (r9, σ10)
theorem fi_X9_rivals_9 : ∀ w ∈ u_ws RX9 TX9 14, w ∈ wsX9_rivals := by decide +kernel
set_option maxHeartbeats 4000000 in
set_option maxRecDepth 100000 in
theorem c_X9_rivals (l : Launch) (D : va_G) (ad : Nat → Nat) (cs : Nat → ClassId) (J : uJ 99 ad) (σ : St) (v1 : Int32) (v2 : Int32) (r : Int32) (σ' : St) (h : f_X9_rivals σ v1 v2 = some (r, σ')) : uMi l yX9_rivals wsX9_rivals { frames := 3, cells := 0, slots := 0, locals := 78 } D vwCl (tyX cs) 99 ad (enX ad cs) [.ref (ad 0), .int v1, .int v2] σ r σ' := by
  refine u_met (Qf := uQi D vwCl 99 ad (enX ad cs) r σ') (cc := cX9_rivals) (maxL := 3) (ret := (some .int)) (lv := [(0, .ref (ad 0)), (1, .int v1), (2, .int v2)]) J (by decide) rfl (Nat.le_of_ble_eq_true rfl) rfl rfl rfl ?_
  intro p e s m args below meth c ls hx hb C hr hlk G hl
  unfold f_X9_rivals at h
  obtain ⟨H, eH⟩ : ∃ H, H = s.heap := ⟨_, rfl⟩
  obtain ⟨locs, eL⟩ : ∃ locs : List Loc, locs = [] := ⟨_, rfl⟩
  refine u_start eH eL G ?_
  clear G eH eL
  intro G
  refine lv_iload_n hx hb dX9_rivals_0 rfl (lv_at hl 1 rfl) ?_
  obtain ⟨r1, σ2, er1, h⟩ := ub_of h
  refine u_callSi (As := [.int v1]) (rest := []) C G (c_X9_isLine l D ad cs C.2.2.1 σ v1 r1 σ2 er1) (va_cwS 1 C.1.2.2.2.2 gX9_rivals_X9_isLine rfl rfl rfl (by decide +kernel) ⟨Nat.le_of_ble_eq_true rfl, Nat.le_of_ble_eq_true rfl⟩) rfl hl rfl (Nat.le_of_ble_eq_true rfl) dX9_rivals_1 (fun H locs G => ?_)
  refine lv_if_eq (tgt := 14) hx hb dX9_rivals_4 (by decide) (fun q => ?_) (fun q => ?_)
  · have h := u_pos q h
    refine lv_iconst (v := (-1)) hx hb dX9_rivals_14 (by decide) ?_
    obtain ⟨rfl, rfl⟩ := u_end h
    exact u_iret hx hb hr hlk G dX9_rivals_15
  · have h := u_neg q h
    refine lv_iload_n hx hb dX9_rivals_7 rfl (lv_at hl 2 rfl) ?_
    obtain ⟨r3, σ4, er3, h⟩ := ub_of h
    refine u_callSi (As := [.int v2]) (rest := []) C G (c_X9_isColour l D ad cs C.2.2.1 σ2 v2 r3 σ4 er3) (va_cwS 1 C.1.2.2.2.2 gX9_rivals_X9_isColour rfl rfl rfl (by decide +kernel) ⟨Nat.le_of_ble_eq_true rfl, Nat.le_of_ble_eq_true rfl⟩) rfl hl rfl (Nat.le_of_ble_eq_true rfl) dX9_rivals_8 (fun H locs G => ?_)
    refine lv_if_ne (tgt := 16) hx hb dX9_rivals_11 (by decide) (fun q => ?_) (fun q => ?_)
    · have h := u_neg q h
      refine lv_aload_n hx hb dX9_rivals_16 rfl (lv_at hl 0 rfl) ?_
      refine lv_aload_n hx hb dX9_rivals_17 rfl (lv_at hl 0 rfl) ?_
      refine u_get (v := .ref (ad 34)) C G obX_0 (ci := 9) (N := 14) (Cn := RX9) (T := TX9) rfl fi_X9_rivals_9 2 (by decide) (by decide +kernel) rfl dX9_rivals_18 ?_
      refine lv_iload_n hx hb dX9_rivals_21 rfl (lv_at hl 1 rfl) ?_
      obtain ⟨g5, h⟩ := ui_of h
      refine u_aald C G rrX_34 (t0 := 3) rfl rfl g5 dX9_rivals_22 (fun b6 => ?_)
      refine lv_iload_n hx hb dX9_rivals_23 rfl (lv_at hl 2 rfl) ?_
      refine lv_aload_n hx hb dX9_rivals_24 rfl (lv_at hl 0 rfl) ?_
      refine u_get (v := .ref (ad (86 + 5 * 0))) C G obX_0 (ci := 9) (N := 14) (Cn := RX9) (T := TX9) rfl fi_X9_rivals_9 7 (by decide) (by decide +kernel) rfl dX9_rivals_25 ?_
      obtain ⟨r7, σ8, er7, h⟩ := ub_of h
      refine u_callVv (As := [.ref (ad (35 + 9 * v1.toNatClampNeg)), .int v2, .ref (ad (86 + 5 * 0))]) (rest := []) C G (c_X9_gatherPlaces l D ad cs C.2.2.1 σ4 v1.toNatClampNeg v2 0 b6 (show 0 < 2 by decide) r7 σ8 er7) (cwV 3 C.1.2.2.2.2 gX9_rivals_X9_gatherPlaces rfl rfl rfl (by decide +kernel) ⟨Nat.le_of_ble_eq_true rfl, Nat.le_of_ble_eq_true rfl⟩) obX_0 (ci := 9) (T := TX9) rfl rfl hl rfl (Nat.le_of_ble_eq_true rfl) dX9_rivals_28 (fun H locs G => ?_)
      refine lv_aload_n hx hb dX9_rivals_31 rfl (lv_at hl 0 rfl) ?_
      refine u_get (v := .ref (ad (86 + 5 * 0))) C G obX_0 (ci := 9) (N := 14) (Cn := RX9) (T := TX9) rfl fi_X9_rivals_9 7 (by decide) (by decide +kernel) rfl dX9_rivals_32 ?_
      obtain ⟨r9, σ10, er9, h⟩ := ub_of h
      refine u_callVi (As := []) (rest := []) C G (c_X4_sizeOfRivals l D ad cs C.2.2.1 σ8 0 (show 0 < 2 by decide) r9 σ10 er9) (cwV 0 C.1.2.2.2.2 gX9_rivals_X4_sizeOfRivals rfl rfl rfl (by decide +kernel) ⟨Nat.le_of_ble_eq_true rfl, Nat.le_of_ble_eq_true rfl⟩) (obX_places (show 0 < 2 by decide)) (ci := 4) (T := TX4) rfl rfl hl rfl (Nat.le_of_ble_eq_true rfl) dX9_rivals_35 (fun H locs G => ?_)
      obtain ⟨rfl, rfl⟩ := u_end h
      exact u_iret hx hb hr hlk G dX9_rivals_38
    · have h := u_pos q h
      refine lv_iconst (v := (-1)) hx hb dX9_rivals_14 (by decide) ?_
      obtain ⟨rfl, rfl⟩ := u_end h
      exact u_iret hx hb hr hlk G dX9_rivals_15
