/-! X9_layer -/
def f_X9_layer (σ : St) (v1 : Int32) (v2 : Int32) (v3 : Int32) (v4 : Int32) : Option (Int32 × St) :=
  ub (f_X9_isLine σ v1) fun r1 σ2 =>
  if r1 = 0 then
    some (((-1) : Int32), σ2)
  else
    ub (f_X8_isNumber σ2 v2) fun r3 σ4 =>
    if r3 = 0 then
      some (((-1) : Int32), σ4)
    else
      ub (f_X9_isColour σ4 v4) fun r5 σ6 =>
      if r5 = 0 then
        some (((-1) : Int32), σ6)
      else
        ui v1 4 <|
        ub (f_X2_isFull σ6 v1.toNatClampNeg) fun r9 σ10 =>
        if r9 = 0 then
          ub (f_X2_hasLayerIn σ10 v1.toNatClampNeg v4) fun r11 σ12 =>
          if r11 = 0 then
            ui v2 16 <|
            if (σ12 17 v2.toNatClampNeg) = 0 then
              ub (f_X8_isOnLine σ12 v2 v3) fun r14 σ15 =>
              if r14 = 0 then
                ub (f_X9_refuse σ15 (2 : Int32)) fun r18 σ19 =>
                some (r18, σ19)
              else
                ub (f_X2_addLayer σ15 v1.toNatClampNeg v2 v3 v4) fun r16 σ17 =>
                some ((σ17 (35 + 9 * v1.toNatClampNeg) 4), σ17)
            else
              ub (f_X9_refuse σ12 (1 : Int32)) fun r20 σ21 =>
              some (r20, σ21)
          else
            some (((-4) : Int32), σ12)
        else
          some (((-2) : Int32), σ10)
theorem fi_X9_layer_2 : ∀ w ∈ u_ws RX2 TX2 5, w ∈ wsX9_layer := by decide +kernel
theorem fi_X9_layer_8 : ∀ w ∈ u_ws RX8 TX8 10, w ∈ wsX9_layer := by decide +kernel
theorem fi_X9_layer_9 : ∀ w ∈ u_ws RX9 TX9 14, w ∈ wsX9_layer := by decide +kernel
set_option maxHeartbeats 4000000 in
set_option maxRecDepth 100000 in
theorem c_X9_layer (l : Launch) (D : va_G) (ad : Nat → Nat) (cs : Nat → ClassId) (J : uJ 99 ad) (σ : St) (v1 : Int32) (v2 : Int32) (v3 : Int32) (v4 : Int32) (r : Int32) (σ' : St) (h : f_X9_layer σ v1 v2 v3 v4 = some (r, σ')) : uMi l yX9_layer wsX9_layer { frames := 1, cells := 0, slots := 0, locals := 23 } D vwCl (tyX cs) 99 ad (enX ad cs) [.ref (ad 0), .int v1, .int v2, .int v3, .int v4] σ r σ' := by
  refine u_met (Qf := uQi D vwCl 99 ad (enX ad cs) r σ') (cc := cX9_layer) (maxL := 6) (ret := (some .int)) (lv := [(0, .ref (ad 0)), (1, .int v1), (2, .int v2), (3, .int v3), (4, .int v4)]) J (by decide) rfl (Nat.le_of_ble_eq_true rfl) rfl rfl rfl ?_
  intro p e s m args below meth c ls hx hb C hr hlk G hl
  unfold f_X9_layer at h
  obtain ⟨H, eH⟩ : ∃ H, H = s.heap := ⟨_, rfl⟩
  obtain ⟨locs, eL⟩ : ∃ locs : List Loc, locs = [] := ⟨_, rfl⟩
  refine u_start eH eL G ?_
  clear G eH eL
  intro G
  refine lv_iload_n hx hb dX9_layer_0 rfl (lv_at hl 1 rfl) ?_
  obtain ⟨r1, σ2, er1, h⟩ := ub_of h
  refine u_callSi (As := [.int v1]) (rest := []) C G (c_X9_isLine l D ad cs C.2.2.1 σ v1 r1 σ2 er1) (va_cwS 1 C.1.2.2.2.2 gX9_layer_X9_isLine rfl rfl rfl (by decide +kernel) ⟨Nat.le_of_ble_eq_true rfl, Nat.le_of_ble_eq_true rfl⟩) rfl hl rfl (Nat.le_of_ble_eq_true rfl) dX9_layer_1 (fun H locs G => ?_)
  refine lv_if_eq (tgt := 26) hx hb dX9_layer_4 (by decide) (fun q => ?_) (fun q => ?_)
  · have h := u_pos q h
    refine lv_iconst (v := (-1)) hx hb dX9_layer_26 (by decide) ?_
    obtain ⟨rfl, rfl⟩ := u_end h
    exact u_iret hx hb hr hlk G dX9_layer_27
  · have h := u_neg q h
    refine lv_aload_n hx hb dX9_layer_7 rfl (lv_at hl 0 rfl) ?_
    refine u_get (v := .ref (ad 8)) C G obX_0 (ci := 9) (N := 14) (Cn := RX9) (T := TX9) rfl fi_X9_layer_9 1 (by decide) (by decide +kernel) rfl dX9_layer_8 ?_
    refine lv_iload_n hx hb dX9_layer_11 rfl (lv_at hl 2 rfl) ?_
    obtain ⟨r3, σ4, er3, h⟩ := ub_of h
    refine u_callVi (As := [.int v2]) (rest := []) C G (c_X8_isNumber l D ad cs C.2.2.1 σ2 v2 r3 σ4 er3) (cwV 1 C.1.2.2.2.2 gX9_layer_X8_isNumber rfl rfl rfl (by decide +kernel) ⟨Nat.le_of_ble_eq_true rfl, Nat.le_of_ble_eq_true rfl⟩) obX_8 (ci := 8) (T := TX8) rfl rfl hl rfl (Nat.le_of_ble_eq_true rfl) dX9_layer_12 (fun H locs G => ?_)
    refine lv_if_eq (tgt := 26) hx hb dX9_layer_15 (by decide) (fun q => ?_) (fun q => ?_)
    · have h := u_pos q h
      refine lv_iconst (v := (-1)) hx hb dX9_layer_26 (by decide) ?_
      obtain ⟨rfl, rfl⟩ := u_end h
      exact u_iret hx hb hr hlk G dX9_layer_27
    · have h := u_neg q h
      refine lv_iload hx hb dX9_layer_18 (lv_at hl 4 rfl) ?_
      obtain ⟨r5, σ6, er5, h⟩ := ub_of h
      refine u_callSi (As := [.int v4]) (rest := []) C G (c_X9_isColour l D ad cs C.2.2.1 σ4 v4 r5 σ6 er5) (va_cwS 1 C.1.2.2.2.2 gX9_layer_X9_isColour rfl rfl rfl (by decide +kernel) ⟨Nat.le_of_ble_eq_true rfl, Nat.le_of_ble_eq_true rfl⟩) rfl hl rfl (Nat.le_of_ble_eq_true rfl) dX9_layer_20 (fun H locs G => ?_)
      refine lv_if_ne (tgt := 28) hx hb dX9_layer_23 (by decide) (fun q => ?_) (fun q => ?_)
      · have h := u_neg q h
        refine lv_aload_n hx hb dX9_layer_28 rfl (lv_at hl 0 rfl) ?_
        refine u_get (v := .ref (ad 34)) C G obX_0 (ci := 9) (N := 14) (Cn := RX9) (T := TX9) rfl fi_X9_layer_9 2 (by decide) (by decide +kernel) rfl dX9_layer_29 ?_
        refine lv_iload_n hx hb dX9_layer_32 rfl (lv_at hl 1 rfl) ?_
        obtain ⟨g7, h⟩ := ui_of h
        refine u_aald C G rrX_34 (t0 := 3) rfl rfl g7 dX9_layer_33 (fun b8 => ?_)
        refine lv_astore (lv' := [(5, .ref (ad (35 + 9 * v1.toNatClampNeg))), (0, .ref (ad 0)), (1, .int v1), (2, .int v2), (3, .int v3), (4, .int v4)]) hx hb dX9_layer_34 hl (by decide) rfl (fun ls hl => ?_)
        refine lv_aload hx hb dX9_layer_36 (lv_at hl 0 rfl) ?_
        obtain ⟨r9, σ10, er9, h⟩ := ub_of h
        refine u_callVi (As := []) (rest := []) C G (c_X2_isFull l D ad cs C.2.2.1 σ6 v1.toNatClampNeg b8 r9 σ10 er9) (cwV 0 C.1.2.2.2.2 gX9_layer_X2_isFull rfl rfl rfl (by decide +kernel) ⟨Nat.le_of_ble_eq_true rfl, Nat.le_of_ble_eq_true rfl⟩) (obX_line b8) (ci := 2) (T := TX2) rfl rfl hl rfl (Nat.le_of_ble_eq_true rfl) dX9_layer_38 (fun H locs G => ?_)
        refine lv_if_eq (tgt := 47) hx hb dX9_layer_41 (by decide) (fun q => ?_) (fun q => ?_)
        · have h := u_pos q h
          refine lv_aload hx hb dX9_layer_47 (lv_at hl 0 rfl) ?_
          refine lv_iload hx hb dX9_layer_49 (lv_at hl 5 rfl) ?_
          obtain ⟨r11, σ12, er11, h⟩ := ub_of h
          refine u_callVi (As := [.int v4]) (rest := []) C G (c_X2_hasLayerIn l D ad cs C.2.2.1 σ10 v1.toNatClampNeg v4 b8 r11 σ12 er11) (cwV 1 C.1.2.2.2.2 gX9_layer_X2_hasLayerIn rfl rfl rfl (by decide +kernel) ⟨Nat.le_of_ble_eq_true rfl, Nat.le_of_ble_eq_true rfl⟩) (obX_line b8) (ci := 2) (T := TX2) rfl rfl hl rfl (Nat.le_of_ble_eq_true rfl) dX9_layer_51 (fun H locs G => ?_)
          refine lv_if_eq (tgt := 60) hx hb dX9_layer_54 (by decide) (fun q => ?_) (fun q => ?_)
          · have h := u_pos q h
            refine lv_aload_n hx hb dX9_layer_60 rfl (lv_at hl 1 rfl) ?_
            refine u_get (v := .ref (ad 8)) C G obX_0 (ci := 9) (N := 14) (Cn := RX9) (T := TX9) rfl fi_X9_layer_9 1 (by decide) (by decide +kernel) rfl dX9_layer_61 ?_
            refine u_get (v := .ref (ad 17)) C G obX_8 (ci := 8) (N := 10) (Cn := RX8) (T := TX8) rfl fi_X9_layer_8 8 (by decide) (by decide +kernel) rfl dX9_layer_64 ?_
            refine lv_iload_n hx hb dX9_layer_67 rfl (lv_at hl 3 rfl) ?_
            obtain ⟨g13, h⟩ := ui_of h
            refine u_zald C G arX_17 (t0 := 2) rfl g13 dX9_layer_68 ?_
            refine lv_if_eq (tgt := 78) hx hb dX9_layer_69 (by decide) (fun q => ?_) (fun q => ?_)
            · have h := u_pos q h
              refine lv_aload_n hx hb dX9_layer_78 rfl (lv_at hl 1 rfl) ?_
              refine u_get (v := .ref (ad 8)) C G obX_0 (ci := 9) (N := 14) (Cn := RX9) (T := TX9) rfl fi_X9_layer_9 1 (by decide) (by decide +kernel) rfl dX9_layer_79 ?_
              refine lv_iload_n hx hb dX9_layer_82 rfl (lv_at hl 3 rfl) ?_
              refine lv_iload_n hx hb dX9_layer_83 rfl (lv_at hl 4 rfl) ?_
              obtain ⟨r14, σ15, er14, h⟩ := ub_of h
              refine u_callVi (As := [.int v2, .int v3]) (rest := []) C G (c_X8_isOnLine l D ad cs C.2.2.1 σ12 v2 v3 r14 σ15 er14) (cwV 2 C.1.2.2.2.2 gX9_layer_X8_isOnLine rfl rfl rfl (by decide +kernel) ⟨Nat.le_of_ble_eq_true rfl, Nat.le_of_ble_eq_true rfl⟩) obX_8 (ci := 8) (T := TX8) rfl rfl hl rfl (Nat.le_of_ble_eq_true rfl) dX9_layer_84 (fun H locs G => ?_)
              refine lv_if_ne (tgt := 96) hx hb dX9_layer_87 (by decide) (fun q => ?_) (fun q => ?_)
              · have h := u_neg q h
                refine lv_aload hx hb dX9_layer_96 (lv_at hl 0 rfl) ?_
                refine lv_iload_n hx hb dX9_layer_98 rfl (lv_at hl 3 rfl) ?_
                refine lv_iload_n hx hb dX9_layer_99 rfl (lv_at hl 4 rfl) ?_
                refine lv_iload hx hb dX9_layer_100 (lv_at hl 5 rfl) ?_
                obtain ⟨r16, σ17, er16, h⟩ := ub_of h
                refine u_callVv (As := [.int v2, .int v3, .int v4]) (rest := []) C G (c_X2_addLayer l D ad cs C.2.2.1 σ15 v1.toNatClampNeg v2 v3 v4 b8 r16 σ17 er16) (cwV 3 C.1.2.2.2.2 gX9_layer_X2_addLayer rfl rfl rfl (by decide +kernel) ⟨Nat.le_of_ble_eq_true rfl, Nat.le_of_ble_eq_true rfl⟩) (obX_line b8) (ci := 2) (T := TX2) rfl rfl hl rfl (Nat.le_of_ble_eq_true rfl) dX9_layer_102 (fun H locs G => ?_)
                refine lv_aload hx hb dX9_layer_105 (lv_at hl 0 rfl) ?_
                refine u_get (v := .int (σ17 (35 + 9 * v1.toNatClampNeg) 4)) C G (obX_line b8) (ci := 2) (N := 5) (Cn := RX2) (T := TX2) rfl fi_X9_layer_2 4 (by decide) (by decide +kernel) rfl dX9_layer_107 ?_
                obtain ⟨rfl, rfl⟩ := u_end h
                exact u_iret hx hb hr hlk G dX9_layer_110
              · have h := u_pos q h
                refine lv_aload_n hx hb dX9_layer_90 rfl (lv_at hl 1 rfl) ?_
                refine lv_iconst (v := 2) hx hb dX9_layer_91 (by decide) ?_
                obtain ⟨r18, σ19, er18, h⟩ := ub_of h
                refine u_callVi (As := [.int 2]) (rest := []) C G (c_X9_refuse l D ad cs C.2.2.1 σ15 (2 : Int32) r18 σ19 er18) (cwV 1 C.1.2.2.2.2 gX9_layer_X9_refuse rfl rfl rfl (by decide +kernel) ⟨Nat.le_of_ble_eq_true rfl, Nat.le_of_ble_eq_true rfl⟩) obX_0 (ci := 9) (T := TX9) rfl rfl hl rfl (Nat.le_of_ble_eq_true rfl) dX9_layer_92 (fun H locs G => ?_)
                obtain ⟨rfl, rfl⟩ := u_end h
                exact u_iret hx hb hr hlk G dX9_layer_95
            · have h := u_neg q h
              refine lv_aload_n hx hb dX9_layer_72 rfl (lv_at hl 1 rfl) ?_
              refine lv_iconst (v := 1) hx hb dX9_layer_73 (by decide) ?_
              obtain ⟨r20, σ21, er20, h⟩ := ub_of h
              refine u_callVi (As := [.int 1]) (rest := []) C G (c_X9_refuse l D ad cs C.2.2.1 σ12 (1 : Int32) r20 σ21 er20) (cwV 1 C.1.2.2.2.2 gX9_layer_X9_refuse rfl rfl rfl (by decide +kernel) ⟨Nat.le_of_ble_eq_true rfl, Nat.le_of_ble_eq_true rfl⟩) obX_0 (ci := 9) (T := TX9) rfl rfl hl rfl (Nat.le_of_ble_eq_true rfl) dX9_layer_74 (fun H locs G => ?_)
              obtain ⟨rfl, rfl⟩ := u_end h
              exact u_iret hx hb hr hlk G dX9_layer_77
          · have h := u_neg q h
            refine lv_bipush (v := (-4)) hx hb dX9_layer_57 (by decide) ?_
            obtain ⟨rfl, rfl⟩ := u_end h
            exact u_iret hx hb hr hlk G dX9_layer_59
        · have h := u_neg q h
          refine lv_bipush (v := (-2)) hx hb dX9_layer_44 (by decide) ?_
          obtain ⟨rfl, rfl⟩ := u_end h
          exact u_iret hx hb hr hlk G dX9_layer_46
      · have h := u_pos q h
        refine lv_iconst (v := (-1)) hx hb dX9_layer_26 (by decide) ?_
        obtain ⟨rfl, rfl⟩ := u_end h
        exact u_iret hx hb hr hlk G dX9_layer_27
/-! X9_bare -/
def f_X9_bare (σ : St) (v1 : Int32) : Option (Int32 × St) :=
  ub (f_X9_isLine σ v1) fun r1 σ2 =>
  if r1 = 0 then
    some (((-1) : Int32), σ2)
  else
    ui v1 4 <|
    ul (σ2 (35 + 9 * v1.toNatClampNeg) 4) fun x5 =>
    ui v1 4 <|
    ul (us σ2 (35 + 9 * v1.toNatClampNeg) 4 0) fun σ8 =>
    some (x5, σ8)
theorem fi_X9_bare_2 : ∀ w ∈ u_ws RX2 TX2 5, w ∈ wsX9_bare := by decide +kernel
theorem fi_X9_bare_9 : ∀ w ∈ u_ws RX9 TX9 14, w ∈ wsX9_bare := by decide +kernel
set_option maxHeartbeats 4000000 in
set_option maxRecDepth 100000 in
theorem c_X9_bare (l : Launch) (D : va_G) (ad : Nat → Nat) (cs : Nat → ClassId) (J : uJ 99 ad) (σ : St) (v1 : Int32) (r : Int32) (σ' : St) (h : f_X9_bare σ v1 = some (r, σ')) : uMi l yX9_bare wsX9_bare { frames := 1, cells := 0, slots := 0, locals := 20 } D vwCl (tyX cs) 99 ad (enX ad cs) [.ref (ad 0), .int v1] σ r σ' := by
  refine u_met (Qf := uQi D vwCl 99 ad (enX ad cs) r σ') (cc := cX9_bare) (maxL := 3) (ret := (some .int)) (lv := [(0, .ref (ad 0)), (1, .int v1)]) J (by decide) rfl (Nat.le_of_ble_eq_true rfl) rfl rfl rfl ?_
  intro p e s m args below meth c ls hx hb C hr hlk G hl
  unfold f_X9_bare at h
  obtain ⟨H, eH⟩ : ∃ H, H = s.heap := ⟨_, rfl⟩
  obtain ⟨locs, eL⟩ : ∃ locs : List Loc, locs = [] := ⟨_, rfl⟩
  refine u_start eH eL G ?_
  clear G eH eL
  intro G
  refine lv_iload_n hx hb dX9_bare_0 rfl (lv_at hl 1 rfl) ?_
  obtain ⟨r1, σ2, er1, h⟩ := ub_of h
  refine u_callSi (As := [.int v1]) (rest := []) C G (c_X9_isLine l D ad cs C.2.2.1 σ v1 r1 σ2 er1) (va_cwS 1 C.1.2.2.2.2 gX9_bare_X9_isLine rfl rfl rfl (by decide +kernel) ⟨Nat.le_of_ble_eq_true rfl, Nat.le_of_ble_eq_true rfl⟩) rfl hl rfl (Nat.le_of_ble_eq_true rfl) dX9_bare_1 (fun H locs G => ?_)
  refine lv_if_ne (tgt := 9) hx hb dX9_bare_4 (by decide) (fun q => ?_) (fun q => ?_)
  · have h := u_neg q h
    refine lv_aload_n hx hb dX9_bare_9 rfl (lv_at hl 0 rfl) ?_
    refine u_get (v := .ref (ad 34)) C G obX_0 (ci := 9) (N := 14) (Cn := RX9) (T := TX9) rfl fi_X9_bare_9 2 (by decide) (by decide +kernel) rfl dX9_bare_10 ?_
    refine lv_iload_n hx hb dX9_bare_13 rfl (lv_at hl 1 rfl) ?_
    obtain ⟨g3, h⟩ := ui_of h
    refine u_aald C G rrX_34 (t0 := 3) rfl rfl g3 dX9_bare_14 (fun b4 => ?_)
    refine u_get (v := .int (σ2 (35 + 9 * v1.toNatClampNeg) 4)) C G (obX_line b4) (ci := 2) (N := 5) (Cn := RX2) (T := TX2) rfl fi_X9_bare_2 4 (by decide) (by decide +kernel) rfl dX9_bare_15 ?_
    obtain ⟨x5, ex5, h⟩ := ul_of h
    refine u_nmi ex5 ?_
    refine lv_istore_n (lv' := [(2, .int x5), (0, .ref (ad 0)), (1, .int v1)]) hx hb dX9_bare_18 rfl hl (by decide) rfl (fun ls hl => ?_)
    refine lv_aload_n hx hb dX9_bare_19 rfl (lv_at hl 1 rfl) ?_
    refine u_get (v := .ref (ad 34)) C G obX_0 (ci := 9) (N := 14) (Cn := RX9) (T := TX9) rfl fi_X9_bare_9 2 (by decide) (by decide +kernel) rfl dX9_bare_20 ?_
    refine lv_iload_n hx hb dX9_bare_23 rfl (lv_at hl 2 rfl) ?_
    obtain ⟨g6, h⟩ := ui_of h
    refine u_aald C G rrX_34 (t0 := 3) rfl rfl g6 dX9_bare_24 (fun b7 => ?_)
    refine lv_iconst (v := 0) hx hb dX9_bare_25 (by decide) ?_
    refine u_put (x := 0) (ty := .int) C G (obX_line b7) (ci := 2) (N := 5) (Cn := RX2) (T := TX2) rfl fi_X9_bare_2 tyX2 tyX2_ok nmX2 4 (by decide) (by decide +kernel) rfl (by decide +kernel) rfl rfl (fun f => by simp) (fun f => rfl) dX9_bare_26 (fun H locs G => ?_)
    obtain ⟨σ8, eσ8, h⟩ := ul_of h
    replace G := uG_eq eσ8 G
    refine lv_iload_n hx hb dX9_bare_29 rfl (lv_at hl 0 rfl) ?_
    obtain ⟨rfl, rfl⟩ := u_end h
    exact u_iret hx hb hr hlk G dX9_bare_30
  · have h := u_pos q h
    refine lv_iconst (v := (-1)) hx hb dX9_bare_7 (by decide) ?_
    obtain ⟨rfl, rfl⟩ := u_end h
    exact u_iret hx hb hr hlk G dX9_bare_8
/-! X9_layerTold -/
def f_X9_layerTold (σ : St) (v1 : Int32) (v2 : Int32) (v3 : Int32) : Option (Int32 × St) :=
  ub (f_X9_isLine σ v1) fun r1 σ2 =>
  if r1 = 0 then
    some (((-1) : Int32), σ2)
  else
    if v3 < 0 then
      some (((-1) : Int32), σ2)
    else
      if v3 ≤ 2 then
        if v2 < 0 then
          some (((-9) : Int32), σ2)
        else
          ui v1 4 <|
          if v2 < (σ2 (35 + 9 * v1.toNatClampNeg) 4) then
            ui v1 4 <|
            ub (f_X2_factOf σ2 v1.toNatClampNeg v2 v3) fun r7 σ8 =>
            some (r7, σ8)
          else
            some (((-9) : Int32), σ2)
      else
        some (((-1) : Int32), σ2)
theorem fi_X9_layerTold_2 : ∀ w ∈ u_ws RX2 TX2 5, w ∈ wsX9_layerTold := by decide +kernel
theorem fi_X9_layerTold_9 : ∀ w ∈ u_ws RX9 TX9 14, w ∈ wsX9_layerTold := by decide +kernel
set_option maxHeartbeats 4000000 in
set_option maxRecDepth 100000 in
theorem c_X9_layerTold (l : Launch) (D : va_G) (ad : Nat → Nat) (cs : Nat → ClassId) (J : uJ 99 ad) (σ : St) (v1 : Int32) (v2 : Int32) (v3 : Int32) (r : Int32) (σ' : St) (h : f_X9_layerTold σ v1 v2 v3 = some (r, σ')) : uMi l yX9_layerTold wsX9_layerTold { frames := 1, cells := 0, slots := 0, locals := 22 } D vwCl (tyX cs) 99 ad (enX ad cs) [.ref (ad 0), .int v1, .int v2, .int v3] σ r σ' := by
  refine u_met (Qf := uQi D vwCl 99 ad (enX ad cs) r σ') (cc := cX9_layerTold) (maxL := 4) (ret := (some .int)) (lv := [(0, .ref (ad 0)), (1, .int v1), (2, .int v2), (3, .int v3)]) J (by decide) rfl (Nat.le_of_ble_eq_true rfl) rfl rfl rfl ?_
  intro p e s m args below meth c ls hx hb C hr hlk G hl
  unfold f_X9_layerTold at h
  obtain ⟨H, eH⟩ : ∃ H, H = s.heap := ⟨_, rfl⟩
  obtain ⟨locs, eL⟩ : ∃ locs : List Loc, locs = [] := ⟨_, rfl⟩
  refine u_start eH eL G ?_
  clear G eH eL
  intro G
  refine lv_iload_n hx hb dX9_layerTold_0 rfl (lv_at hl 1 rfl) ?_
  obtain ⟨r1, σ2, er1, h⟩ := ub_of h
  refine u_callSi (As := [.int v1]) (rest := []) C G (c_X9_isLine l D ad cs C.2.2.1 σ v1 r1 σ2 er1) (va_cwS 1 C.1.2.2.2.2 gX9_layerTold_X9_isLine rfl rfl rfl (by decide +kernel) ⟨Nat.le_of_ble_eq_true rfl, Nat.le_of_ble_eq_true rfl⟩) rfl hl rfl (Nat.le_of_ble_eq_true rfl) dX9_layerTold_1 (fun H locs G => ?_)
  refine lv_if_eq (tgt := 16) hx hb dX9_layerTold_4 (by decide) (fun q => ?_) (fun q => ?_)
  · have h := u_pos q h
    refine lv_iconst (v := (-1)) hx hb dX9_layerTold_16 (by decide) ?_
    obtain ⟨rfl, rfl⟩ := u_end h
    exact u_iret hx hb hr hlk G dX9_layerTold_17
  · have h := u_neg q h
    refine lv_iload_n hx hb dX9_layerTold_7 rfl (lv_at hl 3 rfl) ?_
    refine lv_if_lt (tgt := 16) hx hb dX9_layerTold_8 (by decide) (fun q => ?_) (fun q => ?_)
    · have h := u_pos q h
      refine lv_iconst (v := (-1)) hx hb dX9_layerTold_16 (by decide) ?_
      obtain ⟨rfl, rfl⟩ := u_end h
      exact u_iret hx hb hr hlk G dX9_layerTold_17
    · have h := u_neg q h
      refine lv_iload_n hx hb dX9_layerTold_11 rfl (lv_at hl 3 rfl) ?_
      refine lv_iconst (v := 2) hx hb dX9_layerTold_12 (by decide) ?_
      refine lv_icmp_le (tgt := 18) hx hb dX9_layerTold_13 (by decide) (fun q => ?_) (fun q => ?_)
      · have h := u_pos q h
        refine lv_iload_n hx hb dX9_layerTold_18 rfl (lv_at hl 2 rfl) ?_
        refine lv_if_lt (tgt := 35) hx hb dX9_layerTold_19 (by decide) (fun q => ?_) (fun q => ?_)
        · have h := u_pos q h
          refine lv_bipush (v := (-9)) hx hb dX9_layerTold_35 (by decide) ?_
          obtain ⟨rfl, rfl⟩ := u_end h
          exact u_iret hx hb hr hlk G dX9_layerTold_37
        · have h := u_neg q h
          refine lv_iload_n hx hb dX9_layerTold_22 rfl (lv_at hl 2 rfl) ?_
          refine lv_aload_n hx hb dX9_layerTold_23 rfl (lv_at hl 0 rfl) ?_
          refine u_get (v := .ref (ad 34)) C G obX_0 (ci := 9) (N := 14) (Cn := RX9) (T := TX9) rfl fi_X9_layerTold_9 2 (by decide) (by decide +kernel) rfl dX9_layerTold_24 ?_
          refine lv_iload_n hx hb dX9_layerTold_27 rfl (lv_at hl 1 rfl) ?_
          obtain ⟨g3, h⟩ := ui_of h
          refine u_aald C G rrX_34 (t0 := 3) rfl rfl g3 dX9_layerTold_28 (fun b4 => ?_)
          refine u_get (v := .int (σ2 (35 + 9 * v1.toNatClampNeg) 4)) C G (obX_line b4) (ci := 2) (N := 5) (Cn := RX2) (T := TX2) rfl fi_X9_layerTold_2 4 (by decide) (by decide +kernel) rfl dX9_layerTold_29 ?_
          refine lv_icmp_lt (tgt := 38) hx hb dX9_layerTold_32 (by decide) (fun q => ?_) (fun q => ?_)
          · have h := u_pos q h
            refine lv_aload_n hx hb dX9_layerTold_38 rfl (lv_at hl 0 rfl) ?_
            refine u_get (v := .ref (ad 34)) C G obX_0 (ci := 9) (N := 14) (Cn := RX9) (T := TX9) rfl fi_X9_layerTold_9 2 (by decide) (by decide +kernel) rfl dX9_layerTold_39 ?_
            refine lv_iload_n hx hb dX9_layerTold_42 rfl (lv_at hl 1 rfl) ?_
            obtain ⟨g5, h⟩ := ui_of h
            refine u_aald C G rrX_34 (t0 := 3) rfl rfl g5 dX9_layerTold_43 (fun b6 => ?_)
            refine lv_iload_n hx hb dX9_layerTold_44 rfl (lv_at hl 2 rfl) ?_
            refine lv_iload_n hx hb dX9_layerTold_45 rfl (lv_at hl 3 rfl) ?_
            obtain ⟨r7, σ8, er7, h⟩ := ub_of h
            refine u_callVi (As := [.int v2, .int v3]) (rest := []) C G (c_X2_factOf l D ad cs C.2.2.1 σ2 v1.toNatClampNeg v2 v3 b6 r7 σ8 er7) (cwV 2 C.1.2.2.2.2 gX9_layerTold_X2_factOf rfl rfl rfl (by decide +kernel) ⟨Nat.le_of_ble_eq_true rfl, Nat.le_of_ble_eq_true rfl⟩) (obX_line b6) (ci := 2) (T := TX2) rfl rfl hl rfl (Nat.le_of_ble_eq_true rfl) dX9_layerTold_46 (fun H locs G => ?_)
            obtain ⟨rfl, rfl⟩ := u_end h
            exact u_iret hx hb hr hlk G dX9_layerTold_49
          · have h := u_neg q h
            refine lv_bipush (v := (-9)) hx hb dX9_layerTold_35 (by decide) ?_
            obtain ⟨rfl, rfl⟩ := u_end h
            exact u_iret hx hb hr hlk G dX9_layerTold_37
      · have h := u_neg q h
        refine lv_iconst (v := (-1)) hx hb dX9_layerTold_16 (by decide) ?_
        obtain ⟨rfl, rfl⟩ := u_end h
        exact u_iret hx hb hr hlk G dX9_layerTold_17
/-! X9_layerCells -/
def f_X9_layerCells (σ : St) (i1 : Nat) (v2 : Int32) (v3 : Int32) : Option (Int32 × St) :=
  ui v2 3 <|
  ui v2 3 <|
  ub (f_X8_cellsIn σ (σ (35 + 9 * i1 + 6) v2.toNatClampNeg) (σ (35 + 9 * i1 + 7) v2.toNatClampNeg) v3) fun r3 σ4 =>
  some (r3, σ4)
theorem fi_X9_layerCells_2 : ∀ w ∈ u_ws RX2 TX2 5, w ∈ wsX9_layerCells := by decide +kernel
theorem fi_X9_layerCells_9 : ∀ w ∈ u_ws RX9 TX9 14, w ∈ wsX9_layerCells := by decide +kernel
set_option maxHeartbeats 4000000 in
set_option maxRecDepth 100000 in
theorem c_X9_layerCells (l : Launch) (D : va_G) (ad : Nat → Nat) (cs : Nat → ClassId) (J : uJ 99 ad) (σ : St) (i1 : Nat) (v2 : Int32) (v3 : Int32) (bi1 : i1 < 4) (r : Int32) (σ' : St) (h : f_X9_layerCells σ i1 v2 v3 = some (r, σ')) : uMi l yX9_layerCells wsX9_layerCells { frames := 1, cells := 0, slots := 0, locals := 24 } D vwCl (tyX cs) 99 ad (enX ad cs) [.ref (ad 0), .ref (ad (35 + 9 * i1)), .int v2, .int v3] σ r σ' := by
  refine u_met (Qf := uQi D vwCl 99 ad (enX ad cs) r σ') (cc := cX9_layerCells) (maxL := 4) (ret := (some .int)) (lv := [(0, .ref (ad 0)), (1, .ref (ad (35 + 9 * i1))), (2, .int v2), (3, .int v3)]) J (by decide) rfl (Nat.le_of_ble_eq_true rfl) rfl rfl rfl ?_
  intro p e s m args below meth c ls hx hb C hr hlk G hl
  unfold f_X9_layerCells at h
  obtain ⟨H, eH⟩ : ∃ H, H = s.heap := ⟨_, rfl⟩
  obtain ⟨locs, eL⟩ : ∃ locs : List Loc, locs = [] := ⟨_, rfl⟩
  refine u_start eH eL G ?_
  clear G eH eL
  intro G
  refine lv_aload_n hx hb dX9_layerCells_0 rfl (lv_at hl 0 rfl) ?_
  refine u_get (v := .ref (ad 8)) C G obX_0 (ci := 9) (N := 14) (Cn := RX9) (T := TX9) rfl fi_X9_layerCells_9 1 (by decide) (by decide +kernel) rfl dX9_layerCells_1 ?_
  refine lv_aload_n hx hb dX9_layerCells_4 rfl (lv_at hl 1 rfl) ?_
  refine u_get (v := .ref (ad (35 + 9 * i1 + 6))) C G (obX_line bi1) (ci := 2) (N := 5) (Cn := RX2) (T := TX2) rfl fi_X9_layerCells_2 1 (by decide) (by decide +kernel) rfl dX9_layerCells_5 ?_
  refine lv_iload_n hx hb dX9_layerCells_8 rfl (lv_at hl 2 rfl) ?_
  obtain ⟨g1, h⟩ := ui_of h
  refine u_iald C G (arX_lw bi1) (t0 := 0) rfl g1 dX9_layerCells_9 ?_
  refine lv_aload_n hx hb dX9_layerCells_10 rfl (lv_at hl 1 rfl) ?_
  refine u_get (v := .ref (ad (35 + 9 * i1 + 7))) C G (obX_line bi1) (ci := 2) (N := 5) (Cn := RX2) (T := TX2) rfl fi_X9_layerCells_2 2 (by decide) (by decide +kernel) rfl dX9_layerCells_11 ?_
  refine lv_iload_n hx hb dX9_layerCells_14 rfl (lv_at hl 2 rfl) ?_
  obtain ⟨g2, h⟩ := ui_of h
  refine u_iald C G (arX_lsl bi1) (t0 := 0) rfl g2 dX9_layerCells_15 ?_
  refine lv_iload_n hx hb dX9_layerCells_16 rfl (lv_at hl 3 rfl) ?_
  obtain ⟨r3, σ4, er3, h⟩ := ub_of h
  refine u_callVi (As := [.int (σ (35 + 9 * i1 + 6) v2.toNatClampNeg), .int (σ (35 + 9 * i1 + 7) v2.toNatClampNeg), .int v3]) (rest := []) C G (c_X8_cellsIn l D ad cs C.2.2.1 σ (σ (35 + 9 * i1 + 6) v2.toNatClampNeg) (σ (35 + 9 * i1 + 7) v2.toNatClampNeg) v3 r3 σ4 er3) (cwV 3 C.1.2.2.2.2 gX9_layerCells_X8_cellsIn rfl rfl rfl (by decide +kernel) ⟨Nat.le_of_ble_eq_true rfl, Nat.le_of_ble_eq_true rfl⟩) obX_8 (ci := 8) (T := TX8) rfl rfl hl rfl (Nat.le_of_ble_eq_true rfl) dX9_layerCells_17 (fun H locs G => ?_)
  obtain ⟨rfl, rfl⟩ := u_end h
  exact u_iret hx hb hr hlk G dX9_layerCells_20
/-! X9_fitsIn -/
def f_X9_fitsIn_13 (k2 : St → Nat → Int32 → Int32 → Option (Int32 × St)) : Nat → St → Nat → Int32 → Int32 → Int32 → Int32 → Option (Int32 × St)
  | 0, _, _, _, _, _, _ => none
  | fuel + 1, σ, i1, v2, v3, v4, v5 =>
    if (σ (35 + 9 * i1) 4) ≤ v5 then
      ui v3 4 <|
      ui v2 10 <|
      if ((σ (35 + 9 * i1 + 2 + v3.toNatClampNeg) v2.toNatClampNeg) &&& (v4 ^^^ (-1))) = 0 then
        ul (v3 + 1) fun x4 =>
        k2 σ i1 v2 x4
      else
        some ((0 : Int32), σ)
    else
      ui v5 3 <|
      if (σ (35 + 9 * i1 + 8) v5.toNatClampNeg) = v3 then
        ub (f_X9_layerCells σ i1 v5 v2) fun r7 σ8 =>
        ul (v4 ||| r7) fun x9 =>
        ul (v5 + 1) fun x10 =>
        f_X9_fitsIn_13 k2 fuel σ8 i1 v2 v3 x9 x10
      else
        ul (v5 + 1) fun x6 =>
        f_X9_fitsIn_13 k2 fuel σ i1 v2 v3 v4 x6
def f_X9_fitsIn_2 : Nat → St → Nat → Int32 → Int32 → Option (Int32 × St)
  | 0, _, _, _, _ => none
  | fuel + 1, σ, i1, v2, v3 =>
    if 3 < v3 then
      some ((1 : Int32), σ)
    else
      f_X9_fitsIn_13 (f_X9_fitsIn_2 fuel) fu σ i1 v2 v3 0 0
def f_X9_fitsIn (σ : St) (i1 : Nat) (v2 : Int32) : Option (Int32 × St) :=
  f_X9_fitsIn_2 fu σ i1 v2 1
theorem fi_X9_fitsIn_2 : ∀ w ∈ u_ws RX2 TX2 5, w ∈ wsX9_fitsIn := by decide +kernel
set_option maxHeartbeats 4000000 in
set_option maxRecDepth 100000 in
theorem w_X9_fitsIn_13 {p : Program} {l : Launch} {e : Env} {s : State} {m : MethodId} {args : Array Value} {below : List Frame} {meth : Method} {c : Code} {D : va_G} {ad : Nat → Nat} {cs : Nat → ClassId} (C : uC p { frames := 2, cells := 0, slots := 0, locals := 47 } s m args c cX9_fitsIn 6 wsX9_fitsIn RX9 D vwCl (tyX cs) 99 ad (uAd 99 ad s.heap.size) 0 0) (hr : meth.sig.returnType = (some .boolean)) (hlk : meth.locks = false) {r : Int32} {σ' : St} {k2 : St → Nat → Int32 → Int32 → Option (Int32 × St)} (hk2 : ∀ (σ : St) (i1 : Nat) (v2 : Int32) (v3 : Int32) (bi1 : i1 < 4), k2 σ i1 v2 v3 = some (r, σ') → ∀ (H : Heap) (locs : List Loc) (ls : Array Slot), uG D vwCl 99 ad (enX ad cs) (uAd 99 ad s.heap.size) s σ H locs → lv_has ls 6 [(0, .ref (ad 0)), (1, .ref (ad (35 + 9 * i1))), (2, .int v2), (3, .int v3)] → W p l e { frames := 2, cells := 0, slots := 0, locals := 47 } s m args below meth c H locs 0 0 (MQ below (uQi D vwCl 99 ad (enX ad cs) r σ' s.heap.size) args s 0 0 (uAd 99 ad s.heap.size)) (F0 m 2 ls [])) :
    ∀ (n : Nat) (σ : St) (i1 : Nat) (v2 : Int32) (v3 : Int32) (v4 : Int32) (v5 : Int32) (bi1 : i1 < 4), f_X9_fitsIn_13 k2 n σ i1 v2 v3 v4 v5 = some (r, σ') → ∀ (H : Heap) (locs : List Loc) (ls : Array Slot), uG D vwCl 99 ad (enX ad cs) (uAd 99 ad s.heap.size) s σ H locs → lv_has ls 6 [(0, .ref (ad 0)), (1, .ref (ad (35 + 9 * i1))), (2, .int v2), (3, .int v3), (4, .int v4), (5, .int v5)] → W p l e { frames := 2, cells := 0, slots := 0, locals := 47 } s m args below meth c H locs 0 0 (MQ below (uQi D vwCl 99 ad (enX ad cs) r σ' s.heap.size) args s 0 0 (uAd 99 ad s.heap.size)) (F0 m 13 ls []) := by
  have hx := C.1.1
  have hb := C.1.2.1
  intro n
  induction n with
  | zero => intro σ i1 v2 v3 v4 v5 bi1 h; exact absurd h (by simp [f_X9_fitsIn_13])
  | succ fuel ih =>
    intro σ i1 v2 v3 v4 v5 bi1 h H locs ls G hl
    rw [f_X9_fitsIn_13] at h
    refine lv_iload hx hb dX9_fitsIn_13 (lv_at hl 5 rfl) ?_
    refine lv_aload_n hx hb dX9_fitsIn_15 rfl (lv_at hl 1 rfl) ?_
    refine u_get (v := .int (σ (35 + 9 * i1) 4)) C G (obX_line bi1) (ci := 2) (N := 5) (Cn := RX2) (T := TX2) rfl fi_X9_fitsIn_2 4 (by decide) (by decide +kernel) rfl dX9_fitsIn_16 ?_
    refine lv_icmp_ge (tgt := 52) hx hb dX9_fitsIn_19 (by decide) (fun q => ?_) (fun q => ?_)
    · have h := u_pos q h
      refine lv_aload_n hx hb dX9_fitsIn_52 rfl (lv_at hl 1 rfl) ?_
      refine u_get (v := .ref (ad (35 + 9 * i1 + 1))) C G (obX_line bi1) (ci := 2) (N := 5) (Cn := RX2) (T := TX2) rfl fi_X9_fitsIn_2 0 (by decide) (by decide +kernel) rfl dX9_fitsIn_53 ?_
      refine lv_iload_n hx hb dX9_fitsIn_56 rfl (lv_at hl 3 rfl) ?_
      obtain ⟨g1, h⟩ := ui_of h
      refine u_aald C G (rrX_cells bi1) (t0 := 5) rfl rfl g1 dX9_fitsIn_57 (fun b2 => ?_)
      refine lv_iload_n hx hb dX9_fitsIn_58 rfl (lv_at hl 2 rfl) ?_
      obtain ⟨g3, h⟩ := ui_of h
      refine u_iald C G (arX_crow bi1 b2) (t0 := 0) rfl g3 dX9_fitsIn_59 ?_
      refine lv_iload hx hb dX9_fitsIn_60 (lv_at hl 4 rfl) ?_
      refine lv_iconst (v := (-1)) hx hb dX9_fitsIn_62 (by decide) ?_
      refine lv_ixor hx hb dX9_fitsIn_63 ?_
      refine lv_iand hx hb dX9_fitsIn_64 ?_
      refine lv_if_eq (tgt := 70) hx hb dX9_fitsIn_65 (by decide) (fun q => ?_) (fun q => ?_)
      · have h := u_pos q h
        obtain ⟨x4, ex4, h⟩ := ul_of h
        refine lv_iinc (v := x4) (lv' := [(3, .int x4), (0, .ref (ad 0)), (1, .ref (ad (35 + 9 * i1))), (2, .int v2), (4, .int v4), (5, .int v5)]) hx hb dX9_fitsIn_70 hl (k := 3) rfl (by rw [ex4]; rfl) (by decide) rfl (fun ls hl => ?_)
        refine lv_goto (tgt := 2) hx hb dX9_fitsIn_73 (by decide) ?_
        exact hk2 σ i1 v2 x4 bi1 h H locs ls G (lv_sub hl [1, 2, 3, 0] rfl)
      · have h := u_neg q h
        refine lv_iconst (v := 0) hx hb dX9_fitsIn_68 (by decide) ?_
        obtain ⟨rfl, rfl⟩ := u_end h
        exact u_zret hx hb hr hlk G (by decide) dX9_fitsIn_69
    · have h := u_neg q h
      refine lv_aload_n hx hb dX9_fitsIn_22 rfl (lv_at hl 1 rfl) ?_
      refine u_get (v := .ref (ad (35 + 9 * i1 + 8))) C G (obX_line bi1) (ci := 2) (N := 5) (Cn := RX2) (T := TX2) rfl fi_X9_fitsIn_2 3 (by decide) (by decide +kernel) rfl dX9_fitsIn_23 ?_
      refine lv_iload hx hb dX9_fitsIn_26 (lv_at hl 5 rfl) ?_
      obtain ⟨g5, h⟩ := ui_of h
      refine u_iald C G (arX_lc bi1) (t0 := 0) rfl g5 dX9_fitsIn_28 ?_
      refine lv_iload_n hx hb dX9_fitsIn_29 rfl (lv_at hl 3 rfl) ?_
      refine lv_icmp_ne (tgt := 46) hx hb dX9_fitsIn_30 (by decide) (fun q => ?_) (fun q => ?_)
      · have h := u_neg q h
        obtain ⟨x6, ex6, h⟩ := ul_of h
        refine lv_iinc (v := x6) (lv' := [(5, .int x6), (0, .ref (ad 0)), (1, .ref (ad (35 + 9 * i1))), (2, .int v2), (3, .int v3), (4, .int v4)]) hx hb dX9_fitsIn_46 hl (k := 5) rfl (by rw [ex6]; rfl) (by decide) rfl (fun ls hl => ?_)
        refine lv_goto (tgt := 13) hx hb dX9_fitsIn_49 (by decide) ?_
        exact ih σ i1 v2 v3 v4 x6 bi1 h H locs ls G (lv_sub hl [1, 2, 3, 4, 5, 0] rfl)
      · have h := u_pos q h
        refine lv_iload hx hb dX9_fitsIn_33 (lv_at hl 4 rfl) ?_
        refine lv_aload_n hx hb dX9_fitsIn_35 rfl (lv_at hl 0 rfl) ?_
        refine lv_aload_n hx hb dX9_fitsIn_36 rfl (lv_at hl 1 rfl) ?_
        refine lv_iload hx hb dX9_fitsIn_37 (lv_at hl 5 rfl) ?_
        refine lv_iload_n hx hb dX9_fitsIn_39 rfl (lv_at hl 2 rfl) ?_
        obtain ⟨r7, σ8, er7, h⟩ := ub_of h
        refine u_callVi (As := [.ref (ad (35 + 9 * i1)), .int v5, .int v2]) (rest := [.int v4]) C G (c_X9_layerCells l D ad cs C.2.2.1 σ i1 v5 v2 bi1 r7 σ8 er7) (cwV 3 C.1.2.2.2.2 gX9_fitsIn_X9_layerCells rfl rfl rfl (by decide +kernel) ⟨Nat.le_of_ble_eq_true rfl, Nat.le_of_ble_eq_true rfl⟩) obX_0 (ci := 9) (T := TX9) rfl rfl hl rfl (Nat.le_of_ble_eq_true rfl) dX9_fitsIn_40 (fun H locs G => ?_)
        refine lv_ior hx hb dX9_fitsIn_43 ?_
        obtain ⟨x9, ex9, h⟩ := ul_of h
        refine u_nmi ex9 ?_
        refine lv_istore (lv' := [(4, .int x9), (0, .ref (ad 0)), (1, .ref (ad (35 + 9 * i1))), (2, .int v2), (3, .int v3), (5, .int v5)]) hx hb dX9_fitsIn_44 hl (by decide) rfl (fun ls hl => ?_)
        obtain ⟨x10, ex10, h⟩ := ul_of h
        refine lv_iinc (v := x10) (lv' := [(5, .int x10), (4, .int x9), (0, .ref (ad 0)), (1, .ref (ad (35 + 9 * i1))), (2, .int v2), (3, .int v3)]) hx hb dX9_fitsIn_46 hl (k := 5) rfl (by rw [ex10]; rfl) (by decide) rfl (fun ls hl => ?_)
        refine lv_goto (tgt := 13) hx hb dX9_fitsIn_49 (by decide) ?_
        exact ih σ8 i1 v2 v3 x9 x10 bi1 h H locs ls G (lv_sub hl [2, 3, 4, 5, 1, 0] rfl)
set_option maxHeartbeats 4000000 in
set_option maxRecDepth 100000 in
theorem w_X9_fitsIn_2 {p : Program} {l : Launch} {e : Env} {s : State} {m : MethodId} {args : Array Value} {below : List Frame} {meth : Method} {c : Code} {D : va_G} {ad : Nat → Nat} {cs : Nat → ClassId} (C : uC p { frames := 2, cells := 0, slots := 0, locals := 47 } s m args c cX9_fitsIn 6 wsX9_fitsIn RX9 D vwCl (tyX cs) 99 ad (uAd 99 ad s.heap.size) 0 0) (hr : meth.sig.returnType = (some .boolean)) (hlk : meth.locks = false) {r : Int32} {σ' : St} :
    ∀ (n : Nat) (σ : St) (i1 : Nat) (v2 : Int32) (v3 : Int32) (bi1 : i1 < 4), f_X9_fitsIn_2 n σ i1 v2 v3 = some (r, σ') → ∀ (H : Heap) (locs : List Loc) (ls : Array Slot), uG D vwCl 99 ad (enX ad cs) (uAd 99 ad s.heap.size) s σ H locs → lv_has ls 6 [(0, .ref (ad 0)), (1, .ref (ad (35 + 9 * i1))), (2, .int v2), (3, .int v3)] → W p l e { frames := 2, cells := 0, slots := 0, locals := 47 } s m args below meth c H locs 0 0 (MQ below (uQi D vwCl 99 ad (enX ad cs) r σ' s.heap.size) args s 0 0 (uAd 99 ad s.heap.size)) (F0 m 2 ls []) := by
  have hx := C.1.1
  have hb := C.1.2.1
  intro n
  induction n with
  | zero => intro σ i1 v2 v3 bi1 h; exact absurd h (by simp [f_X9_fitsIn_2])
  | succ fuel ih =>
    intro σ i1 v2 v3 bi1 h H locs ls G hl
    rw [f_X9_fitsIn_2] at h
    refine lv_iload_n hx hb dX9_fitsIn_2 rfl (lv_at hl 3 rfl) ?_
    refine lv_iconst (v := 3) hx hb dX9_fitsIn_3 (by decide) ?_
    refine lv_icmp_gt (tgt := 76) hx hb dX9_fitsIn_4 (by decide) (fun q => ?_) (fun q => ?_)
    · have h := u_pos q h
      refine lv_iconst (v := 1) hx hb dX9_fitsIn_76 (by decide) ?_
      obtain ⟨rfl, rfl⟩ := u_end h
      exact u_zret hx hb hr hlk G (by decide) dX9_fitsIn_77
    · have h := u_neg q h
      refine lv_iconst (v := 0) hx hb dX9_fitsIn_7 (by decide) ?_
      refine lv_istore (lv' := [(4, .int 0), (0, .ref (ad 0)), (1, .ref (ad (35 + 9 * i1))), (2, .int v2), (3, .int v3)]) hx hb dX9_fitsIn_8 hl (by decide) rfl (fun ls hl => ?_)
      refine lv_iconst (v := 0) hx hb dX9_fitsIn_10 (by decide) ?_
      refine lv_istore (lv' := [(5, .int 0), (4, .int 0), (0, .ref (ad 0)), (1, .ref (ad (35 + 9 * i1))), (2, .int v2), (3, .int v3)]) hx hb dX9_fitsIn_11 hl (by decide) rfl (fun ls hl => ?_)
      exact w_X9_fitsIn_13 C hr hlk ih fu σ i1 v2 v3 0 0 bi1 h H locs ls G (lv_sub hl [2, 3, 4, 5, 1, 0] rfl)
set_option maxHeartbeats 4000000 in
set_option maxRecDepth 100000 in
theorem c_X9_fitsIn (l : Launch) (D : va_G) (ad : Nat → Nat) (cs : Nat → ClassId) (J : uJ 99 ad) (σ : St) (i1 : Nat) (v2 : Int32) (bi1 : i1 < 4) (r : Int32) (σ' : St) (h : f_X9_fitsIn σ i1 v2 = some (r, σ')) : uMi l yX9_fitsIn wsX9_fitsIn { frames := 2, cells := 0, slots := 0, locals := 47 } D vwCl (tyX cs) 99 ad (enX ad cs) [.ref (ad 0), .ref (ad (35 + 9 * i1)), .int v2] σ r σ' := by
  refine u_met (Qf := uQi D vwCl 99 ad (enX ad cs) r σ') (cc := cX9_fitsIn) (maxL := 6) (ret := (some .boolean)) (lv := [(0, .ref (ad 0)), (1, .ref (ad (35 + 9 * i1))), (2, .int v2)]) J (by decide) rfl (Nat.le_of_ble_eq_true rfl) rfl rfl rfl ?_
  intro p e s m args below meth c ls hx hb C hr hlk G hl
  unfold f_X9_fitsIn at h
  obtain ⟨H, eH⟩ : ∃ H, H = s.heap := ⟨_, rfl⟩
  obtain ⟨locs, eL⟩ : ∃ locs : List Loc, locs = [] := ⟨_, rfl⟩
  refine u_start eH eL G ?_
  clear G eH eL
  intro G
  refine lv_iconst (v := 1) hx hb dX9_fitsIn_0 (by decide) ?_
  refine lv_istore_n (lv' := [(3, .int 1), (0, .ref (ad 0)), (1, .ref (ad (35 + 9 * i1))), (2, .int v2)]) hx hb dX9_fitsIn_1 rfl hl (by decide) rfl (fun ls hl => ?_)
  exact w_X9_fitsIn_2 C hr hlk fu σ i1 v2 1 bi1 h H locs ls G (lv_sub hl [1, 2, 3, 0] rfl)
/-! X9_fadedIn -/
def f_X9_fadedIn_15 : Nat → St → Nat → Int32 → Int32 → Int32 → Int32 → Option (Int32 × St)
  | 0, _, _, _, _, _, _ => none
  | fuel + 1, σ, i1, v2, v3, v4, v5 =>
    if (σ (35 + 9 * i1) 4) ≤ v5 then
      some (v3, σ)
    else
      ub (f_X9_layerCells σ i1 v5 v2) fun r4 σ5 =>
      ub (f_J6_bitCount_0f7a4 σ5 (r4 &&& v4)) fun r6 σ7 =>
      ul (v3 + r6) fun x8 =>
      ui v5 3 <|
      ui (σ7 (35 + 9 * i1 + 8) v5.toNatClampNeg) 4 <|
      ui v2 10 <|
      ul (v4 ||| (σ7 (35 + 9 * i1 + 2 + (σ7 (35 + 9 * i1 + 8) v5.toNatClampNeg).toNatClampNeg) v2.toNatClampNeg)) fun x13 =>
      ul (v5 + 1) fun x14 =>
      f_X9_fadedIn_15 fuel σ7 i1 v2 x8 x13 x14
def f_X9_fadedIn (σ : St) (i1 : Nat) (v2 : Int32) : Option (Int32 × St) :=
  ui v2 10 <|
  ul (σ (35 + 9 * i1 + 2 + (0 : Int32).toNatClampNeg) v2.toNatClampNeg) fun x3 =>
  f_X9_fadedIn_15 fu σ i1 v2 0 x3 0
theorem fi_X9_fadedIn_2 : ∀ w ∈ u_ws RX2 TX2 5, w ∈ wsX9_fadedIn := by decide +kernel
set_option maxHeartbeats 4000000 in
set_option maxRecDepth 100000 in
theorem w_X9_fadedIn_15 {p : Program} {l : Launch} {e : Env} {s : State} {m : MethodId} {args : Array Value} {below : List Frame} {meth : Method} {c : Code} {D : va_G} {ad : Nat → Nat} {cs : Nat → ClassId} (C : uC p { frames := 2, cells := 0, slots := 0, locals := 47 } s m args c cX9_fadedIn 6 wsX9_fadedIn RX9 D vwCl (tyX cs) 99 ad (uAd 99 ad s.heap.size) 0 0) (hr : meth.sig.returnType = (some .int)) (hlk : meth.locks = false) {r : Int32} {σ' : St} :
    ∀ (n : Nat) (σ : St) (i1 : Nat) (v2 : Int32) (v3 : Int32) (v4 : Int32) (v5 : Int32) (bi1 : i1 < 4), f_X9_fadedIn_15 n σ i1 v2 v3 v4 v5 = some (r, σ') → ∀ (H : Heap) (locs : List Loc) (ls : Array Slot), uG D vwCl 99 ad (enX ad cs) (uAd 99 ad s.heap.size) s σ H locs → lv_has ls 6 [(0, .ref (ad 0)), (1, .ref (ad (35 + 9 * i1))), (2, .int v2), (3, .int v3), (4, .int v4), (5, .int v5)] → W p l e { frames := 2, cells := 0, slots := 0, locals := 47 } s m args below meth c H locs 0 0 (MQ below (uQi D vwCl 99 ad (enX ad cs) r σ' s.heap.size) args s 0 0 (uAd 99 ad s.heap.size)) (F0 m 15 ls []) := by
  have hx := C.1.1
  have hb := C.1.2.1
  intro n
  induction n with
  | zero => intro σ i1 v2 v3 v4 v5 bi1 h; exact absurd h (by simp [f_X9_fadedIn_15])
  | succ fuel ih =>
    intro σ i1 v2 v3 v4 v5 bi1 h H locs ls G hl
    rw [f_X9_fadedIn_15] at h
    refine lv_iload hx hb dX9_fadedIn_15 (lv_at hl 5 rfl) ?_
    refine lv_aload_n hx hb dX9_fadedIn_17 rfl (lv_at hl 1 rfl) ?_
    refine u_get (v := .int (σ (35 + 9 * i1) 4)) C G (obX_line bi1) (ci := 2) (N := 5) (Cn := RX2) (T := TX2) rfl fi_X9_fadedIn_2 4 (by decide) (by decide +kernel) rfl dX9_fadedIn_18 ?_
    refine lv_icmp_ge (tgt := 66) hx hb dX9_fadedIn_21 (by decide) (fun q => ?_) (fun q => ?_)
    · have h := u_pos q h
      refine lv_iload_n hx hb dX9_fadedIn_66 rfl (lv_at hl 3 rfl) ?_
      obtain ⟨rfl, rfl⟩ := u_end h
      exact u_iret hx hb hr hlk G dX9_fadedIn_67
    · have h := u_neg q h
      refine lv_iload_n hx hb dX9_fadedIn_24 rfl (lv_at hl 3 rfl) ?_
      refine lv_aload_n hx hb dX9_fadedIn_25 rfl (lv_at hl 0 rfl) ?_
      refine lv_aload_n hx hb dX9_fadedIn_26 rfl (lv_at hl 1 rfl) ?_
      refine lv_iload hx hb dX9_fadedIn_27 (lv_at hl 5 rfl) ?_
      refine lv_iload_n hx hb dX9_fadedIn_29 rfl (lv_at hl 2 rfl) ?_
      obtain ⟨r4, σ5, er4, h⟩ := ub_of h
      refine u_callVi (As := [.ref (ad (35 + 9 * i1)), .int v5, .int v2]) (rest := [.int v3]) C G (c_X9_layerCells l D ad cs C.2.2.1 σ i1 v5 v2 bi1 r4 σ5 er4) (cwV 3 C.1.2.2.2.2 gX9_fadedIn_X9_layerCells rfl rfl rfl (by decide +kernel) ⟨Nat.le_of_ble_eq_true rfl, Nat.le_of_ble_eq_true rfl⟩) obX_0 (ci := 9) (T := TX9) rfl rfl hl rfl (Nat.le_of_ble_eq_true rfl) dX9_fadedIn_30 (fun H locs G => ?_)
      refine lv_iload hx hb dX9_fadedIn_33 (lv_at hl 4 rfl) ?_
      refine lv_iand hx hb dX9_fadedIn_35 ?_
      obtain ⟨r6, σ7, er6, h⟩ := ub_of h
      refine u_callSi (As := [.int (r4 &&& v4)]) (rest := [.int v3]) C G (c_J6_bitCount_0f7a4 l D ad cs C.2.2.1 σ5 (r4 &&& v4) r6 σ7 er6) (va_cwS 1 C.1.2.2.2.2 gX9_fadedIn_J6_bitCount_0f7a4 rfl rfl rfl (by decide +kernel) ⟨Nat.le_of_ble_eq_true rfl, Nat.le_of_ble_eq_true rfl⟩) rfl hl rfl (Nat.le_of_ble_eq_true rfl) dX9_fadedIn_36 (fun H locs G => ?_)
      refine lv_iadd hx hb dX9_fadedIn_39 ?_
      obtain ⟨x8, ex8, h⟩ := ul_of h
      refine u_nmi ex8 ?_
      refine lv_istore_n (lv' := [(3, .int x8), (0, .ref (ad 0)), (1, .ref (ad (35 + 9 * i1))), (2, .int v2), (4, .int v4), (5, .int v5)]) hx hb dX9_fadedIn_40 rfl hl (by decide) rfl (fun ls hl => ?_)
      refine lv_iload hx hb dX9_fadedIn_41 (lv_at hl 4 rfl) ?_
      refine lv_aload_n hx hb dX9_fadedIn_43 rfl (lv_at hl 2 rfl) ?_
      refine u_get (v := .ref (ad (35 + 9 * i1 + 1))) C G (obX_line bi1) (ci := 2) (N := 5) (Cn := RX2) (T := TX2) rfl fi_X9_fadedIn_2 0 (by decide) (by decide +kernel) rfl dX9_fadedIn_44 ?_
      refine lv_aload_n hx hb dX9_fadedIn_47 rfl (lv_at hl 2 rfl) ?_
      refine u_get (v := .ref (ad (35 + 9 * i1 + 8))) C G (obX_line bi1) (ci := 2) (N := 5) (Cn := RX2) (T := TX2) rfl fi_X9_fadedIn_2 3 (by decide) (by decide +kernel) rfl dX9_fadedIn_48 ?_
      refine lv_iload hx hb dX9_fadedIn_51 (lv_at hl 5 rfl) ?_
      obtain ⟨g9, h⟩ := ui_of h
      refine u_iald C G (arX_lc bi1) (t0 := 0) rfl g9 dX9_fadedIn_53 ?_
      obtain ⟨g10, h⟩ := ui_of h
      refine u_aald C G (rrX_cells bi1) (t0 := 5) rfl rfl g10 dX9_fadedIn_54 (fun b11 => ?_)
      refine lv_iload_n hx hb dX9_fadedIn_55 rfl (lv_at hl 3 rfl) ?_
      obtain ⟨g12, h⟩ := ui_of h
      refine u_iald C G (arX_crow bi1 b11) (t0 := 0) rfl g12 dX9_fadedIn_56 ?_
      refine lv_ior hx hb dX9_fadedIn_57 ?_
      obtain ⟨x13, ex13, h⟩ := ul_of h
      refine u_nmi ex13 ?_
      refine lv_istore (lv' := [(4, .int x13), (3, .int x8), (0, .ref (ad 0)), (1, .ref (ad (35 + 9 * i1))), (2, .int v2), (5, .int v5)]) hx hb dX9_fadedIn_58 hl (by decide) rfl (fun ls hl => ?_)
      obtain ⟨x14, ex14, h⟩ := ul_of h
      refine lv_iinc (v := x14) (lv' := [(5, .int x14), (4, .int x13), (3, .int x8), (0, .ref (ad 0)), (1, .ref (ad (35 + 9 * i1))), (2, .int v2)]) hx hb dX9_fadedIn_60 hl (k := 5) rfl (by rw [ex14]; rfl) (by decide) rfl (fun ls hl => ?_)
      refine lv_goto (tgt := 15) hx hb dX9_fadedIn_63 (by decide) ?_
      exact ih σ7 i1 v2 x8 x13 x14 bi1 h H locs ls G (lv_sub hl [3, 4, 5, 2, 1, 0] rfl)
set_option maxHeartbeats 4000000 in
set_option maxRecDepth 100000 in
theorem c_X9_fadedIn (l : Launch) (D : va_G) (ad : Nat → Nat) (cs : Nat → ClassId) (J : uJ 99 ad) (σ : St) (i1 : Nat) (v2 : Int32) (bi1 : i1 < 4) (r : Int32) (σ' : St) (h : f_X9_fadedIn σ i1 v2 = some (r, σ')) : uMi l yX9_fadedIn wsX9_fadedIn { frames := 2, cells := 0, slots := 0, locals := 47 } D vwCl (tyX cs) 99 ad (enX ad cs) [.ref (ad 0), .ref (ad (35 + 9 * i1)), .int v2] σ r σ' := by
  refine u_met (Qf := uQi D vwCl 99 ad (enX ad cs) r σ') (cc := cX9_fadedIn) (maxL := 6) (ret := (some .int)) (lv := [(0, .ref (ad 0)), (1, .ref (ad (35 + 9 * i1))), (2, .int v2)]) J (by decide) rfl (Nat.le_of_ble_eq_true rfl) rfl rfl rfl ?_
  intro p e s m args below meth c ls hx hb C hr hlk G hl
  unfold f_X9_fadedIn at h
  obtain ⟨H, eH⟩ : ∃ H, H = s.heap := ⟨_, rfl⟩
  obtain ⟨locs, eL⟩ : ∃ locs : List Loc, locs = [] := ⟨_, rfl⟩
  refine u_start eH eL G ?_
  clear G eH eL
  intro G
  refine lv_iconst (v := 0) hx hb dX9_fadedIn_0 (by decide) ?_
  refine lv_istore_n (lv' := [(3, .int 0), (0, .ref (ad 0)), (1, .ref (ad (35 + 9 * i1))), (2, .int v2)]) hx hb dX9_fadedIn_1 rfl hl (by decide) rfl (fun ls hl => ?_)
  refine lv_aload_n hx hb dX9_fadedIn_2 rfl (lv_at hl 2 rfl) ?_
  refine u_get (v := .ref (ad (35 + 9 * i1 + 1))) C G (obX_line bi1) (ci := 2) (N := 5) (Cn := RX2) (T := TX2) rfl fi_X9_fadedIn_2 0 (by decide) (by decide +kernel) rfl dX9_fadedIn_3 ?_
  refine lv_iconst (v := 0) hx hb dX9_fadedIn_6 (by decide) ?_
  refine u_aald C G (rrX_cells bi1) (t0 := 5) rfl rfl (vp_lit (by decide)) dX9_fadedIn_7 (fun b1 => ?_)
  refine lv_iload_n hx hb dX9_fadedIn_8 rfl (lv_at hl 3 rfl) ?_
  obtain ⟨g2, h⟩ := ui_of h
  refine u_iald C G (arX_crow bi1 b1) (t0 := 0) rfl g2 dX9_fadedIn_9 ?_
  obtain ⟨x3, ex3, h⟩ := ul_of h
  refine u_nmi ex3 ?_
  refine lv_istore (lv' := [(4, .int x3), (3, .int 0), (0, .ref (ad 0)), (1, .ref (ad (35 + 9 * i1))), (2, .int v2)]) hx hb dX9_fadedIn_10 hl (by decide) rfl (fun ls hl => ?_)
  refine lv_iconst (v := 0) hx hb dX9_fadedIn_12 (by decide) ?_
  refine lv_istore (lv' := [(5, .int 0), (4, .int x3), (3, .int 0), (0, .ref (ad 0)), (1, .ref (ad (35 + 9 * i1))), (2, .int v2)]) hx hb dX9_fadedIn_13 hl (by decide) rfl (fun ls hl => ?_)
  exact w_X9_fadedIn_15 C hr hlk fu σ i1 v2 0 x3 0 bi1 h H locs ls G (lv_sub hl [3, 4, 5, 2, 1, 0] rfl)
/-! X9_faded -/
def f_X9_faded_13 : Nat → St → Int32 → Int32 → Int32 → Option (Int32 × St)
  | 0, _, _, _, _ => none
  | fuel + 1, σ, v1, v2, v3 =>
    if 10 ≤ v3 then
      some (v2, σ)
    else
      ui v1 4 <|
      ub (f_X9_fitsIn σ v1.toNatClampNeg v3) fun r5 σ6 =>
      if r5 = 0 then
        some (((-9) : Int32), σ6)
      else
        ui v1 4 <|
        ub (f_X9_fadedIn σ6 v1.toNatClampNeg v3) fun r9 σ10 =>
        ul (v2 + r9) fun x11 =>
        ul (v3 + 1) fun x12 =>
        f_X9_faded_13 fuel σ10 v1 x11 x12
def f_X9_faded (σ : St) (v1 : Int32) : Option (Int32 × St) :=
  ub (f_X9_isLine σ v1) fun r1 σ2 =>
  if r1 = 0 then
    some (((-1) : Int32), σ2)
  else
    f_X9_faded_13 fu σ2 v1 0 0
theorem fi_X9_faded_9 : ∀ w ∈ u_ws RX9 TX9 14, w ∈ wsX9_faded := by decide +kernel
set_option maxHeartbeats 4000000 in
set_option maxRecDepth 100000 in
theorem w_X9_faded_13 {p : Program} {l : Launch} {e : Env} {s : State} {m : MethodId} {args : Array Value} {below : List Frame} {meth : Method} {c : Code} {D : va_G} {ad : Nat → Nat} {cs : Nat → ClassId} (C : uC p { frames := 3, cells := 0, slots := 0, locals := 72 } s m args c cX9_faded 4 wsX9_faded RX9 D vwCl (tyX cs) 99 ad (uAd 99 ad s.heap.size) 0 0) (hr : meth.sig.returnType = (some .int)) (hlk : meth.locks = false) {r : Int32} {σ' : St} :
    ∀ (n : Nat) (σ : St) (v1 : Int32) (v2 : Int32) (v3 : Int32), f_X9_faded_13 n σ v1 v2 v3 = some (r, σ') → ∀ (H : Heap) (locs : List Loc) (ls : Array Slot), uG D vwCl 99 ad (enX ad cs) (uAd 99 ad s.heap.size) s σ H locs → lv_has ls 4 [(0, .ref (ad 0)), (1, .int v1), (2, .int v2), (3, .int v3)] → W p l e { frames := 3, cells := 0, slots := 0, locals := 72 } s m args below meth c H locs 0 0 (MQ below (uQi D vwCl 99 ad (enX ad cs) r σ' s.heap.size) args s 0 0 (uAd 99 ad s.heap.size)) (F0 m 13 ls []) := by
  have hx := C.1.1
  have hb := C.1.2.1
  intro n
  induction n with
  | zero => intro σ v1 v2 v3  h; exact absurd h (by simp [f_X9_faded_13])
  | succ fuel ih =>
    intro σ v1 v2 v3  h H locs ls G hl
    rw [f_X9_faded_13] at h
    refine lv_iload_n hx hb dX9_faded_13 rfl (lv_at hl 3 rfl) ?_
    refine lv_bipush (v := 10) hx hb dX9_faded_14 (by decide) ?_
    refine lv_icmp_ge (tgt := 56) hx hb dX9_faded_16 (by decide) (fun q => ?_) (fun q => ?_)
    · have h := u_pos q h
      refine lv_iload_n hx hb dX9_faded_56 rfl (lv_at hl 2 rfl) ?_
      obtain ⟨rfl, rfl⟩ := u_end h
      exact u_iret hx hb hr hlk G dX9_faded_57
    · have h := u_neg q h
      refine lv_aload_n hx hb dX9_faded_19 rfl (lv_at hl 0 rfl) ?_
      refine lv_aload_n hx hb dX9_faded_20 rfl (lv_at hl 0 rfl) ?_
      refine u_get (v := .ref (ad 34)) C G obX_0 (ci := 9) (N := 14) (Cn := RX9) (T := TX9) rfl fi_X9_faded_9 2 (by decide) (by decide +kernel) rfl dX9_faded_21 ?_
      refine lv_iload_n hx hb dX9_faded_24 rfl (lv_at hl 1 rfl) ?_
      obtain ⟨g3, h⟩ := ui_of h
      refine u_aald C G rrX_34 (t0 := 3) rfl rfl g3 dX9_faded_25 (fun b4 => ?_)
      refine lv_iload_n hx hb dX9_faded_26 rfl (lv_at hl 3 rfl) ?_
      obtain ⟨r5, σ6, er5, h⟩ := ub_of h
      refine u_callVi (As := [.ref (ad (35 + 9 * v1.toNatClampNeg)), .int v3]) (rest := []) C G (c_X9_fitsIn l D ad cs C.2.2.1 σ v1.toNatClampNeg v3 b4 r5 σ6 er5) (cwV 2 C.1.2.2.2.2 gX9_faded_X9_fitsIn rfl rfl rfl (by decide +kernel) ⟨Nat.le_of_ble_eq_true rfl, Nat.le_of_ble_eq_true rfl⟩) obX_0 (ci := 9) (T := TX9) rfl rfl hl rfl (Nat.le_of_ble_eq_true rfl) dX9_faded_27 (fun H locs G => ?_)
      refine lv_if_ne (tgt := 36) hx hb dX9_faded_30 (by decide) (fun q => ?_) (fun q => ?_)
      · have h := u_neg q h
        refine lv_iload_n hx hb dX9_faded_36 rfl (lv_at hl 2 rfl) ?_
        refine lv_aload_n hx hb dX9_faded_37 rfl (lv_at hl 0 rfl) ?_
        refine lv_aload_n hx hb dX9_faded_38 rfl (lv_at hl 0 rfl) ?_
        refine u_get (v := .ref (ad 34)) C G obX_0 (ci := 9) (N := 14) (Cn := RX9) (T := TX9) rfl fi_X9_faded_9 2 (by decide) (by decide +kernel) rfl dX9_faded_39 ?_
        refine lv_iload_n hx hb dX9_faded_42 rfl (lv_at hl 1 rfl) ?_
        obtain ⟨g7, h⟩ := ui_of h
        refine u_aald C G rrX_34 (t0 := 3) rfl rfl g7 dX9_faded_43 (fun b8 => ?_)
        refine lv_iload_n hx hb dX9_faded_44 rfl (lv_at hl 3 rfl) ?_
        obtain ⟨r9, σ10, er9, h⟩ := ub_of h
        refine u_callVi (As := [.ref (ad (35 + 9 * v1.toNatClampNeg)), .int v3]) (rest := [.int v2]) C G (c_X9_fadedIn l D ad cs C.2.2.1 σ6 v1.toNatClampNeg v3 b8 r9 σ10 er9) (cwV 2 C.1.2.2.2.2 gX9_faded_X9_fadedIn rfl rfl rfl (by decide +kernel) ⟨Nat.le_of_ble_eq_true rfl, Nat.le_of_ble_eq_true rfl⟩) obX_0 (ci := 9) (T := TX9) rfl rfl hl rfl (Nat.le_of_ble_eq_true rfl) dX9_faded_45 (fun H locs G => ?_)
        refine lv_iadd hx hb dX9_faded_48 ?_
        obtain ⟨x11, ex11, h⟩ := ul_of h
        refine u_nmi ex11 ?_
        refine lv_istore_n (lv' := [(2, .int x11), (0, .ref (ad 0)), (1, .int v1), (3, .int v3)]) hx hb dX9_faded_49 rfl hl (by decide) rfl (fun ls hl => ?_)
        obtain ⟨x12, ex12, h⟩ := ul_of h
        refine lv_iinc (v := x12) (lv' := [(3, .int x12), (2, .int x11), (0, .ref (ad 0)), (1, .int v1)]) hx hb dX9_faded_50 hl (k := 3) rfl (by rw [ex12]; rfl) (by decide) rfl (fun ls hl => ?_)
        refine lv_goto (tgt := 13) hx hb dX9_faded_53 (by decide) ?_
        exact ih σ10 v1 x11 x12 h H locs ls G (lv_sub hl [2, 3, 1, 0] rfl)
      · have h := u_pos q h
        refine lv_bipush (v := (-9)) hx hb dX9_faded_33 (by decide) ?_
        obtain ⟨rfl, rfl⟩ := u_end h
        exact u_iret hx hb hr hlk G dX9_faded_35
set_option maxHeartbeats 4000000 in
set_option maxRecDepth 100000 in
theorem c_X9_faded (l : Launch) (D : va_G) (ad : Nat → Nat) (cs : Nat → ClassId) (J : uJ 99 ad) (σ : St) (v1 : Int32) (r : Int32) (σ' : St) (h : f_X9_faded σ v1 = some (r, σ')) : uMi l yX9_faded wsX9_faded { frames := 3, cells := 0, slots := 0, locals := 72 } D vwCl (tyX cs) 99 ad (enX ad cs) [.ref (ad 0), .int v1] σ r σ' := by
  refine u_met (Qf := uQi D vwCl 99 ad (enX ad cs) r σ') (cc := cX9_faded) (maxL := 4) (ret := (some .int)) (lv := [(0, .ref (ad 0)), (1, .int v1)]) J (by decide) rfl (Nat.le_of_ble_eq_true rfl) rfl rfl rfl ?_
  intro p e s m args below meth c ls hx hb C hr hlk G hl
  unfold f_X9_faded at h
  obtain ⟨H, eH⟩ : ∃ H, H = s.heap := ⟨_, rfl⟩
  obtain ⟨locs, eL⟩ : ∃ locs : List Loc, locs = [] := ⟨_, rfl⟩
  refine u_start eH eL G ?_
  clear G eH eL
  intro G
  refine lv_iload_n hx hb dX9_faded_0 rfl (lv_at hl 1 rfl) ?_
  obtain ⟨r1, σ2, er1, h⟩ := ub_of h
  refine u_callSi (As := [.int v1]) (rest := []) C G (c_X9_isLine l D ad cs C.2.2.1 σ v1 r1 σ2 er1) (va_cwS 1 C.1.2.2.2.2 gX9_faded_X9_isLine rfl rfl rfl (by decide +kernel) ⟨Nat.le_of_ble_eq_true rfl, Nat.le_of_ble_eq_true rfl⟩) rfl hl rfl (Nat.le_of_ble_eq_true rfl) dX9_faded_1 (fun H locs G => ?_)
  refine lv_if_ne (tgt := 9) hx hb dX9_faded_4 (by decide) (fun q => ?_) (fun q => ?_)
  · have h := u_neg q h
    refine lv_iconst (v := 0) hx hb dX9_faded_9 (by decide) ?_
    refine lv_istore_n (lv' := [(2, .int 0), (0, .ref (ad 0)), (1, .int v1)]) hx hb dX9_faded_10 rfl hl (by decide) rfl (fun ls hl => ?_)
    refine lv_iconst (v := 0) hx hb dX9_faded_11 (by decide) ?_
    refine lv_istore_n (lv' := [(3, .int 0), (2, .int 0), (0, .ref (ad 0)), (1, .int v1)]) hx hb dX9_faded_12 rfl hl (by decide) rfl (fun ls hl => ?_)
    exact w_X9_faded_13 C hr hlk fu σ2 v1 0 0 h H locs ls G (lv_sub hl [2, 3, 1, 0] rfl)
  · have h := u_pos q h
    refine lv_iconst (v := (-1)) hx hb dX9_faded_7 (by decide) ?_
    obtain ⟨rfl, rfl⟩ := u_end h
    exact u_iret hx hb hr hlk G dX9_faded_8
/-! X9_addPlace -/
def f_X9_addPlace (σ : St) (i0 : Nat) (i1 : Nat) (v2 : Int32) (v3 : Int32) : Option (Unit × St) :=
  ui v2 160 <|
  ui v2 160 <|
  ub (f_X2_addLayer σ i0 (σ (86 + 5 * i1 + 1) v2.toNatClampNeg) (σ (86 + 5 * i1 + 2) v2.toNatClampNeg) v3) fun r3 σ4 =>
  some ((), σ4)
theorem fi_X9_addPlace_4 : ∀ w ∈ u_ws RX4 TX4 5, w ∈ wsX9_addPlace := by decide +kernel
set_option maxHeartbeats 4000000 in
set_option maxRecDepth 100000 in
theorem c_X9_addPlace (l : Launch) (D : va_G) (ad : Nat → Nat) (cs : Nat → ClassId) (J : uJ 99 ad) (σ : St) (i0 : Nat) (i1 : Nat) (v2 : Int32) (v3 : Int32) (bi0 : i0 < 4) (bi1 : i1 < 2) (r : Unit) (σ' : St) (h : f_X9_addPlace σ i0 i1 v2 v3 = some (r, σ')) : uMv l yX9_addPlace wsX9_addPlace { frames := 1, cells := 0, slots := 0, locals := 23 } D vwCl (tyX cs) 99 ad (enX ad cs) [.ref (ad (35 + 9 * i0)), .ref (ad (86 + 5 * i1)), .int v2, .int v3] σ σ' := by
  refine u_met (Qf := uQv D vwCl 99 ad (enX ad cs) σ') (cc := cX9_addPlace) (maxL := 4) (ret := none) (lv := [(0, .ref (ad (35 + 9 * i0))), (1, .ref (ad (86 + 5 * i1))), (2, .int v2), (3, .int v3)]) J (by decide) rfl (Nat.le_of_ble_eq_true rfl) rfl rfl rfl ?_
  intro p e s m args below meth c ls hx hb C hr hlk G hl
  unfold f_X9_addPlace at h
  obtain ⟨H, eH⟩ : ∃ H, H = s.heap := ⟨_, rfl⟩
  obtain ⟨locs, eL⟩ : ∃ locs : List Loc, locs = [] := ⟨_, rfl⟩
  refine u_start eH eL G ?_
  clear G eH eL
  intro G
  refine lv_aload_n hx hb dX9_addPlace_0 rfl (lv_at hl 0 rfl) ?_
  refine lv_aload_n hx hb dX9_addPlace_1 rfl (lv_at hl 1 rfl) ?_
  refine u_get (v := .ref (ad (86 + 5 * i1 + 1))) C G (obX_places bi1) (ci := 4) (N := 5) (Cn := RX4) (T := TX4) rfl fi_X9_addPlace_4 0 (by decide) (by decide +kernel) rfl dX9_addPlace_2 ?_
  refine lv_iload_n hx hb dX9_addPlace_5 rfl (lv_at hl 2 rfl) ?_
  obtain ⟨g1, h⟩ := ui_of h
  refine u_iald C G (arX_pl1 bi1) (t0 := 0) rfl g1 dX9_addPlace_6 ?_
  refine lv_aload_n hx hb dX9_addPlace_7 rfl (lv_at hl 1 rfl) ?_
  refine u_get (v := .ref (ad (86 + 5 * i1 + 2))) C G (obX_places bi1) (ci := 4) (N := 5) (Cn := RX4) (T := TX4) rfl fi_X9_addPlace_4 1 (by decide) (by decide +kernel) rfl dX9_addPlace_8 ?_
  refine lv_iload_n hx hb dX9_addPlace_11 rfl (lv_at hl 2 rfl) ?_
  obtain ⟨g2, h⟩ := ui_of h
  refine u_iald C G (arX_pl2 bi1) (t0 := 0) rfl g2 dX9_addPlace_12 ?_
  refine lv_iload_n hx hb dX9_addPlace_13 rfl (lv_at hl 3 rfl) ?_
  obtain ⟨r3, σ4, er3, h⟩ := ub_of h
  refine u_callVv (As := [.int (σ (86 + 5 * i1 + 1) v2.toNatClampNeg), .int (σ (86 + 5 * i1 + 2) v2.toNatClampNeg), .int v3]) (rest := []) C G (c_X2_addLayer l D ad cs C.2.2.1 σ i0 (σ (86 + 5 * i1 + 1) v2.toNatClampNeg) (σ (86 + 5 * i1 + 2) v2.toNatClampNeg) v3 bi0 r3 σ4 er3) (cwV 3 C.1.2.2.2.2 gX9_addPlace_X2_addLayer rfl rfl rfl (by decide +kernel) ⟨Nat.le_of_ble_eq_true rfl, Nat.le_of_ble_eq_true rfl⟩) (obX_line bi0) (ci := 2) (T := TX2) rfl rfl hl rfl (Nat.le_of_ble_eq_true rfl) dX9_addPlace_14 (fun H locs G => ?_)
  obtain ⟨-, rfl⟩ := u_end h
  exact u_vret hx hb hr hlk G dX9_addPlace_17
/-! X9_two -/
def f_X9_two (σ : St) (v1 : Int32) (v2 : Int32) (v3 : Int32) (v4 : Int32) : Option (Int32 × St) :=
  ub (f_X9_isLine σ v1) fun r1 σ2 =>
  if r1 = 0 then
    some (((-1) : Int32), σ2)
  else
    ub (f_X9_isColour σ2 v2) fun r3 σ4 =>
    if r3 = 0 then
      some (((-1) : Int32), σ4)
    else
      ub (f_X9_isColour σ4 v3) fun r5 σ6 =>
      if r5 = 0 then
        some (((-1) : Int32), σ6)
      else
        if v2 = v3 then
          some (((-1) : Int32), σ6)
        else
          if v4 < 1 then
            some (((-1) : Int32), σ6)
          else
            if v4 ≤ 20000 then
              ui v1 4 <|
              ub (f_X9_gatherPlaces σ6 v1.toNatClampNeg v2 0) fun r9 σ10 =>
              ub (f_X9_gatherPlaces σ10 v1.toNatClampNeg v3 1) fun r11 σ12 =>
              ub (f_X3_tries σ12 0 1) fun r13 σ14 =>
              if r13 ≤ v4 then
                ul ((6 - v2) - v3) fun x15 =>
                ub (f_X2_shows σ14 v1.toNatClampNeg x15) fun r16 σ17 =>
                if r16 = 0 then
                  ub (f_X3_seek σ17 0 1) fun r18 σ19 =>
                  if r18 = 0 then
                    some (((-9) : Int32), σ19)
                  else
                    ul (us σ19 (35 + 9 * v1.toNatClampNeg) 4 0) fun σ20 =>
                    if (σ20 96 3) = 0 then
                      ub (f_X9_addPlace σ20 v1.toNatClampNeg 1 (σ20 96 2) v3) fun r21 σ22 =>
                      ub (f_X9_addPlace σ22 v1.toNatClampNeg 0 (σ22 96 1) v2) fun r23 σ24 =>
                      some ((σ24 96 0), σ24)
                    else
                      ub (f_X9_addPlace σ20 v1.toNatClampNeg 0 (σ20 96 1) v2) fun r25 σ26 =>
                      ub (f_X9_addPlace σ26 v1.toNatClampNeg 1 (σ26 96 2) v3) fun r27 σ28 =>
                      some ((σ28 96 0), σ28)
                else
                  some (((-9) : Int32), σ17)
              else
                some (((-6) : Int32), σ14)
            else
              some (((-1) : Int32), σ6)
theorem fi_X9_two_2 : ∀ w ∈ u_ws RX2 TX2 5, w ∈ wsX9_two := by decide +kernel
theorem fi_X9_two_3 : ∀ w ∈ u_ws RX3 TX3 4, w ∈ wsX9_two := by decide +kernel
theorem fi_X9_two_9 : ∀ w ∈ u_ws RX9 TX9 14, w ∈ wsX9_two := by decide +kernel
set_option maxHeartbeats 4000000 in
set_option maxRecDepth 100000 in
theorem c_X9_two (l : Launch) (D : va_G) (ad : Nat → Nat) (cs : Nat → ClassId) (J : uJ 99 ad) (σ : St) (v1 : Int32) (v2 : Int32) (v3 : Int32) (v4 : Int32) (r : Int32) (σ' : St) (h : f_X9_two σ v1 v2 v3 v4 = some (r, σ')) : uMi l yX9_two wsX9_two { frames := 3, cells := 0, slots := 0, locals := 78 } D vwCl (tyX cs) 99 ad (enX ad cs) [.ref (ad 0), .int v1, .int v2, .int v3, .int v4] σ r σ' := by
  refine u_met (Qf := uQi D vwCl 99 ad (enX ad cs) r σ') (cc := cX9_two) (maxL := 7) (ret := (some .int)) (lv := [(0, .ref (ad 0)), (1, .int v1), (2, .int v2), (3, .int v3), (4, .int v4)]) J (by decide) rfl (Nat.le_of_ble_eq_true rfl) rfl rfl rfl ?_
  intro p e s m args below meth c ls hx hb C hr hlk G hl
  unfold f_X9_two at h
  obtain ⟨H, eH⟩ : ∃ H, H = s.heap := ⟨_, rfl⟩
  obtain ⟨locs, eL⟩ : ∃ locs : List Loc, locs = [] := ⟨_, rfl⟩
  refine u_start eH eL G ?_
  clear G eH eL
  intro G
  refine lv_iload_n hx hb dX9_two_0 rfl (lv_at hl 1 rfl) ?_
  obtain ⟨r1, σ2, er1, h⟩ := ub_of h
  refine u_callSi (As := [.int v1]) (rest := []) C G (c_X9_isLine l D ad cs C.2.2.1 σ v1 r1 σ2 er1) (va_cwS 1 C.1.2.2.2.2 gX9_two_X9_isLine rfl rfl rfl (by decide +kernel) ⟨Nat.le_of_ble_eq_true rfl, Nat.le_of_ble_eq_true rfl⟩) rfl hl rfl (Nat.le_of_ble_eq_true rfl) dX9_two_1 (fun H locs G => ?_)
  refine lv_if_eq (tgt := 26) hx hb dX9_two_4 (by decide) (fun q => ?_) (fun q => ?_)
  · have h := u_pos q h
    refine lv_iconst (v := (-1)) hx hb dX9_two_26 (by decide) ?_
    obtain ⟨rfl, rfl⟩ := u_end h
    exact u_iret hx hb hr hlk G dX9_two_27
  · have h := u_neg q h
    refine lv_iload_n hx hb dX9_two_7 rfl (lv_at hl 2 rfl) ?_
    obtain ⟨r3, σ4, er3, h⟩ := ub_of h
    refine u_callSi (As := [.int v2]) (rest := []) C G (c_X9_isColour l D ad cs C.2.2.1 σ2 v2 r3 σ4 er3) (va_cwS 1 C.1.2.2.2.2 gX9_two_X9_isColour rfl rfl rfl (by decide +kernel) ⟨Nat.le_of_ble_eq_true rfl, Nat.le_of_ble_eq_true rfl⟩) rfl hl rfl (Nat.le_of_ble_eq_true rfl) dX9_two_8 (fun H locs G => ?_)
    refine lv_if_eq (tgt := 26) hx hb dX9_two_11 (by decide) (fun q => ?_) (fun q => ?_)
    · have h := u_pos q h
      refine lv_iconst (v := (-1)) hx hb dX9_two_26 (by decide) ?_
      obtain ⟨rfl, rfl⟩ := u_end h
      exact u_iret hx hb hr hlk G dX9_two_27
    · have h := u_neg q h
      refine lv_iload_n hx hb dX9_two_14 rfl (lv_at hl 3 rfl) ?_
      obtain ⟨r5, σ6, er5, h⟩ := ub_of h
      refine u_callSi (As := [.int v3]) (rest := []) C G (c_X9_isColour l D ad cs C.2.2.1 σ4 v3 r5 σ6 er5) (va_cwS 1 C.1.2.2.2.2 gX9_two_X9_isColour rfl rfl rfl (by decide +kernel) ⟨Nat.le_of_ble_eq_true rfl, Nat.le_of_ble_eq_true rfl⟩) rfl hl rfl (Nat.le_of_ble_eq_true rfl) dX9_two_15 (fun H locs G => ?_)
      refine lv_if_eq (tgt := 26) hx hb dX9_two_18 (by decide) (fun q => ?_) (fun q => ?_)
      · have h := u_pos q h
        refine lv_iconst (v := (-1)) hx hb dX9_two_26 (by decide) ?_
        obtain ⟨rfl, rfl⟩ := u_end h
        exact u_iret hx hb hr hlk G dX9_two_27
      · have h := u_neg q h
        refine lv_iload_n hx hb dX9_two_21 rfl (lv_at hl 2 rfl) ?_
        refine lv_iload_n hx hb dX9_two_22 rfl (lv_at hl 3 rfl) ?_
        refine lv_icmp_ne (tgt := 28) hx hb dX9_two_23 (by decide) (fun q => ?_) (fun q => ?_)
        · have h := u_neg q h
          refine lv_iload hx hb dX9_two_28 (lv_at hl 4 rfl) ?_
          refine lv_iconst (v := 1) hx hb dX9_two_30 (by decide) ?_
          refine lv_icmp_lt (tgt := 42) hx hb dX9_two_31 (by decide) (fun q => ?_) (fun q => ?_)
          · have h := u_pos q h
            refine lv_iconst (v := (-1)) hx hb dX9_two_42 (by decide) ?_
            obtain ⟨rfl, rfl⟩ := u_end h
            exact u_iret hx hb hr hlk G dX9_two_43
          · have h := u_neg q h
            refine lv_iload hx hb dX9_two_34 (lv_at hl 4 rfl) ?_
            refine lv_sipush (v := 20000) hx hb dX9_two_36 (by decide) ?_
            refine lv_icmp_le (tgt := 44) hx hb dX9_two_39 (by decide) (fun q => ?_) (fun q => ?_)
            · have h := u_pos q h
              refine lv_aload_n hx hb dX9_two_44 rfl (lv_at hl 0 rfl) ?_
              refine u_get (v := .ref (ad 34)) C G obX_0 (ci := 9) (N := 14) (Cn := RX9) (T := TX9) rfl fi_X9_two_9 2 (by decide) (by decide +kernel) rfl dX9_two_45 ?_
              refine lv_iload_n hx hb dX9_two_48 rfl (lv_at hl 1 rfl) ?_
              obtain ⟨g7, h⟩ := ui_of h
              refine u_aald C G rrX_34 (t0 := 3) rfl rfl g7 dX9_two_49 (fun b8 => ?_)
              refine lv_astore (lv' := [(5, .ref (ad (35 + 9 * v1.toNatClampNeg))), (0, .ref (ad 0)), (1, .int v1), (2, .int v2), (3, .int v3), (4, .int v4)]) hx hb dX9_two_50 hl (by decide) rfl (fun ls hl => ?_)
              refine lv_aload_n hx hb dX9_two_52 rfl (lv_at hl 1 rfl) ?_
              refine lv_aload hx hb dX9_two_53 (lv_at hl 0 rfl) ?_
              refine lv_iload_n hx hb dX9_two_55 rfl (lv_at hl 3 rfl) ?_
              refine lv_aload_n hx hb dX9_two_56 rfl (lv_at hl 1 rfl) ?_
              refine u_get (v := .ref (ad (86 + 5 * 0))) C G obX_0 (ci := 9) (N := 14) (Cn := RX9) (T := TX9) rfl fi_X9_two_9 7 (by decide) (by decide +kernel) rfl dX9_two_57 ?_
              obtain ⟨r9, σ10, er9, h⟩ := ub_of h
              refine u_callVv (As := [.ref (ad (35 + 9 * v1.toNatClampNeg)), .int v2, .ref (ad (86 + 5 * 0))]) (rest := []) C G (c_X9_gatherPlaces l D ad cs C.2.2.1 σ6 v1.toNatClampNeg v2 0 b8 (show 0 < 2 by decide) r9 σ10 er9) (cwV 3 C.1.2.2.2.2 gX9_two_X9_gatherPlaces rfl rfl rfl (by decide +kernel) ⟨Nat.le_of_ble_eq_true rfl, Nat.le_of_ble_eq_true rfl⟩) obX_0 (ci := 9) (T := TX9) rfl rfl hl rfl (Nat.le_of_ble_eq_true rfl) dX9_two_60 (fun H locs G => ?_)
              refine lv_aload_n hx hb dX9_two_63 rfl (lv_at hl 1 rfl) ?_
              refine lv_aload hx hb dX9_two_64 (lv_at hl 0 rfl) ?_
              refine lv_iload_n hx hb dX9_two_66 rfl (lv_at hl 4 rfl) ?_
              refine lv_aload_n hx hb dX9_two_67 rfl (lv_at hl 1 rfl) ?_
              refine u_get (v := .ref (ad (86 + 5 * 1))) C G obX_0 (ci := 9) (N := 14) (Cn := RX9) (T := TX9) rfl fi_X9_two_9 8 (by decide) (by decide +kernel) rfl dX9_two_68 ?_
              obtain ⟨r11, σ12, er11, h⟩ := ub_of h
              refine u_callVv (As := [.ref (ad (35 + 9 * v1.toNatClampNeg)), .int v3, .ref (ad (86 + 5 * 1))]) (rest := []) C G (c_X9_gatherPlaces l D ad cs C.2.2.1 σ10 v1.toNatClampNeg v3 1 b8 (show 1 < 2 by decide) r11 σ12 er11) (cwV 3 C.1.2.2.2.2 gX9_two_X9_gatherPlaces rfl rfl rfl (by decide +kernel) ⟨Nat.le_of_ble_eq_true rfl, Nat.le_of_ble_eq_true rfl⟩) obX_0 (ci := 9) (T := TX9) rfl rfl hl rfl (Nat.le_of_ble_eq_true rfl) dX9_two_71 (fun H locs G => ?_)
              refine lv_aload_n hx hb dX9_two_74 rfl (lv_at hl 1 rfl) ?_
              refine u_get (v := .ref (ad 96)) C G obX_0 (ci := 9) (N := 14) (Cn := RX9) (T := TX9) rfl fi_X9_two_9 9 (by decide) (by decide +kernel) rfl dX9_two_75 ?_
              refine lv_aload_n hx hb dX9_two_78 rfl (lv_at hl 1 rfl) ?_
              refine u_get (v := .ref (ad (86 + 5 * 0))) C G obX_0 (ci := 9) (N := 14) (Cn := RX9) (T := TX9) rfl fi_X9_two_9 7 (by decide) (by decide +kernel) rfl dX9_two_79 ?_
              refine lv_aload_n hx hb dX9_two_82 rfl (lv_at hl 1 rfl) ?_
              refine u_get (v := .ref (ad (86 + 5 * 1))) C G obX_0 (ci := 9) (N := 14) (Cn := RX9) (T := TX9) rfl fi_X9_two_9 8 (by decide) (by decide +kernel) rfl dX9_two_83 ?_
              obtain ⟨r13, σ14, er13, h⟩ := ub_of h
              refine u_callVi (As := [.ref (ad (86 + 5 * 0)), .ref (ad (86 + 5 * 1))]) (rest := []) C G (c_X3_tries l D ad cs C.2.2.1 σ12 0 1 (show 0 < 2 by decide) (show 1 < 2 by decide) r13 σ14 er13) (cwV 2 C.1.2.2.2.2 gX9_two_X3_tries rfl rfl rfl (by decide +kernel) ⟨Nat.le_of_ble_eq_true rfl, Nat.le_of_ble_eq_true rfl⟩) obX_96 (ci := 3) (T := TX3) rfl rfl hl rfl (Nat.le_of_ble_eq_true rfl) dX9_two_86 (fun H locs G => ?_)
              refine lv_iload hx hb dX9_two_89 (lv_at hl 5 rfl) ?_
              refine lv_icmp_le (tgt := 97) hx hb dX9_two_91 (by decide) (fun q => ?_) (fun q => ?_)
              · have h := u_pos q h
                refine lv_bipush (v := 6) hx hb dX9_two_97 (by decide) ?_
                refine lv_iload_n hx hb dX9_two_99 rfl (lv_at hl 3 rfl) ?_
                refine lv_isub hx hb dX9_two_100 ?_
                refine lv_iload_n hx hb dX9_two_101 rfl (lv_at hl 4 rfl) ?_
                refine lv_isub hx hb dX9_two_102 ?_
                obtain ⟨x15, ex15, h⟩ := ul_of h
                refine u_nmi ex15 ?_
                refine lv_istore (lv' := [(6, .int x15), (5, .ref (ad (35 + 9 * v1.toNatClampNeg))), (0, .ref (ad 0)), (1, .int v1), (2, .int v2), (3, .int v3), (4, .int v4)]) hx hb dX9_two_103 hl (by decide) rfl (fun ls hl => ?_)
                refine lv_aload hx hb dX9_two_105 (lv_at hl 1 rfl) ?_
                refine lv_iload hx hb dX9_two_107 (lv_at hl 0 rfl) ?_
                obtain ⟨r16, σ17, er16, h⟩ := ub_of h
                refine u_callVi (As := [.int x15]) (rest := []) C G (c_X2_shows l D ad cs C.2.2.1 σ14 v1.toNatClampNeg x15 b8 r16 σ17 er16) (cwV 1 C.1.2.2.2.2 gX9_two_X2_shows rfl rfl rfl (by decide +kernel) ⟨Nat.le_of_ble_eq_true rfl, Nat.le_of_ble_eq_true rfl⟩) (obX_line b8) (ci := 2) (T := TX2) rfl rfl hl rfl (Nat.le_of_ble_eq_true rfl) dX9_two_109 (fun H locs G => ?_)
                refine lv_if_ne (tgt := 133) hx hb dX9_two_112 (by decide) (fun q => ?_) (fun q => ?_)
                · have h := u_neg q h
                  refine lv_bipush (v := (-9)) hx hb dX9_two_133 (by decide) ?_
                  obtain ⟨rfl, rfl⟩ := u_end h
                  exact u_iret hx hb hr hlk G dX9_two_135
                · have h := u_pos q h
                  refine lv_aload_n hx hb dX9_two_115 rfl (lv_at hl 2 rfl) ?_
                  refine u_get (v := .ref (ad 96)) C G obX_0 (ci := 9) (N := 14) (Cn := RX9) (T := TX9) rfl fi_X9_two_9 9 (by decide) (by decide +kernel) rfl dX9_two_116 ?_
                  refine lv_aload_n hx hb dX9_two_119 rfl (lv_at hl 2 rfl) ?_
                  refine u_get (v := .ref (ad (86 + 5 * 0))) C G obX_0 (ci := 9) (N := 14) (Cn := RX9) (T := TX9) rfl fi_X9_two_9 7 (by decide) (by decide +kernel) rfl dX9_two_120 ?_
                  refine lv_aload_n hx hb dX9_two_123 rfl (lv_at hl 2 rfl) ?_
                  refine u_get (v := .ref (ad (86 + 5 * 1))) C G obX_0 (ci := 9) (N := 14) (Cn := RX9) (T := TX9) rfl fi_X9_two_9 8 (by decide) (by decide +kernel) rfl dX9_two_124 ?_
                  obtain ⟨r18, σ19, er18, h⟩ := ub_of h
                  refine u_callVi (As := [.ref (ad (86 + 5 * 0)), .ref (ad (86 + 5 * 1))]) (rest := []) C G (c_X3_seek l D ad cs C.2.2.1 σ17 0 1 (show 0 < 2 by decide) (show 1 < 2 by decide) r18 σ19 er18) (cwV 2 C.1.2.2.2.2 gX9_two_X3_seek rfl rfl rfl (by decide +kernel) ⟨Nat.le_of_ble_eq_true rfl, Nat.le_of_ble_eq_true rfl⟩) obX_96 (ci := 3) (T := TX3) rfl rfl hl rfl (Nat.le_of_ble_eq_true rfl) dX9_two_127 (fun H locs G => ?_)
                  refine lv_if_ne (tgt := 136) hx hb dX9_two_130 (by decide) (fun q => ?_) (fun q => ?_)
                  · have h := u_neg q h
                    refine lv_aload hx hb dX9_two_136 (lv_at hl 1 rfl) ?_
                    refine lv_iconst (v := 0) hx hb dX9_two_138 (by decide) ?_
                    refine u_put (x := 0) (ty := .int) C G (obX_line b8) (ci := 2) (N := 5) (Cn := RX2) (T := TX2) rfl fi_X9_two_2 tyX2 tyX2_ok nmX2 4 (by decide) (by decide +kernel) rfl (by decide +kernel) rfl rfl (fun f => by simp) (fun f => rfl) dX9_two_139 (fun H locs G => ?_)
                    obtain ⟨σ20, eσ20, h⟩ := ul_of h
                    replace G := uG_eq eσ20 G
                    refine lv_aload_n hx hb dX9_two_142 rfl (lv_at hl 2 rfl) ?_
                    refine u_get (v := .ref (ad 96)) C G obX_0 (ci := 9) (N := 14) (Cn := RX9) (T := TX9) rfl fi_X9_two_9 9 (by decide) (by decide +kernel) rfl dX9_two_143 ?_
                    refine u_get (v := .int (σ20 96 3)) C G obX_96 (ci := 3) (N := 4) (Cn := RX3) (T := TX3) rfl fi_X9_two_3 3 (by decide) (by decide +kernel) rfl dX9_two_146 ?_
                    refine lv_if_eq (tgt := 189) hx hb dX9_two_149 (by decide) (fun q => ?_) (fun q => ?_)
                    · have h := u_pos q h
                      refine lv_aload hx hb dX9_two_189 (lv_at hl 1 rfl) ?_
                      refine lv_aload_n hx hb dX9_two_191 rfl (lv_at hl 2 rfl) ?_
                      refine u_get (v := .ref (ad (86 + 5 * 1))) C G obX_0 (ci := 9) (N := 14) (Cn := RX9) (T := TX9) rfl fi_X9_two_9 8 (by decide) (by decide +kernel) rfl dX9_two_192 ?_
                      refine lv_aload_n hx hb dX9_two_195 rfl (lv_at hl 2 rfl) ?_
                      refine u_get (v := .ref (ad 96)) C G obX_0 (ci := 9) (N := 14) (Cn := RX9) (T := TX9) rfl fi_X9_two_9 9 (by decide) (by decide +kernel) rfl dX9_two_196 ?_
                      refine u_get (v := .int (σ20 96 2)) C G obX_96 (ci := 3) (N := 4) (Cn := RX3) (T := TX3) rfl fi_X9_two_3 2 (by decide) (by decide +kernel) rfl dX9_two_199 ?_
                      refine lv_iload_n hx hb dX9_two_202 rfl (lv_at hl 5 rfl) ?_
                      obtain ⟨r21, σ22, er21, h⟩ := ub_of h
                      refine u_callSv (As := [.ref (ad (35 + 9 * v1.toNatClampNeg)), .ref (ad (86 + 5 * 1)), .int (σ20 96 2), .int v3]) (rest := []) C G (c_X9_addPlace l D ad cs C.2.2.1 σ20 v1.toNatClampNeg 1 (σ20 96 2) v3 b8 (show 1 < 2 by decide) r21 σ22 er21) (va_cwS 4 C.1.2.2.2.2 gX9_two_X9_addPlace rfl rfl rfl (by decide +kernel) ⟨Nat.le_of_ble_eq_true rfl, Nat.le_of_ble_eq_true rfl⟩) rfl hl rfl (Nat.le_of_ble_eq_true rfl) dX9_two_203 (fun H locs G => ?_)
                      refine lv_aload hx hb dX9_two_206 (lv_at hl 1 rfl) ?_
                      refine lv_aload_n hx hb dX9_two_208 rfl (lv_at hl 2 rfl) ?_
                      refine u_get (v := .ref (ad (86 + 5 * 0))) C G obX_0 (ci := 9) (N := 14) (Cn := RX9) (T := TX9) rfl fi_X9_two_9 7 (by decide) (by decide +kernel) rfl dX9_two_209 ?_
                      refine lv_aload_n hx hb dX9_two_212 rfl (lv_at hl 2 rfl) ?_
                      refine u_get (v := .ref (ad 96)) C G obX_0 (ci := 9) (N := 14) (Cn := RX9) (T := TX9) rfl fi_X9_two_9 9 (by decide) (by decide +kernel) rfl dX9_two_213 ?_
                      refine u_get (v := .int (σ22 96 1)) C G obX_96 (ci := 3) (N := 4) (Cn := RX3) (T := TX3) rfl fi_X9_two_3 1 (by decide) (by decide +kernel) rfl dX9_two_216 ?_
                      refine lv_iload_n hx hb dX9_two_219 rfl (lv_at hl 4 rfl) ?_
                      obtain ⟨r23, σ24, er23, h⟩ := ub_of h
                      refine u_callSv (As := [.ref (ad (35 + 9 * v1.toNatClampNeg)), .ref (ad (86 + 5 * 0)), .int (σ22 96 1), .int v2]) (rest := []) C G (c_X9_addPlace l D ad cs C.2.2.1 σ22 v1.toNatClampNeg 0 (σ22 96 1) v2 b8 (show 0 < 2 by decide) r23 σ24 er23) (va_cwS 4 C.1.2.2.2.2 gX9_two_X9_addPlace rfl rfl rfl (by decide +kernel) ⟨Nat.le_of_ble_eq_true rfl, Nat.le_of_ble_eq_true rfl⟩) rfl hl rfl (Nat.le_of_ble_eq_true rfl) dX9_two_220 (fun H locs G => ?_)
                      refine lv_aload_n hx hb dX9_two_223 rfl (lv_at hl 2 rfl) ?_
                      refine u_get (v := .ref (ad 96)) C G obX_0 (ci := 9) (N := 14) (Cn := RX9) (T := TX9) rfl fi_X9_two_9 9 (by decide) (by decide +kernel) rfl dX9_two_224 ?_
                      refine u_get (v := .int (σ24 96 0)) C G obX_96 (ci := 3) (N := 4) (Cn := RX3) (T := TX3) rfl fi_X9_two_3 0 (by decide) (by decide +kernel) rfl dX9_two_227 ?_
                      obtain ⟨rfl, rfl⟩ := u_end h
                      exact u_iret hx hb hr hlk G dX9_two_230
                    · have h := u_neg q h
                      refine lv_aload hx hb dX9_two_152 (lv_at hl 1 rfl) ?_
                      refine lv_aload_n hx hb dX9_two_154 rfl (lv_at hl 2 rfl) ?_
                      refine u_get (v := .ref (ad (86 + 5 * 0))) C G obX_0 (ci := 9) (N := 14) (Cn := RX9) (T := TX9) rfl fi_X9_two_9 7 (by decide) (by decide +kernel) rfl dX9_two_155 ?_
                      refine lv_aload_n hx hb dX9_two_158 rfl (lv_at hl 2 rfl) ?_
                      refine u_get (v := .ref (ad 96)) C G obX_0 (ci := 9) (N := 14) (Cn := RX9) (T := TX9) rfl fi_X9_two_9 9 (by decide) (by decide +kernel) rfl dX9_two_159 ?_
                      refine u_get (v := .int (σ20 96 1)) C G obX_96 (ci := 3) (N := 4) (Cn := RX3) (T := TX3) rfl fi_X9_two_3 1 (by decide) (by decide +kernel) rfl dX9_two_162 ?_
                      refine lv_iload_n hx hb dX9_two_165 rfl (lv_at hl 4 rfl) ?_
                      obtain ⟨r25, σ26, er25, h⟩ := ub_of h
                      refine u_callSv (As := [.ref (ad (35 + 9 * v1.toNatClampNeg)), .ref (ad (86 + 5 * 0)), .int (σ20 96 1), .int v2]) (rest := []) C G (c_X9_addPlace l D ad cs C.2.2.1 σ20 v1.toNatClampNeg 0 (σ20 96 1) v2 b8 (show 0 < 2 by decide) r25 σ26 er25) (va_cwS 4 C.1.2.2.2.2 gX9_two_X9_addPlace rfl rfl rfl (by decide +kernel) ⟨Nat.le_of_ble_eq_true rfl, Nat.le_of_ble_eq_true rfl⟩) rfl hl rfl (Nat.le_of_ble_eq_true rfl) dX9_two_166 (fun H locs G => ?_)
                      refine lv_aload hx hb dX9_two_169 (lv_at hl 1 rfl) ?_
                      refine lv_aload_n hx hb dX9_two_171 rfl (lv_at hl 2 rfl) ?_
                      refine u_get (v := .ref (ad (86 + 5 * 1))) C G obX_0 (ci := 9) (N := 14) (Cn := RX9) (T := TX9) rfl fi_X9_two_9 8 (by decide) (by decide +kernel) rfl dX9_two_172 ?_
                      refine lv_aload_n hx hb dX9_two_175 rfl (lv_at hl 2 rfl) ?_
                      refine u_get (v := .ref (ad 96)) C G obX_0 (ci := 9) (N := 14) (Cn := RX9) (T := TX9) rfl fi_X9_two_9 9 (by decide) (by decide +kernel) rfl dX9_two_176 ?_
                      refine u_get (v := .int (σ26 96 2)) C G obX_96 (ci := 3) (N := 4) (Cn := RX3) (T := TX3) rfl fi_X9_two_3 2 (by decide) (by decide +kernel) rfl dX9_two_179 ?_
                      refine lv_iload_n hx hb dX9_two_182 rfl (lv_at hl 5 rfl) ?_
                      obtain ⟨r27, σ28, er27, h⟩ := ub_of h
                      refine u_callSv (As := [.ref (ad (35 + 9 * v1.toNatClampNeg)), .ref (ad (86 + 5 * 1)), .int (σ26 96 2), .int v3]) (rest := []) C G (c_X9_addPlace l D ad cs C.2.2.1 σ26 v1.toNatClampNeg 1 (σ26 96 2) v3 b8 (show 1 < 2 by decide) r27 σ28 er27) (va_cwS 4 C.1.2.2.2.2 gX9_two_X9_addPlace rfl rfl rfl (by decide +kernel) ⟨Nat.le_of_ble_eq_true rfl, Nat.le_of_ble_eq_true rfl⟩) rfl hl rfl (Nat.le_of_ble_eq_true rfl) dX9_two_183 (fun H locs G => ?_)
                      refine lv_goto (tgt := 223) hx hb dX9_two_186 (by decide) ?_
                      refine lv_aload_n hx hb dX9_two_223 rfl (lv_at hl 2 rfl) ?_
                      refine u_get (v := .ref (ad 96)) C G obX_0 (ci := 9) (N := 14) (Cn := RX9) (T := TX9) rfl fi_X9_two_9 9 (by decide) (by decide +kernel) rfl dX9_two_224 ?_
                      refine u_get (v := .int (σ28 96 0)) C G obX_96 (ci := 3) (N := 4) (Cn := RX3) (T := TX3) rfl fi_X9_two_3 0 (by decide) (by decide +kernel) rfl dX9_two_227 ?_
                      obtain ⟨rfl, rfl⟩ := u_end h
                      exact u_iret hx hb hr hlk G dX9_two_230
                  · have h := u_pos q h
                    refine lv_bipush (v := (-9)) hx hb dX9_two_133 (by decide) ?_
                    obtain ⟨rfl, rfl⟩ := u_end h
                    exact u_iret hx hb hr hlk G dX9_two_135
              · have h := u_neg q h
                refine lv_bipush (v := (-6)) hx hb dX9_two_94 (by decide) ?_
                obtain ⟨rfl, rfl⟩ := u_end h
                exact u_iret hx hb hr hlk G dX9_two_96
            · have h := u_neg q h
              refine lv_iconst (v := (-1)) hx hb dX9_two_42 (by decide) ?_
              obtain ⟨rfl, rfl⟩ := u_end h
              exact u_iret hx hb hr hlk G dX9_two_43
        · have h := u_pos q h
          refine lv_iconst (v := (-1)) hx hb dX9_two_26 (by decide) ?_
          obtain ⟨rfl, rfl⟩ := u_end h
          exact u_iret hx hb hr hlk G dX9_two_27
/-! X9_renumber -/
def f_X9_renumber (σ : St) (v1 : Int32) (v2 : Int32) (v3 : Int32) : Option (Int32 × St) :=
  ub (f_X6_isYear σ v1) fun r1 σ2 =>
  if r1 = 0 then
    some (((-1) : Int32), σ2)
  else
    if v2 < 1 then
      some (((-1) : Int32), σ2)
    else
      if 3 < v2 then
        some (((-1) : Int32), σ2)
      else
        if v3 < (-100) then
          some (((-1) : Int32), σ2)
        else
          if v3 ≤ 100 then
            ub (f_X6_latestYear σ2) fun r3 σ4 =>
            if r3 < v1 then
              ub (f_X6_isFull σ4) fun r5 σ6 =>
              if r5 = 0 then
                ub (f_X6_add σ6 v1 v2 v3) fun r7 σ8 =>
                some ((σ8 71 3), σ8)
              else
                some (((-2) : Int32), σ6)
            else
              some (((-1) : Int32), σ4)
          else
            some (((-1) : Int32), σ2)
theorem fi_X9_renumber_6 : ∀ w ∈ u_ws RX6 TX6 6, w ∈ wsX9_renumber := by decide +kernel
theorem fi_X9_renumber_9 : ∀ w ∈ u_ws RX9 TX9 14, w ∈ wsX9_renumber := by decide +kernel
set_option maxHeartbeats 4000000 in
set_option maxRecDepth 100000 in
theorem c_X9_renumber (l : Launch) (D : va_G) (ad : Nat → Nat) (cs : Nat → ClassId) (J : uJ 99 ad) (σ : St) (v1 : Int32) (v2 : Int32) (v3 : Int32) (r : Int32) (σ' : St) (h : f_X9_renumber σ v1 v2 v3 = some (r, σ')) : uMi l yX9_renumber wsX9_renumber { frames := 1, cells := 0, slots := 0, locals := 23 } D vwCl (tyX cs) 99 ad (enX ad cs) [.ref (ad 0), .int v1, .int v2, .int v3] σ r σ' := by
  refine u_met (Qf := uQi D vwCl 99 ad (enX ad cs) r σ') (cc := cX9_renumber) (maxL := 4) (ret := (some .int)) (lv := [(0, .ref (ad 0)), (1, .int v1), (2, .int v2), (3, .int v3)]) J (by decide) rfl (Nat.le_of_ble_eq_true rfl) rfl rfl rfl ?_
  intro p e s m args below meth c ls hx hb C hr hlk G hl
  unfold f_X9_renumber at h
  obtain ⟨H, eH⟩ : ∃ H, H = s.heap := ⟨_, rfl⟩
  obtain ⟨locs, eL⟩ : ∃ locs : List Loc, locs = [] := ⟨_, rfl⟩
  refine u_start eH eL G ?_
  clear G eH eL
  intro G
  refine lv_iload_n hx hb dX9_renumber_0 rfl (lv_at hl 1 rfl) ?_
  obtain ⟨r1, σ2, er1, h⟩ := ub_of h
  refine u_callSi (As := [.int v1]) (rest := []) C G (c_X6_isYear l D ad cs C.2.2.1 σ v1 r1 σ2 er1) (va_cwS 1 C.1.2.2.2.2 gX9_renumber_X6_isYear rfl rfl rfl (by decide +kernel) ⟨Nat.le_of_ble_eq_true rfl, Nat.le_of_ble_eq_true rfl⟩) rfl hl rfl (Nat.le_of_ble_eq_true rfl) dX9_renumber_1 (fun H locs G => ?_)
  refine lv_if_eq (tgt := 29) hx hb dX9_renumber_4 (by decide) (fun q => ?_) (fun q => ?_)
  · have h := u_pos q h
    refine lv_iconst (v := (-1)) hx hb dX9_renumber_29 (by decide) ?_
    obtain ⟨rfl, rfl⟩ := u_end h
    exact u_iret hx hb hr hlk G dX9_renumber_30
  · have h := u_neg q h
    refine lv_iload_n hx hb dX9_renumber_7 rfl (lv_at hl 2 rfl) ?_
    refine lv_iconst (v := 1) hx hb dX9_renumber_8 (by decide) ?_
    refine lv_icmp_lt (tgt := 29) hx hb dX9_renumber_9 (by decide) (fun q => ?_) (fun q => ?_)
    · have h := u_pos q h
      refine lv_iconst (v := (-1)) hx hb dX9_renumber_29 (by decide) ?_
      obtain ⟨rfl, rfl⟩ := u_end h
      exact u_iret hx hb hr hlk G dX9_renumber_30
    · have h := u_neg q h
      refine lv_iload_n hx hb dX9_renumber_12 rfl (lv_at hl 2 rfl) ?_
      refine lv_iconst (v := 3) hx hb dX9_renumber_13 (by decide) ?_
      refine lv_icmp_gt (tgt := 29) hx hb dX9_renumber_14 (by decide) (fun q => ?_) (fun q => ?_)
      · have h := u_pos q h
        refine lv_iconst (v := (-1)) hx hb dX9_renumber_29 (by decide) ?_
        obtain ⟨rfl, rfl⟩ := u_end h
        exact u_iret hx hb hr hlk G dX9_renumber_30
      · have h := u_neg q h
        refine lv_iload_n hx hb dX9_renumber_17 rfl (lv_at hl 3 rfl) ?_
        refine lv_bipush (v := (-100)) hx hb dX9_renumber_18 (by decide) ?_
        refine lv_icmp_lt (tgt := 29) hx hb dX9_renumber_20 (by decide) (fun q => ?_) (fun q => ?_)
        · have h := u_pos q h
          refine lv_iconst (v := (-1)) hx hb dX9_renumber_29 (by decide) ?_
          obtain ⟨rfl, rfl⟩ := u_end h
          exact u_iret hx hb hr hlk G dX9_renumber_30
        · have h := u_neg q h
          refine lv_iload_n hx hb dX9_renumber_23 rfl (lv_at hl 3 rfl) ?_
          refine lv_bipush (v := 100) hx hb dX9_renumber_24 (by decide) ?_
          refine lv_icmp_le (tgt := 31) hx hb dX9_renumber_26 (by decide) (fun q => ?_) (fun q => ?_)
          · have h := u_pos q h
            refine lv_iload_n hx hb dX9_renumber_31 rfl (lv_at hl 1 rfl) ?_
            refine lv_aload_n hx hb dX9_renumber_32 rfl (lv_at hl 0 rfl) ?_
            refine u_get (v := .ref (ad 71)) C G obX_0 (ci := 9) (N := 14) (Cn := RX9) (T := TX9) rfl fi_X9_renumber_9 3 (by decide) (by decide +kernel) rfl dX9_renumber_33 ?_
            obtain ⟨r3, σ4, er3, h⟩ := ub_of h
            refine u_callVi (As := []) (rest := [.int v1]) C G (c_X6_latestYear l D ad cs C.2.2.1 σ2 r3 σ4 er3) (cwV 0 C.1.2.2.2.2 gX9_renumber_X6_latestYear rfl rfl rfl (by decide +kernel) ⟨Nat.le_of_ble_eq_true rfl, Nat.le_of_ble_eq_true rfl⟩) obX_71 (ci := 6) (T := TX6) rfl rfl hl rfl (Nat.le_of_ble_eq_true rfl) dX9_renumber_36 (fun H locs G => ?_)
            refine lv_icmp_gt (tgt := 44) hx hb dX9_renumber_39 (by decide) (fun q => ?_) (fun q => ?_)
            · have h := u_pos q h
              refine lv_aload_n hx hb dX9_renumber_44 rfl (lv_at hl 0 rfl) ?_
              refine u_get (v := .ref (ad 71)) C G obX_0 (ci := 9) (N := 14) (Cn := RX9) (T := TX9) rfl fi_X9_renumber_9 3 (by decide) (by decide +kernel) rfl dX9_renumber_45 ?_
              obtain ⟨r5, σ6, er5, h⟩ := ub_of h
              refine u_callVi (As := []) (rest := []) C G (c_X6_isFull l D ad cs C.2.2.1 σ4 r5 σ6 er5) (cwV 0 C.1.2.2.2.2 gX9_renumber_X6_isFull rfl rfl rfl (by decide +kernel) ⟨Nat.le_of_ble_eq_true rfl, Nat.le_of_ble_eq_true rfl⟩) obX_71 (ci := 6) (T := TX6) rfl rfl hl rfl (Nat.le_of_ble_eq_true rfl) dX9_renumber_48 (fun H locs G => ?_)
              refine lv_if_eq (tgt := 57) hx hb dX9_renumber_51 (by decide) (fun q => ?_) (fun q => ?_)
              · have h := u_pos q h
                refine lv_aload_n hx hb dX9_renumber_57 rfl (lv_at hl 0 rfl) ?_
                refine u_get (v := .ref (ad 71)) C G obX_0 (ci := 9) (N := 14) (Cn := RX9) (T := TX9) rfl fi_X9_renumber_9 3 (by decide) (by decide +kernel) rfl dX9_renumber_58 ?_
                refine lv_iload_n hx hb dX9_renumber_61 rfl (lv_at hl 1 rfl) ?_
                refine lv_iload_n hx hb dX9_renumber_62 rfl (lv_at hl 2 rfl) ?_
                refine lv_iload_n hx hb dX9_renumber_63 rfl (lv_at hl 3 rfl) ?_
                obtain ⟨r7, σ8, er7, h⟩ := ub_of h
                refine u_callVv (As := [.int v1, .int v2, .int v3]) (rest := []) C G (c_X6_add l D ad cs C.2.2.1 σ6 v1 v2 v3 r7 σ8 er7) (cwV 3 C.1.2.2.2.2 gX9_renumber_X6_add rfl rfl rfl (by decide +kernel) ⟨Nat.le_of_ble_eq_true rfl, Nat.le_of_ble_eq_true rfl⟩) obX_71 (ci := 6) (T := TX6) rfl rfl hl rfl (Nat.le_of_ble_eq_true rfl) dX9_renumber_64 (fun H locs G => ?_)
                refine lv_aload_n hx hb dX9_renumber_67 rfl (lv_at hl 0 rfl) ?_
                refine u_get (v := .ref (ad 71)) C G obX_0 (ci := 9) (N := 14) (Cn := RX9) (T := TX9) rfl fi_X9_renumber_9 3 (by decide) (by decide +kernel) rfl dX9_renumber_68 ?_
                refine u_get (v := .int (σ8 71 3)) C G obX_71 (ci := 6) (N := 6) (Cn := RX6) (T := TX6) rfl fi_X9_renumber_6 3 (by decide) (by decide +kernel) rfl dX9_renumber_71 ?_
                obtain ⟨rfl, rfl⟩ := u_end h
                exact u_iret hx hb hr hlk G dX9_renumber_74
              · have h := u_neg q h
                refine lv_bipush (v := (-2)) hx hb dX9_renumber_54 (by decide) ?_
                obtain ⟨rfl, rfl⟩ := u_end h
                exact u_iret hx hb hr hlk G dX9_renumber_56
            · have h := u_neg q h
              refine lv_iconst (v := (-1)) hx hb dX9_renumber_42 (by decide) ?_
              obtain ⟨rfl, rfl⟩ := u_end h
              exact u_iret hx hb hr hlk G dX9_renumber_43
          · have h := u_neg q h
            refine lv_iconst (v := (-1)) hx hb dX9_renumber_29 (by decide) ?_
            obtain ⟨rfl, rfl⟩ := u_end h
            exact u_iret hx hb hr hlk G dX9_renumber_30
/-! X9_number -/
def f_X9_number (σ : St) (v1 : Int32) (v2 : Int32) (v3 : Int32) : Option (Int32 × St) :=
  ub (f_X6_isNumber σ v1) fun r1 σ2 =>
  if r1 = 0 then
    some (((-1) : Int32), σ2)
  else
    ub (f_X6_isYear σ2 v2) fun r3 σ4 =>
    if r3 = 0 then
      some (((-1) : Int32), σ4)
    else
      ub (f_X6_isYear σ4 v3) fun r5 σ6 =>
      if r5 = 0 then
        some (((-1) : Int32), σ6)
      else
        ub (f_X6_became σ6 v1 v2 v3) fun r7 σ8 =>
        some (r7, σ8)
theorem fi_X9_number_9 : ∀ w ∈ u_ws RX9 TX9 14, w ∈ wsX9_number := by decide +kernel
set_option maxHeartbeats 4000000 in
set_option maxRecDepth 100000 in
theorem c_X9_number (l : Launch) (D : va_G) (ad : Nat → Nat) (cs : Nat → ClassId) (J : uJ 99 ad) (σ : St) (v1 : Int32) (v2 : Int32) (v3 : Int32) (r : Int32) (σ' : St) (h : f_X9_number σ v1 v2 v3 = some (r, σ')) : uMi l yX9_number wsX9_number { frames := 2, cells := 0, slots := 0, locals := 46 } D vwCl (tyX cs) 99 ad (enX ad cs) [.ref (ad 0), .int v1, .int v2, .int v3] σ r σ' := by
  refine u_met (Qf := uQi D vwCl 99 ad (enX ad cs) r σ') (cc := cX9_number) (maxL := 4) (ret := (some .int)) (lv := [(0, .ref (ad 0)), (1, .int v1), (2, .int v2), (3, .int v3)]) J (by decide) rfl (Nat.le_of_ble_eq_true rfl) rfl rfl rfl ?_
  intro p e s m args below meth c ls hx hb C hr hlk G hl
  unfold f_X9_number at h
  obtain ⟨H, eH⟩ : ∃ H, H = s.heap := ⟨_, rfl⟩
  obtain ⟨locs, eL⟩ : ∃ locs : List Loc, locs = [] := ⟨_, rfl⟩
  refine u_start eH eL G ?_
  clear G eH eL
  intro G
  refine lv_iload_n hx hb dX9_number_0 rfl (lv_at hl 1 rfl) ?_
  obtain ⟨r1, σ2, er1, h⟩ := ub_of h
  refine u_callSi (As := [.int v1]) (rest := []) C G (c_X6_isNumber l D ad cs C.2.2.1 σ v1 r1 σ2 er1) (va_cwS 1 C.1.2.2.2.2 gX9_number_X6_isNumber rfl rfl rfl (by decide +kernel) ⟨Nat.le_of_ble_eq_true rfl, Nat.le_of_ble_eq_true rfl⟩) rfl hl rfl (Nat.le_of_ble_eq_true rfl) dX9_number_1 (fun H locs G => ?_)
  refine lv_if_eq (tgt := 21) hx hb dX9_number_4 (by decide) (fun q => ?_) (fun q => ?_)
  · have h := u_pos q h
    refine lv_iconst (v := (-1)) hx hb dX9_number_21 (by decide) ?_
    obtain ⟨rfl, rfl⟩ := u_end h
    exact u_iret hx hb hr hlk G dX9_number_22
  · have h := u_neg q h
    refine lv_iload_n hx hb dX9_number_7 rfl (lv_at hl 2 rfl) ?_
    obtain ⟨r3, σ4, er3, h⟩ := ub_of h
    refine u_callSi (As := [.int v2]) (rest := []) C G (c_X6_isYear l D ad cs C.2.2.1 σ2 v2 r3 σ4 er3) (va_cwS 1 C.1.2.2.2.2 gX9_number_X6_isYear rfl rfl rfl (by decide +kernel) ⟨Nat.le_of_ble_eq_true rfl, Nat.le_of_ble_eq_true rfl⟩) rfl hl rfl (Nat.le_of_ble_eq_true rfl) dX9_number_8 (fun H locs G => ?_)
    refine lv_if_eq (tgt := 21) hx hb dX9_number_11 (by decide) (fun q => ?_) (fun q => ?_)
    · have h := u_pos q h
      refine lv_iconst (v := (-1)) hx hb dX9_number_21 (by decide) ?_
      obtain ⟨rfl, rfl⟩ := u_end h
      exact u_iret hx hb hr hlk G dX9_number_22
    · have h := u_neg q h
      refine lv_iload_n hx hb dX9_number_14 rfl (lv_at hl 3 rfl) ?_
      obtain ⟨r5, σ6, er5, h⟩ := ub_of h
      refine u_callSi (As := [.int v3]) (rest := []) C G (c_X6_isYear l D ad cs C.2.2.1 σ4 v3 r5 σ6 er5) (va_cwS 1 C.1.2.2.2.2 gX9_number_X6_isYear rfl rfl rfl (by decide +kernel) ⟨Nat.le_of_ble_eq_true rfl, Nat.le_of_ble_eq_true rfl⟩) rfl hl rfl (Nat.le_of_ble_eq_true rfl) dX9_number_15 (fun H locs G => ?_)
      refine lv_if_ne (tgt := 23) hx hb dX9_number_18 (by decide) (fun q => ?_) (fun q => ?_)
      · have h := u_neg q h
        refine lv_aload_n hx hb dX9_number_23 rfl (lv_at hl 0 rfl) ?_
        refine u_get (v := .ref (ad 71)) C G obX_0 (ci := 9) (N := 14) (Cn := RX9) (T := TX9) rfl fi_X9_number_9 3 (by decide) (by decide +kernel) rfl dX9_number_24 ?_
        refine lv_iload_n hx hb dX9_number_27 rfl (lv_at hl 1 rfl) ?_
        refine lv_iload_n hx hb dX9_number_28 rfl (lv_at hl 2 rfl) ?_
        refine lv_iload_n hx hb dX9_number_29 rfl (lv_at hl 3 rfl) ?_
        obtain ⟨r7, σ8, er7, h⟩ := ub_of h
        refine u_callVi (As := [.int v1, .int v2, .int v3]) (rest := []) C G (c_X6_became l D ad cs C.2.2.1 σ6 v1 v2 v3 r7 σ8 er7) (cwV 3 C.1.2.2.2.2 gX9_number_X6_became rfl rfl rfl (by decide +kernel) ⟨Nat.le_of_ble_eq_true rfl, Nat.le_of_ble_eq_true rfl⟩) obX_71 (ci := 6) (T := TX6) rfl rfl hl rfl (Nat.le_of_ble_eq_true rfl) dX9_number_30 (fun H locs G => ?_)
        obtain ⟨rfl, rfl⟩ := u_end h
        exact u_iret hx hb hr hlk G dX9_number_33
      · have h := u_pos q h
        refine lv_iconst (v := (-1)) hx hb dX9_number_21 (by decide) ?_
        obtain ⟨rfl, rfl⟩ := u_end h
        exact u_iret hx hb hr hlk G dX9_number_22
/-! X9_address -/
def f_X9_address (σ : St) (v1 : Int32) (v2 : Int32) : Option (Int32 × St) :=
  ub (f_X6_isNumber σ v1) fun r1 σ2 =>
  if r1 = 0 then
    some (((-1) : Int32), σ2)
  else
    ub (f_X6_isYear σ2 v2) fun r3 σ4 =>
    if r3 = 0 then
      some (((-1) : Int32), σ4)
    else
      ul (us σ4 71 4 v1) fun σ5 =>
      ul (us σ5 71 5 v2) fun σ6 =>
      some ((1 : Int32), σ6)
theorem fi_X9_address_6 : ∀ w ∈ u_ws RX6 TX6 6, w ∈ wsX9_address := by decide +kernel
theorem fi_X9_address_9 : ∀ w ∈ u_ws RX9 TX9 14, w ∈ wsX9_address := by decide +kernel
set_option maxHeartbeats 4000000 in
set_option maxRecDepth 100000 in
theorem c_X9_address (l : Launch) (D : va_G) (ad : Nat → Nat) (cs : Nat → ClassId) (J : uJ 99 ad) (σ : St) (v1 : Int32) (v2 : Int32) (r : Int32) (σ' : St) (h : f_X9_address σ v1 v2 = some (r, σ')) : uMi l yX9_address wsX9_address { frames := 1, cells := 0, slots := 0, locals := 20 } D vwCl (tyX cs) 99 ad (enX ad cs) [.ref (ad 0), .int v1, .int v2] σ r σ' := by
  refine u_met (Qf := uQi D vwCl 99 ad (enX ad cs) r σ') (cc := cX9_address) (maxL := 3) (ret := (some .int)) (lv := [(0, .ref (ad 0)), (1, .int v1), (2, .int v2)]) J (by decide) rfl (Nat.le_of_ble_eq_true rfl) rfl rfl rfl ?_
  intro p e s m args below meth c ls hx hb C hr hlk G hl
  unfold f_X9_address at h
  obtain ⟨H, eH⟩ : ∃ H, H = s.heap := ⟨_, rfl⟩
  obtain ⟨locs, eL⟩ : ∃ locs : List Loc, locs = [] := ⟨_, rfl⟩
  refine u_start eH eL G ?_
  clear G eH eL
  intro G
  refine lv_iload_n hx hb dX9_address_0 rfl (lv_at hl 1 rfl) ?_
  obtain ⟨r1, σ2, er1, h⟩ := ub_of h
  refine u_callSi (As := [.int v1]) (rest := []) C G (c_X6_isNumber l D ad cs C.2.2.1 σ v1 r1 σ2 er1) (va_cwS 1 C.1.2.2.2.2 gX9_address_X6_isNumber rfl rfl rfl (by decide +kernel) ⟨Nat.le_of_ble_eq_true rfl, Nat.le_of_ble_eq_true rfl⟩) rfl hl rfl (Nat.le_of_ble_eq_true rfl) dX9_address_1 (fun H locs G => ?_)
  refine lv_if_eq (tgt := 14) hx hb dX9_address_4 (by decide) (fun q => ?_) (fun q => ?_)
  · have h := u_pos q h
    refine lv_iconst (v := (-1)) hx hb dX9_address_14 (by decide) ?_
    obtain ⟨rfl, rfl⟩ := u_end h
    exact u_iret hx hb hr hlk G dX9_address_15
  · have h := u_neg q h
    refine lv_iload_n hx hb dX9_address_7 rfl (lv_at hl 2 rfl) ?_
    obtain ⟨r3, σ4, er3, h⟩ := ub_of h
    refine u_callSi (As := [.int v2]) (rest := []) C G (c_X6_isYear l D ad cs C.2.2.1 σ2 v2 r3 σ4 er3) (va_cwS 1 C.1.2.2.2.2 gX9_address_X6_isYear rfl rfl rfl (by decide +kernel) ⟨Nat.le_of_ble_eq_true rfl, Nat.le_of_ble_eq_true rfl⟩) rfl hl rfl (Nat.le_of_ble_eq_true rfl) dX9_address_8 (fun H locs G => ?_)
    refine lv_if_ne (tgt := 16) hx hb dX9_address_11 (by decide) (fun q => ?_) (fun q => ?_)
    · have h := u_neg q h
      refine lv_aload_n hx hb dX9_address_16 rfl (lv_at hl 0 rfl) ?_
      refine u_get (v := .ref (ad 71)) C G obX_0 (ci := 9) (N := 14) (Cn := RX9) (T := TX9) rfl fi_X9_address_9 3 (by decide) (by decide +kernel) rfl dX9_address_17 ?_
      refine lv_iload_n hx hb dX9_address_20 rfl (lv_at hl 1 rfl) ?_
      refine u_put (x := v1) (ty := .int) C G obX_71 (ci := 6) (N := 6) (Cn := RX6) (T := TX6) rfl fi_X9_address_6 tyX6 tyX6_ok nmX6 4 (by decide) (by decide +kernel) rfl (by decide +kernel) rfl rfl (fun f => by simp) (fun f => rfl) dX9_address_21 (fun H locs G => ?_)
      obtain ⟨σ5, eσ5, h⟩ := ul_of h
      replace G := uG_eq eσ5 G
      refine lv_aload_n hx hb dX9_address_24 rfl (lv_at hl 0 rfl) ?_
      refine u_get (v := .ref (ad 71)) C G obX_0 (ci := 9) (N := 14) (Cn := RX9) (T := TX9) rfl fi_X9_address_9 3 (by decide) (by decide +kernel) rfl dX9_address_25 ?_
      refine lv_iload_n hx hb dX9_address_28 rfl (lv_at hl 2 rfl) ?_
      refine u_put (x := v2) (ty := .int) C G obX_71 (ci := 6) (N := 6) (Cn := RX6) (T := TX6) rfl fi_X9_address_6 tyX6 tyX6_ok nmX6 5 (by decide) (by decide +kernel) rfl (by decide +kernel) rfl rfl (fun f => by simp) (fun f => rfl) dX9_address_29 (fun H locs G => ?_)
      obtain ⟨σ6, eσ6, h⟩ := ul_of h
      replace G := uG_eq eσ6 G
      refine lv_iconst (v := 1) hx hb dX9_address_32 (by decide) ?_
      obtain ⟨rfl, rfl⟩ := u_end h
      exact u_iret hx hb hr hlk G dX9_address_33
    · have h := u_pos q h
      refine lv_iconst (v := (-1)) hx hb dX9_address_14 (by decide) ?_
      obtain ⟨rfl, rfl⟩ := u_end h
      exact u_iret hx hb hr hlk G dX9_address_15
/-! X9_hasSpan -/
def f_X9_hasSpan (σ : St) (v1 : Int32) : Option (Int32 × St) :=
  ui v1 16 <|
  if (σ 12 v1.toNatClampNeg) = 0 then
    some ((1 : Int32), σ)
  else
    ui v1 16 <|
    ul (σ 16 v1.toNatClampNeg) fun x3 =>
    ub (f_X6_became σ (σ 71 4) (σ 71 5) x3) fun r4 σ5 =>
    if r4 = (-9) then
      some ((0 : Int32), σ5)
    else
      ui v1 16 <|
      ui v1 16 <|
      ub (f_X6_became σ5 (σ5 14 v1.toNatClampNeg) (σ5 15 v1.toNatClampNeg) x3) fun r8 σ9 =>
      if r4 = r8 then
        some ((1 : Int32), σ9)
      else
        some ((0 : Int32), σ9)
theorem fi_X9_hasSpan_6 : ∀ w ∈ u_ws RX6 TX6 6, w ∈ wsX9_hasSpan := by decide +kernel
theorem fi_X9_hasSpan_8 : ∀ w ∈ u_ws RX8 TX8 10, w ∈ wsX9_hasSpan := by decide +kernel
theorem fi_X9_hasSpan_9 : ∀ w ∈ u_ws RX9 TX9 14, w ∈ wsX9_hasSpan := by decide +kernel
set_option maxHeartbeats 4000000 in
set_option maxRecDepth 100000 in
theorem c_X9_hasSpan (l : Launch) (D : va_G) (ad : Nat → Nat) (cs : Nat → ClassId) (J : uJ 99 ad) (σ : St) (v1 : Int32) (r : Int32) (σ' : St) (h : f_X9_hasSpan σ v1 = some (r, σ')) : uMi l yX9_hasSpan wsX9_hasSpan { frames := 2, cells := 0, slots := 0, locals := 46 } D vwCl (tyX cs) 99 ad (enX ad cs) [.ref (ad 0), .int v1] σ r σ' := by
  refine u_met (Qf := uQi D vwCl 99 ad (enX ad cs) r σ') (cc := cX9_hasSpan) (maxL := 4) (ret := (some .boolean)) (lv := [(0, .ref (ad 0)), (1, .int v1)]) J (by decide) rfl (Nat.le_of_ble_eq_true rfl) rfl rfl rfl ?_
  intro p e s m args below meth c ls hx hb C hr hlk G hl
  unfold f_X9_hasSpan at h
  obtain ⟨H, eH⟩ : ∃ H, H = s.heap := ⟨_, rfl⟩
  obtain ⟨locs, eL⟩ : ∃ locs : List Loc, locs = [] := ⟨_, rfl⟩
  refine u_start eH eL G ?_
  clear G eH eL
  intro G
  refine lv_aload_n hx hb dX9_hasSpan_0 rfl (lv_at hl 0 rfl) ?_
  refine u_get (v := .ref (ad 8)) C G obX_0 (ci := 9) (N := 14) (Cn := RX9) (T := TX9) rfl fi_X9_hasSpan_9 1 (by decide) (by decide +kernel) rfl dX9_hasSpan_1 ?_
  refine u_get (v := .ref (ad 12)) C G obX_8 (ci := 8) (N := 10) (Cn := RX8) (T := TX8) rfl fi_X9_hasSpan_8 3 (by decide) (by decide +kernel) rfl dX9_hasSpan_4 ?_
  refine lv_iload_n hx hb dX9_hasSpan_7 rfl (lv_at hl 1 rfl) ?_
  obtain ⟨g1, h⟩ := ui_of h
  refine u_iald C G arX_12 (t0 := 0) rfl g1 dX9_hasSpan_8 ?_
  refine lv_if_ne (tgt := 14) hx hb dX9_hasSpan_9 (by decide) (fun q => ?_) (fun q => ?_)
  · have h := u_neg q h
    refine lv_aload_n hx hb dX9_hasSpan_14 rfl (lv_at hl 0 rfl) ?_
    refine u_get (v := .ref (ad 8)) C G obX_0 (ci := 9) (N := 14) (Cn := RX9) (T := TX9) rfl fi_X9_hasSpan_9 1 (by decide) (by decide +kernel) rfl dX9_hasSpan_15 ?_
    refine u_get (v := .ref (ad 16)) C G obX_8 (ci := 8) (N := 10) (Cn := RX8) (T := TX8) rfl fi_X9_hasSpan_8 7 (by decide) (by decide +kernel) rfl dX9_hasSpan_18 ?_
    refine lv_iload_n hx hb dX9_hasSpan_21 rfl (lv_at hl 1 rfl) ?_
    obtain ⟨g2, h⟩ := ui_of h
    refine u_iald C G arX_16 (t0 := 0) rfl g2 dX9_hasSpan_22 ?_
    obtain ⟨x3, ex3, h⟩ := ul_of h
    refine u_nmi ex3 ?_
    refine lv_istore_n (lv' := [(2, .int x3), (0, .ref (ad 0)), (1, .int v1)]) hx hb dX9_hasSpan_23 rfl hl (by decide) rfl (fun ls hl => ?_)
    refine lv_aload_n hx hb dX9_hasSpan_24 rfl (lv_at hl 1 rfl) ?_
    refine u_get (v := .ref (ad 71)) C G obX_0 (ci := 9) (N := 14) (Cn := RX9) (T := TX9) rfl fi_X9_hasSpan_9 3 (by decide) (by decide +kernel) rfl dX9_hasSpan_25 ?_
    refine lv_aload_n hx hb dX9_hasSpan_28 rfl (lv_at hl 1 rfl) ?_
    refine u_get (v := .ref (ad 71)) C G obX_0 (ci := 9) (N := 14) (Cn := RX9) (T := TX9) rfl fi_X9_hasSpan_9 3 (by decide) (by decide +kernel) rfl dX9_hasSpan_29 ?_
    refine u_get (v := .int (σ 71 4)) C G obX_71 (ci := 6) (N := 6) (Cn := RX6) (T := TX6) rfl fi_X9_hasSpan_6 4 (by decide) (by decide +kernel) rfl dX9_hasSpan_32 ?_
    refine lv_aload_n hx hb dX9_hasSpan_35 rfl (lv_at hl 1 rfl) ?_
    refine u_get (v := .ref (ad 71)) C G obX_0 (ci := 9) (N := 14) (Cn := RX9) (T := TX9) rfl fi_X9_hasSpan_9 3 (by decide) (by decide +kernel) rfl dX9_hasSpan_36 ?_
    refine u_get (v := .int (σ 71 5)) C G obX_71 (ci := 6) (N := 6) (Cn := RX6) (T := TX6) rfl fi_X9_hasSpan_6 5 (by decide) (by decide +kernel) rfl dX9_hasSpan_39 ?_
    refine lv_iload_n hx hb dX9_hasSpan_42 rfl (lv_at hl 0 rfl) ?_
    obtain ⟨r4, σ5, er4, h⟩ := ub_of h
    refine u_callVi (As := [.int (σ 71 4), .int (σ 71 5), .int x3]) (rest := []) C G (c_X6_became l D ad cs C.2.2.1 σ (σ 71 4) (σ 71 5) x3 r4 σ5 er4) (cwV 3 C.1.2.2.2.2 gX9_hasSpan_X6_became rfl rfl rfl (by decide +kernel) ⟨Nat.le_of_ble_eq_true rfl, Nat.le_of_ble_eq_true rfl⟩) obX_71 (ci := 6) (T := TX6) rfl rfl hl rfl (Nat.le_of_ble_eq_true rfl) dX9_hasSpan_43 (fun H locs G => ?_)
    refine lv_istore_n (lv' := [(3, .int r4), (2, .int x3), (0, .ref (ad 0)), (1, .int v1)]) hx hb dX9_hasSpan_46 rfl hl (by decide) rfl (fun ls hl => ?_)
    refine lv_iload_n hx hb dX9_hasSpan_47 rfl (lv_at hl 0 rfl) ?_
    refine lv_bipush (v := (-9)) hx hb dX9_hasSpan_48 (by decide) ?_
    refine lv_icmp_eq (tgt := 87) hx hb dX9_hasSpan_50 (by decide) (fun q => ?_) (fun q => ?_)
    · have h := u_pos q h
      refine lv_iconst (v := 0) hx hb dX9_hasSpan_87 (by decide) ?_
      obtain ⟨rfl, rfl⟩ := u_end h
      exact u_zret hx hb hr hlk G (by decide) dX9_hasSpan_88
    · have h := u_neg q h
      refine lv_iload_n hx hb dX9_hasSpan_53 rfl (lv_at hl 0 rfl) ?_
      refine lv_aload_n hx hb dX9_hasSpan_54 rfl (lv_at hl 2 rfl) ?_
      refine u_get (v := .ref (ad 71)) C G obX_0 (ci := 9) (N := 14) (Cn := RX9) (T := TX9) rfl fi_X9_hasSpan_9 3 (by decide) (by decide +kernel) rfl dX9_hasSpan_55 ?_
      refine lv_aload_n hx hb dX9_hasSpan_58 rfl (lv_at hl 2 rfl) ?_
      refine u_get (v := .ref (ad 8)) C G obX_0 (ci := 9) (N := 14) (Cn := RX9) (T := TX9) rfl fi_X9_hasSpan_9 1 (by decide) (by decide +kernel) rfl dX9_hasSpan_59 ?_
      refine u_get (v := .ref (ad 14)) C G obX_8 (ci := 8) (N := 10) (Cn := RX8) (T := TX8) rfl fi_X9_hasSpan_8 5 (by decide) (by decide +kernel) rfl dX9_hasSpan_62 ?_
      refine lv_iload_n hx hb dX9_hasSpan_65 rfl (lv_at hl 3 rfl) ?_
      obtain ⟨g6, h⟩ := ui_of h
      refine u_iald C G arX_14 (t0 := 0) rfl g6 dX9_hasSpan_66 ?_
      refine lv_aload_n hx hb dX9_hasSpan_67 rfl (lv_at hl 2 rfl) ?_
      refine u_get (v := .ref (ad 8)) C G obX_0 (ci := 9) (N := 14) (Cn := RX9) (T := TX9) rfl fi_X9_hasSpan_9 1 (by decide) (by decide +kernel) rfl dX9_hasSpan_68 ?_
      refine u_get (v := .ref (ad 15)) C G obX_8 (ci := 8) (N := 10) (Cn := RX8) (T := TX8) rfl fi_X9_hasSpan_8 6 (by decide) (by decide +kernel) rfl dX9_hasSpan_71 ?_
      refine lv_iload_n hx hb dX9_hasSpan_74 rfl (lv_at hl 3 rfl) ?_
      obtain ⟨g7, h⟩ := ui_of h
      refine u_iald C G arX_15 (t0 := 0) rfl g7 dX9_hasSpan_75 ?_
      refine lv_iload_n hx hb dX9_hasSpan_76 rfl (lv_at hl 1 rfl) ?_
      obtain ⟨r8, σ9, er8, h⟩ := ub_of h
      refine u_callVi (As := [.int (σ5 14 v1.toNatClampNeg), .int (σ5 15 v1.toNatClampNeg), .int x3]) (rest := [.int r4]) C G (c_X6_became l D ad cs C.2.2.1 σ5 (σ5 14 v1.toNatClampNeg) (σ5 15 v1.toNatClampNeg) x3 r8 σ9 er8) (cwV 3 C.1.2.2.2.2 gX9_hasSpan_X6_became rfl rfl rfl (by decide +kernel) ⟨Nat.le_of_ble_eq_true rfl, Nat.le_of_ble_eq_true rfl⟩) obX_71 (ci := 6) (T := TX6) rfl rfl hl rfl (Nat.le_of_ble_eq_true rfl) dX9_hasSpan_77 (fun H locs G => ?_)
      refine lv_icmp_ne (tgt := 87) hx hb dX9_hasSpan_80 (by decide) (fun q => ?_) (fun q => ?_)
      · have h := u_neg q h
        refine lv_iconst (v := 0) hx hb dX9_hasSpan_87 (by decide) ?_
        obtain ⟨rfl, rfl⟩ := u_end h
        exact u_zret hx hb hr hlk G (by decide) dX9_hasSpan_88
      · have h := u_pos q h
        refine lv_iconst (v := 1) hx hb dX9_hasSpan_83 (by decide) ?_
        refine lv_goto (tgt := 88) hx hb dX9_hasSpan_84 (by decide) ?_
        obtain ⟨rfl, rfl⟩ := u_end h
        exact u_zret hx hb hr hlk G (by decide) dX9_hasSpan_88
  · have h := u_pos q h
    refine lv_iconst (v := 1) hx hb dX9_hasSpan_12 (by decide) ?_
    obtain ⟨rfl, rfl⟩ := u_end h
    exact u_zret hx hb hr hlk G (by decide) dX9_hasSpan_13
