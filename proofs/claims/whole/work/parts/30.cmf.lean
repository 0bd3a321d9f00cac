/-! X10_light -/
def f_X10_light (σ : St) (v1 : Int32) (v2 : Int32) (v3 : Int32) (v4 : Int32) : Option (Int32 × St) :=
  ub (f_X10_in σ v1 (0 : Int32) (5 : Int32)) fun r1 σ2 =>
  if r1 = 0 then
    some (((-1) : Int32), σ2)
  else
    ub (f_X10_isLine σ2 v2) fun r3 σ4 =>
    if r3 = 0 then
      some (((-1) : Int32), σ4)
    else
      ub (f_X10_in σ4 v4 (0 : Int32) (32767 : Int32)) fun r5 σ6 =>
      if r5 = 0 then
        some (((-1) : Int32), σ6)
      else
        if (σ6 0 32) = 30 then
          some (((-2) : Int32), σ6)
        else
          ub (f_X10_isSlot σ6 v3) fun r7 σ8 =>
          if r7 = 0 then
            ub (f_X10_meets σ8 (2 : Int32)) fun r18 σ19 =>
            some (r18, σ19)
          else
            ui (σ8 0 32) 30 <|
            ul (us σ8 25 (σ8 0 32).toNatClampNeg v1) fun σ10 =>
            ui (σ10 0 32) 30 <|
            ul (us σ10 26 (σ10 0 32).toNatClampNeg v2) fun σ12 =>
            ui (σ12 0 32) 30 <|
            ul (us σ12 27 (σ12 0 32).toNatClampNeg v3) fun σ14 =>
            ui (σ14 0 32) 30 <|
            ul (us σ14 28 (σ14 0 32).toNatClampNeg v4) fun σ16 =>
            ul (us σ16 0 32 ((σ16 0 32) + 1)) fun σ17 =>
            some ((σ17 0 32), σ17)
theorem fi_X10_light_10 : ∀ w ∈ u_ws RX10 TX10 44, w ∈ wsX10_light := by decide +kernel
set_option maxHeartbeats 4000000 in
set_option maxRecDepth 100000 in
theorem c_X10_light (l : Launch) (D : va_G) (ad : Nat → Nat) (cs : Nat → ClassId) (J : uJ 34 ad) (σ : St) (v1 : Int32) (v2 : Int32) (v3 : Int32) (v4 : Int32) (r : Int32) (σ' : St) (h : f_X10_light σ v1 v2 v3 v4 = some (r, σ')) : uMi l yX10_light wsX10_light { frames := 2, cells := 0, slots := 0, locals := 42 } D vwCl (tyM cs) 34 ad (enM ad cs) [.ref (ad 0), .int v1, .int v2, .int v3, .int v4] σ r σ' := by
  refine u_met (Qf := uQi D vwCl 34 ad (enM ad cs) r σ') (cc := cX10_light) (maxL := 5) (ret := (some .int)) (lv := [(0, .ref (ad 0)), (1, .int v1), (2, .int v2), (3, .int v3), (4, .int v4)]) J (by decide) rfl (Nat.le_of_ble_eq_true rfl) rfl rfl rfl ?_
  intro p e s m args below meth c ls hx hb C hr hlk G hl
  unfold f_X10_light at h
  obtain ⟨H, eH⟩ : ∃ H, H = s.heap := ⟨_, rfl⟩
  obtain ⟨locs, eL⟩ : ∃ locs : List Loc, locs = [] := ⟨_, rfl⟩
  refine u_start eH eL G ?_
  clear G eH eL
  intro G
  refine lv_iload_n hx hb dX10_light_0 rfl (lv_at hl 1 rfl) ?_
  refine lv_iconst (v := 0) hx hb dX10_light_1 (by decide) ?_
  refine lv_iconst (v := 5) hx hb dX10_light_2 (by decide) ?_
  obtain ⟨r1, σ2, er1, h⟩ := ub_of h
  refine u_callSi (As := [.int v1, .int 0, .int 5]) (rest := []) C G (c_X10_in l D ad cs C.2.2.1 σ v1 (0 : Int32) (5 : Int32) r1 σ2 er1) (va_cwS 3 C.1.2.2.2.2 gX10_light_X10_in rfl rfl rfl (by decide +kernel) ⟨Nat.le_of_ble_eq_true rfl, Nat.le_of_ble_eq_true rfl⟩) rfl hl rfl (Nat.le_of_ble_eq_true rfl) dX10_light_3 (fun H locs G => ?_)
  refine lv_if_eq (tgt := 28) hx hb dX10_light_6 (by decide) (fun q => ?_) (fun q => ?_)
  · have h := u_pos q h
    refine lv_iconst (v := (-1)) hx hb dX10_light_28 (by decide) ?_
    obtain ⟨rfl, rfl⟩ := u_end h
    exact u_iret hx hb hr hlk G dX10_light_29
  · have h := u_neg q h
    refine lv_iload_n hx hb dX10_light_9 rfl (lv_at hl 2 rfl) ?_
    obtain ⟨r3, σ4, er3, h⟩ := ub_of h
    refine u_callSi (As := [.int v2]) (rest := []) C G (c_X10_isLine l D ad cs C.2.2.1 σ2 v2 r3 σ4 er3) (va_cwS 1 C.1.2.2.2.2 gX10_light_X10_isLine rfl rfl rfl (by decide +kernel) ⟨Nat.le_of_ble_eq_true rfl, Nat.le_of_ble_eq_true rfl⟩) rfl hl rfl (Nat.le_of_ble_eq_true rfl) dX10_light_10 (fun H locs G => ?_)
    refine lv_if_eq (tgt := 28) hx hb dX10_light_13 (by decide) (fun q => ?_) (fun q => ?_)
    · have h := u_pos q h
      refine lv_iconst (v := (-1)) hx hb dX10_light_28 (by decide) ?_
      obtain ⟨rfl, rfl⟩ := u_end h
      exact u_iret hx hb hr hlk G dX10_light_29
    · have h := u_neg q h
      refine lv_iload hx hb dX10_light_16 (lv_at hl 4 rfl) ?_
      refine lv_iconst (v := 0) hx hb dX10_light_18 (by decide) ?_
      refine lv_sipush (v := 32767) hx hb dX10_light_19 (by decide) ?_
      obtain ⟨r5, σ6, er5, h⟩ := ub_of h
      refine u_callSi (As := [.int v4, .int 0, .int 32767]) (rest := []) C G (c_X10_in l D ad cs C.2.2.1 σ4 v4 (0 : Int32) (32767 : Int32) r5 σ6 er5) (va_cwS 3 C.1.2.2.2.2 gX10_light_X10_in rfl rfl rfl (by decide +kernel) ⟨Nat.le_of_ble_eq_true rfl, Nat.le_of_ble_eq_true rfl⟩) rfl hl rfl (Nat.le_of_ble_eq_true rfl) dX10_light_22 (fun H locs G => ?_)
      refine lv_if_ne (tgt := 30) hx hb dX10_light_25 (by decide) (fun q => ?_) (fun q => ?_)
      · have h := u_neg q h
        refine lv_aload_n hx hb dX10_light_30 rfl (lv_at hl 0 rfl) ?_
        refine u_get (v := .int (σ6 0 32)) C G obM_0 (ci := 10) (N := 44) (Cn := RX10) (T := TX10) rfl fi_X10_light_10 32 (by decide) (by decide +kernel) rfl dX10_light_31 ?_
        refine lv_bipush (v := 30) hx hb dX10_light_34 (by decide) ?_
        refine lv_icmp_ne (tgt := 42) hx hb dX10_light_36 (by decide) (fun q => ?_) (fun q => ?_)
        · have h := u_neg q h
          refine lv_iload_n hx hb dX10_light_42 rfl (lv_at hl 3 rfl) ?_
          obtain ⟨r7, σ8, er7, h⟩ := ub_of h
          refine u_callSi (As := [.int v3]) (rest := []) C G (c_X10_isSlot l D ad cs C.2.2.1 σ6 v3 r7 σ8 er7) (va_cwS 1 C.1.2.2.2.2 gX10_light_X10_isSlot rfl rfl rfl (by decide +kernel) ⟨Nat.le_of_ble_eq_true rfl, Nat.le_of_ble_eq_true rfl⟩) rfl hl rfl (Nat.le_of_ble_eq_true rfl) dX10_light_43 (fun H locs G => ?_)
          refine lv_if_ne (tgt := 55) hx hb dX10_light_46 (by decide) (fun q => ?_) (fun q => ?_)
          · have h := u_neg q h
            refine lv_aload_n hx hb dX10_light_55 rfl (lv_at hl 0 rfl) ?_
            refine u_get (v := .ref (ad 25)) C G obM_0 (ci := 10) (N := 44) (Cn := RX10) (T := TX10) rfl fi_X10_light_10 33 (by decide) (by decide +kernel) rfl dX10_light_56 ?_
            refine lv_aload_n hx hb dX10_light_59 rfl (lv_at hl 0 rfl) ?_
            refine u_get (v := .int (σ8 0 32)) C G obM_0 (ci := 10) (N := 44) (Cn := RX10) (T := TX10) rfl fi_X10_light_10 32 (by decide) (by decide +kernel) rfl dX10_light_60 ?_
            refine lv_iload_n hx hb dX10_light_63 rfl (lv_at hl 1 rfl) ?_
            obtain ⟨g9, h⟩ := ui_of h
            refine u_iast C G arM_25 (t0 := 0) rfl g9 dX10_light_64 (fun H locs G => ?_)
            obtain ⟨σ10, eσ10, h⟩ := ul_of h
            replace G := uG_eq eσ10 G
            refine lv_aload_n hx hb dX10_light_65 rfl (lv_at hl 0 rfl) ?_
            refine u_get (v := .ref (ad 26)) C G obM_0 (ci := 10) (N := 44) (Cn := RX10) (T := TX10) rfl fi_X10_light_10 34 (by decide) (by decide +kernel) rfl dX10_light_66 ?_
            refine lv_aload_n hx hb dX10_light_69 rfl (lv_at hl 0 rfl) ?_
            refine u_get (v := .int (σ10 0 32)) C G obM_0 (ci := 10) (N := 44) (Cn := RX10) (T := TX10) rfl fi_X10_light_10 32 (by decide) (by decide +kernel) rfl dX10_light_70 ?_
            refine lv_iload_n hx hb dX10_light_73 rfl (lv_at hl 2 rfl) ?_
            obtain ⟨g11, h⟩ := ui_of h
            refine u_iast C G arM_26 (t0 := 0) rfl g11 dX10_light_74 (fun H locs G => ?_)
            obtain ⟨σ12, eσ12, h⟩ := ul_of h
            replace G := uG_eq eσ12 G
            refine lv_aload_n hx hb dX10_light_75 rfl (lv_at hl 0 rfl) ?_
            refine u_get (v := .ref (ad 27)) C G obM_0 (ci := 10) (N := 44) (Cn := RX10) (T := TX10) rfl fi_X10_light_10 35 (by decide) (by decide +kernel) rfl dX10_light_76 ?_
            refine lv_aload_n hx hb dX10_light_79 rfl (lv_at hl 0 rfl) ?_
            refine u_get (v := .int (σ12 0 32)) C G obM_0 (ci := 10) (N := 44) (Cn := RX10) (T := TX10) rfl fi_X10_light_10 32 (by decide) (by decide +kernel) rfl dX10_light_80 ?_
            refine lv_iload_n hx hb dX10_light_83 rfl (lv_at hl 3 rfl) ?_
            obtain ⟨g13, h⟩ := ui_of h
            refine u_iast C G arM_27 (t0 := 0) rfl g13 dX10_light_84 (fun H locs G => ?_)
            obtain ⟨σ14, eσ14, h⟩ := ul_of h
            replace G := uG_eq eσ14 G
            refine lv_aload_n hx hb dX10_light_85 rfl (lv_at hl 0 rfl) ?_
            refine u_get (v := .ref (ad 28)) C G obM_0 (ci := 10) (N := 44) (Cn := RX10) (T := TX10) rfl fi_X10_light_10 36 (by decide) (by decide +kernel) rfl dX10_light_86 ?_
            refine lv_aload_n hx hb dX10_light_89 rfl (lv_at hl 0 rfl) ?_
            refine u_get (v := .int (σ14 0 32)) C G obM_0 (ci := 10) (N := 44) (Cn := RX10) (T := TX10) rfl fi_X10_light_10 32 (by decide) (by decide +kernel) rfl dX10_light_90 ?_
            refine lv_iload hx hb dX10_light_93 (lv_at hl 4 rfl) ?_
            obtain ⟨g15, h⟩ := ui_of h
            refine u_iast C G arM_28 (t0 := 0) rfl g15 dX10_light_95 (fun H locs G => ?_)
            obtain ⟨σ16, eσ16, h⟩ := ul_of h
            replace G := uG_eq eσ16 G
            refine lv_aload_n hx hb dX10_light_96 rfl (lv_at hl 0 rfl) ?_
            refine lv_dup hx hb dX10_light_97 rfl ?_
            refine u_get (v := .int (σ16 0 32)) C G obM_0 (ci := 10) (N := 44) (Cn := RX10) (T := TX10) rfl fi_X10_light_10 32 (by decide) (by decide +kernel) rfl dX10_light_98 ?_
            refine lv_iconst (v := 1) hx hb dX10_light_101 (by decide) ?_
            refine lv_iadd hx hb dX10_light_102 ?_
            refine u_put (x := ((σ16 0 32) + 1)) (ty := .int) C G obM_0 (ci := 10) (N := 44) (Cn := RX10) (T := TX10) rfl fi_X10_light_10 tyX10 tyX10_ok nmX10 32 (by decide) (by decide +kernel) rfl (by decide +kernel) rfl rfl (fun f => by simp) (fun f => rfl) dX10_light_103 (fun H locs G => ?_)
            obtain ⟨σ17, eσ17, h⟩ := ul_of h
            replace G := uG_eq eσ17 G
            refine lv_aload_n hx hb dX10_light_106 rfl (lv_at hl 0 rfl) ?_
            refine u_get (v := .int (σ17 0 32)) C G obM_0 (ci := 10) (N := 44) (Cn := RX10) (T := TX10) rfl fi_X10_light_10 32 (by decide) (by decide +kernel) rfl dX10_light_107 ?_
            obtain ⟨rfl, rfl⟩ := u_end h
            exact u_iret hx hb hr hlk G dX10_light_110
          · have h := u_pos q h
            refine lv_aload_n hx hb dX10_light_49 rfl (lv_at hl 0 rfl) ?_
            refine lv_iconst (v := 2) hx hb dX10_light_50 (by decide) ?_
            obtain ⟨r18, σ19, er18, h⟩ := ub_of h
            refine u_callVi (As := [.int 2]) (rest := []) C G (c_X10_meets l D ad cs C.2.2.1 σ8 (2 : Int32) r18 σ19 er18) (cwV 1 C.1.2.2.2.2 gX10_light_X10_meets rfl rfl rfl (by decide +kernel) ⟨Nat.le_of_ble_eq_true rfl, Nat.le_of_ble_eq_true rfl⟩) obM_0 (ci := 10) (T := TX10) rfl rfl hl rfl (Nat.le_of_ble_eq_true rfl) dX10_light_51 (fun H locs G => ?_)
            obtain ⟨rfl, rfl⟩ := u_end h
            exact u_iret hx hb hr hlk G dX10_light_54
        · have h := u_pos q h
          refine lv_bipush (v := (-2)) hx hb dX10_light_39 (by decide) ?_
          obtain ⟨rfl, rfl⟩ := u_end h
          exact u_iret hx hb hr hlk G dX10_light_41
      · have h := u_pos q h
        refine lv_iconst (v := (-1)) hx hb dX10_light_28 (by decide) ?_
        obtain ⟨rfl, rfl⟩ := u_end h
        exact u_iret hx hb hr hlk G dX10_light_29
/-! X10_gainOf -/
def f_X10_gainOf_108 (k5 : St → Int32 → Int32 → Int32 → Int32 → Option (Int32 × St)) : Nat → St → Int32 → Int32 → Int32 → Int32 → Int32 → Int32 → Int32 → Option (Int32 × St)
  | 0, _, _, _, _, _, _, _, _ => none
  | fuel + 1, σ, v1, v2, v3, v4, v5, v6, v7 =>
    if (σ 0 17) ≤ v7 then
      if v5 = 0 then
        ul (v3 + 0) fun x11 =>
        ul (v4 + 1) fun x12 =>
        k5 σ v1 v2 x11 x12
      else
        ui ((150 * v2) + v4) 600 <|
        if (σ 14 ((150 * v2) + v4).toNatClampNeg) = 4 then
          if v6 ≤ 0 then
            ul (v3 + 0) fun x16 =>
            ul (v4 + 1) fun x17 =>
            k5 σ v1 v2 x16 x17
          else
            if (σ 0 17) ≤ v6 then
              ul (v3 + 0) fun x18 =>
              ul (v4 + 1) fun x19 =>
              k5 σ v1 v2 x18 x19
            else
              ul (v3 + 1) fun x20 =>
              ul (v4 + 1) fun x21 =>
              k5 σ v1 v2 x20 x21
        else
          ul (v3 + 0) fun x14 =>
          ul (v4 + 1) fun x15 =>
          k5 σ v1 v2 x14 x15
    else
      ui v7 160 <|
      ui v7 160 <|
      ub (f_X10_has σ ((σ 15 v7.toNatClampNeg) / 10) ((σ 15 v7.toNatClampNeg) - (σ 15 v7.toNatClampNeg) / 10 * 10) v4) fun r24 σ25 =>
      if r24 = 0 then
        ul (v6 + 0) fun x26 =>
        ul (v7 + 1) fun x27 =>
        f_X10_gainOf_108 k5 fuel σ25 v1 v2 v3 v4 v5 x26 x27
      else
        ul (v6 + 1) fun x28 =>
        ul (v7 + 1) fun x29 =>
        f_X10_gainOf_108 k5 fuel σ25 v1 v2 v3 v4 v5 x28 x29
def f_X10_gainOf_19 (k5 : St → Int32 → Int32 → Int32 → Int32 → Option (Int32 × St)) : Nat → St → Int32 → Int32 → Int32 → Int32 → Int32 → Int32 → Option (Int32 × St)
  | 0, _, _, _, _, _, _, _ => none
  | fuel + 1, σ, v1, v2, v3, v4, v5, v6 =>
    if (σ 0 32) ≤ v6 then
      f_X10_gainOf_108 k5 fu σ v1 v2 v3 v4 v5 0 0
    else
      if v5 = 0 then
        ui v6 30 <|
        if (σ 25 v6.toNatClampNeg) = v1 then
          ui v6 30 <|
          if (σ 26 v6.toNatClampNeg) = v2 then
            ui v6 30 <|
            if (σ 27 v6.toNatClampNeg) = (v4 / 15) then
              ui v6 30 <|
              if (((σ 28 v6.toNatClampNeg) >>> ((v4 - v4 / 15 * 15) &&& 31)) &&& 1) = 1 then
                ul (v6 + 1) fun x10 =>
                f_X10_gainOf_19 k5 fuel σ v1 v2 v3 v4 1 x10
              else
                ul (v6 + 1) fun x9 =>
                f_X10_gainOf_19 k5 fuel σ v1 v2 v3 v4 0 x9
            else
              ul (v6 + 1) fun x7 =>
              f_X10_gainOf_19 k5 fuel σ v1 v2 v3 v4 0 x7
          else
            ul (v6 + 1) fun x5 =>
            f_X10_gainOf_19 k5 fuel σ v1 v2 v3 v4 0 x5
        else
          ul (v6 + 1) fun x3 =>
          f_X10_gainOf_19 k5 fuel σ v1 v2 v3 v4 0 x3
      else
        ul (v6 + 1) fun x1 =>
        f_X10_gainOf_19 k5 fuel σ v1 v2 v3 v4 1 x1
def f_X10_gainOf_5 : Nat → St → Int32 → Int32 → Int32 → Int32 → Option (Int32 × St)
  | 0, _, _, _, _, _ => none
  | fuel + 1, σ, v1, v2, v3, v4 =>
    if 150 ≤ v4 then
      some (v3, σ)
    else
      f_X10_gainOf_19 (f_X10_gainOf_5 fuel) fu σ v1 v2 v3 v4 0 0
def f_X10_gainOf (σ : St) (v1 : Int32) (v2 : Int32) : Option (Int32 × St) :=
  f_X10_gainOf_5 fu σ v1 v2 0 0
theorem fi_X10_gainOf_10 : ∀ w ∈ u_ws RX10 TX10 44, w ∈ wsX10_gainOf := by decide +kernel
set_option maxHeartbeats 4000000 in
set_option maxRecDepth 100000 in
theorem w_X10_gainOf_108 {p : Program} {l : Launch} {e : Env} {s : State} {m : MethodId} {args : Array Value} {below : List Frame} {meth : Method} {c : Code} {D : va_G} {ad : Nat → Nat} {cs : Nat → ClassId} (C : uC p { frames := 2, cells := 0, slots := 0, locals := 46 } s m args c cX10_gainOf 8 wsX10_gainOf RX10 D vwCl (tyM cs) 34 ad (uAd 34 ad s.heap.size) 0 0) (hr : meth.sig.returnType = (some .int)) (hlk : meth.locks = false) {r : Int32} {σ' : St} {k5 : St → Int32 → Int32 → Int32 → Int32 → Option (Int32 × St)} (hk5 : ∀ (σ : St) (v1 : Int32) (v2 : Int32) (v3 : Int32) (v4 : Int32), k5 σ v1 v2 v3 v4 = some (r, σ') → ∀ (H : Heap) (locs : List Loc) (ls : Array Slot), uG D vwCl 34 ad (enM ad cs) (uAd 34 ad s.heap.size) s σ H locs → lv_has ls 8 [(0, .ref (ad 0)), (1, .int v1), (2, .int v2), (3, .int v3), (4, .int v4)] → W p l e { frames := 2, cells := 0, slots := 0, locals := 46 } s m args below meth c H locs 0 0 (MQ below (uQi D vwCl 34 ad (enM ad cs) r σ' s.heap.size) args s 0 0 (uAd 34 ad s.heap.size)) (F0 m 5 ls [])) :
    ∀ (n : Nat) (σ : St) (v1 : Int32) (v2 : Int32) (v3 : Int32) (v4 : Int32) (v5 : Int32) (v6 : Int32) (v7 : Int32), f_X10_gainOf_108 k5 n σ v1 v2 v3 v4 v5 v6 v7 = some (r, σ') → ∀ (H : Heap) (locs : List Loc) (ls : Array Slot), uG D vwCl 34 ad (enM ad cs) (uAd 34 ad s.heap.size) s σ H locs → lv_has ls 8 [(0, .ref (ad 0)), (1, .int v1), (2, .int v2), (3, .int v3), (4, .int v4), (5, .int v5), (6, .int v6), (7, .int v7)] → W p l e { frames := 2, cells := 0, slots := 0, locals := 46 } s m args below meth c H locs 0 0 (MQ below (uQi D vwCl 34 ad (enM ad cs) r σ' s.heap.size) args s 0 0 (uAd 34 ad s.heap.size)) (F0 m 108 ls []) := by
  have hx := C.1.1
  have hb := C.1.2.1
  intro n
  induction n with
  | zero => intro σ v1 v2 v3 v4 v5 v6 v7  h; exact absurd h (by simp [f_X10_gainOf_108])
  | succ fuel ih =>
    intro σ v1 v2 v3 v4 v5 v6 v7  h H locs ls G hl
    rw [f_X10_gainOf_108] at h
    refine lv_iload hx hb dX10_gainOf_108 (lv_at hl 7 rfl) ?_
    refine lv_aload_n hx hb dX10_gainOf_110 rfl (lv_at hl 0 rfl) ?_
    refine u_get (v := .int (σ 0 17)) C G obM_0 (ci := 10) (N := 44) (Cn := RX10) (T := TX10) rfl fi_X10_gainOf_10 17 (by decide) (by decide +kernel) rfl dX10_gainOf_111 ?_
    refine lv_icmp_ge (tgt := 162) hx hb dX10_gainOf_114 (by decide) (fun q => ?_) (fun q => ?_)
    · have h := u_pos q h
      refine lv_iload_n hx hb dX10_gainOf_162 rfl (lv_at hl 3 rfl) ?_
      refine lv_iload hx hb dX10_gainOf_163 (lv_at hl 5 rfl) ?_
      refine lv_if_eq (tgt := 203) hx hb dX10_gainOf_165 (by decide) (fun q => ?_) (fun q => ?_)
      · have h := u_pos q h
        refine lv_iconst (v := 0) hx hb dX10_gainOf_203 (by decide) ?_
        refine lv_iadd hx hb dX10_gainOf_204 ?_
        obtain ⟨x11, ex11, h⟩ := ul_of h
        refine u_nmi ex11 ?_
        refine lv_istore_n (lv' := [(3, .int x11), (0, .ref (ad 0)), (1, .int v1), (2, .int v2), (4, .int v4), (5, .int v5), (6, .int v6), (7, .int v7)]) hx hb dX10_gainOf_205 rfl hl (by decide) rfl (fun ls hl => ?_)
        obtain ⟨x12, ex12, h⟩ := ul_of h
        refine lv_iinc (v := x12) (lv' := [(4, .int x12), (3, .int x11), (0, .ref (ad 0)), (1, .int v1), (2, .int v2), (5, .int v5), (6, .int v6), (7, .int v7)]) hx hb dX10_gainOf_206 hl (k := 4) rfl (by rw [ex12]; rfl) (by decide) rfl (fun ls hl => ?_)
        refine lv_goto (tgt := 5) hx hb dX10_gainOf_209 (by decide) ?_
        exact hk5 σ v1 v2 x11 x12 h H locs ls G (lv_sub hl [2, 3, 4, 1, 0] rfl)
      · have h := u_neg q h
        refine lv_aload_n hx hb dX10_gainOf_168 rfl (lv_at hl 0 rfl) ?_
        refine u_get (v := .ref (ad 14)) C G obM_0 (ci := 10) (N := 44) (Cn := RX10) (T := TX10) rfl fi_X10_gainOf_10 16 (by decide) (by decide +kernel) rfl dX10_gainOf_169 ?_
        refine lv_sipush (v := 150) hx hb dX10_gainOf_172 (by decide) ?_
        refine lv_iload_n hx hb dX10_gainOf_175 rfl (lv_at hl 2 rfl) ?_
        refine lv_imul hx hb dX10_gainOf_176 ?_
        refine lv_iload hx hb dX10_gainOf_177 (lv_at hl 4 rfl) ?_
        refine lv_iadd hx hb dX10_gainOf_179 ?_
        obtain ⟨g13, h⟩ := ui_of h
        refine u_iald C G arM_14 (t0 := 0) rfl g13 dX10_gainOf_180 ?_
        refine lv_iconst (v := 4) hx hb dX10_gainOf_181 (by decide) ?_
        refine lv_icmp_ne (tgt := 203) hx hb dX10_gainOf_182 (by decide) (fun q => ?_) (fun q => ?_)
        · have h := u_neg q h
          refine lv_iconst (v := 0) hx hb dX10_gainOf_203 (by decide) ?_
          refine lv_iadd hx hb dX10_gainOf_204 ?_
          obtain ⟨x14, ex14, h⟩ := ul_of h
          refine u_nmi ex14 ?_
          refine lv_istore_n (lv' := [(3, .int x14), (0, .ref (ad 0)), (1, .int v1), (2, .int v2), (4, .int v4), (5, .int v5), (6, .int v6), (7, .int v7)]) hx hb dX10_gainOf_205 rfl hl (by decide) rfl (fun ls hl => ?_)
          obtain ⟨x15, ex15, h⟩ := ul_of h
          refine lv_iinc (v := x15) (lv' := [(4, .int x15), (3, .int x14), (0, .ref (ad 0)), (1, .int v1), (2, .int v2), (5, .int v5), (6, .int v6), (7, .int v7)]) hx hb dX10_gainOf_206 hl (k := 4) rfl (by rw [ex15]; rfl) (by decide) rfl (fun ls hl => ?_)
          refine lv_goto (tgt := 5) hx hb dX10_gainOf_209 (by decide) ?_
          exact hk5 σ v1 v2 x14 x15 h H locs ls G (lv_sub hl [2, 3, 4, 1, 0] rfl)
        · have h := u_pos q h
          refine lv_iload hx hb dX10_gainOf_185 (lv_at hl 6 rfl) ?_
          refine lv_if_le (tgt := 203) hx hb dX10_gainOf_187 (by decide) (fun q => ?_) (fun q => ?_)
          · have h := u_pos q h
            refine lv_iconst (v := 0) hx hb dX10_gainOf_203 (by decide) ?_
            refine lv_iadd hx hb dX10_gainOf_204 ?_
            obtain ⟨x16, ex16, h⟩ := ul_of h
            refine u_nmi ex16 ?_
            refine lv_istore_n (lv' := [(3, .int x16), (0, .ref (ad 0)), (1, .int v1), (2, .int v2), (4, .int v4), (5, .int v5), (6, .int v6), (7, .int v7)]) hx hb dX10_gainOf_205 rfl hl (by decide) rfl (fun ls hl => ?_)
            obtain ⟨x17, ex17, h⟩ := ul_of h
            refine lv_iinc (v := x17) (lv' := [(4, .int x17), (3, .int x16), (0, .ref (ad 0)), (1, .int v1), (2, .int v2), (5, .int v5), (6, .int v6), (7, .int v7)]) hx hb dX10_gainOf_206 hl (k := 4) rfl (by rw [ex17]; rfl) (by decide) rfl (fun ls hl => ?_)
            refine lv_goto (tgt := 5) hx hb dX10_gainOf_209 (by decide) ?_
            exact hk5 σ v1 v2 x16 x17 h H locs ls G (lv_sub hl [2, 3, 4, 1, 0] rfl)
          · have h := u_neg q h
            refine lv_iload hx hb dX10_gainOf_190 (lv_at hl 6 rfl) ?_
            refine lv_aload_n hx hb dX10_gainOf_192 rfl (lv_at hl 0 rfl) ?_
            refine u_get (v := .int (σ 0 17)) C G obM_0 (ci := 10) (N := 44) (Cn := RX10) (T := TX10) rfl fi_X10_gainOf_10 17 (by decide) (by decide +kernel) rfl dX10_gainOf_193 ?_
            refine lv_icmp_ge (tgt := 203) hx hb dX10_gainOf_196 (by decide) (fun q => ?_) (fun q => ?_)
            · have h := u_pos q h
              refine lv_iconst (v := 0) hx hb dX10_gainOf_203 (by decide) ?_
              refine lv_iadd hx hb dX10_gainOf_204 ?_
              obtain ⟨x18, ex18, h⟩ := ul_of h
              refine u_nmi ex18 ?_
              refine lv_istore_n (lv' := [(3, .int x18), (0, .ref (ad 0)), (1, .int v1), (2, .int v2), (4, .int v4), (5, .int v5), (6, .int v6), (7, .int v7)]) hx hb dX10_gainOf_205 rfl hl (by decide) rfl (fun ls hl => ?_)
              obtain ⟨x19, ex19, h⟩ := ul_of h
              refine lv_iinc (v := x19) (lv' := [(4, .int x19), (3, .int x18), (0, .ref (ad 0)), (1, .int v1), (2, .int v2), (5, .int v5), (6, .int v6), (7, .int v7)]) hx hb dX10_gainOf_206 hl (k := 4) rfl (by rw [ex19]; rfl) (by decide) rfl (fun ls hl => ?_)
              refine lv_goto (tgt := 5) hx hb dX10_gainOf_209 (by decide) ?_
              exact hk5 σ v1 v2 x18 x19 h H locs ls G (lv_sub hl [2, 3, 4, 1, 0] rfl)
            · have h := u_neg q h
              refine lv_iconst (v := 1) hx hb dX10_gainOf_199 (by decide) ?_
              refine lv_goto (tgt := 204) hx hb dX10_gainOf_200 (by decide) ?_
              refine lv_iadd hx hb dX10_gainOf_204 ?_
              obtain ⟨x20, ex20, h⟩ := ul_of h
              refine u_nmi ex20 ?_
              refine lv_istore_n (lv' := [(3, .int x20), (0, .ref (ad 0)), (1, .int v1), (2, .int v2), (4, .int v4), (5, .int v5), (6, .int v6), (7, .int v7)]) hx hb dX10_gainOf_205 rfl hl (by decide) rfl (fun ls hl => ?_)
              obtain ⟨x21, ex21, h⟩ := ul_of h
              refine lv_iinc (v := x21) (lv' := [(4, .int x21), (3, .int x20), (0, .ref (ad 0)), (1, .int v1), (2, .int v2), (5, .int v5), (6, .int v6), (7, .int v7)]) hx hb dX10_gainOf_206 hl (k := 4) rfl (by rw [ex21]; rfl) (by decide) rfl (fun ls hl => ?_)
              refine lv_goto (tgt := 5) hx hb dX10_gainOf_209 (by decide) ?_
              exact hk5 σ v1 v2 x20 x21 h H locs ls G (lv_sub hl [2, 3, 4, 1, 0] rfl)
    · have h := u_neg q h
      refine lv_iload hx hb dX10_gainOf_117 (lv_at hl 6 rfl) ?_
      refine lv_aload_n hx hb dX10_gainOf_119 rfl (lv_at hl 0 rfl) ?_
      refine lv_aload_n hx hb dX10_gainOf_120 rfl (lv_at hl 0 rfl) ?_
      refine u_get (v := .ref (ad 15)) C G obM_0 (ci := 10) (N := 44) (Cn := RX10) (T := TX10) rfl fi_X10_gainOf_10 18 (by decide) (by decide +kernel) rfl dX10_gainOf_121 ?_
      refine lv_iload hx hb dX10_gainOf_124 (lv_at hl 7 rfl) ?_
      obtain ⟨g22, h⟩ := ui_of h
      refine u_iald C G arM_15 (t0 := 0) rfl g22 dX10_gainOf_126 ?_
      refine lv_bipush (v := 10) hx hb dX10_gainOf_127 (by decide) ?_
      refine lv_idiv hx hb dX10_gainOf_129 (by decide) ?_
      refine lv_aload_n hx hb dX10_gainOf_130 rfl (lv_at hl 0 rfl) ?_
      refine u_get (v := .ref (ad 15)) C G obM_0 (ci := 10) (N := 44) (Cn := RX10) (T := TX10) rfl fi_X10_gainOf_10 18 (by decide) (by decide +kernel) rfl dX10_gainOf_131 ?_
      refine lv_iload hx hb dX10_gainOf_134 (lv_at hl 7 rfl) ?_
      obtain ⟨g23, h⟩ := ui_of h
      refine u_iald C G arM_15 (t0 := 0) rfl g23 dX10_gainOf_136 ?_
      refine lv_bipush (v := 10) hx hb dX10_gainOf_137 (by decide) ?_
      refine lv_irem hx hb dX10_gainOf_139 (by decide) ?_
      refine lv_iload hx hb dX10_gainOf_140 (lv_at hl 4 rfl) ?_
      obtain ⟨r24, σ25, er24, h⟩ := ub_of h
      refine u_callVi (As := [.int ((σ 15 v7.toNatClampNeg) / 10), .int ((σ 15 v7.toNatClampNeg) - (σ 15 v7.toNatClampNeg) / 10 * 10), .int v4]) (rest := [.int v6]) C G (c_X10_has l D ad cs C.2.2.1 σ ((σ 15 v7.toNatClampNeg) / 10) ((σ 15 v7.toNatClampNeg) - (σ 15 v7.toNatClampNeg) / 10 * 10) v4 r24 σ25 er24) (cwV 3 C.1.2.2.2.2 gX10_gainOf_X10_has rfl rfl rfl (by decide +kernel) ⟨Nat.le_of_ble_eq_true rfl, Nat.le_of_ble_eq_true rfl⟩) obM_0 (ci := 10) (T := TX10) rfl rfl hl rfl (Nat.le_of_ble_eq_true rfl) dX10_gainOf_142 (fun H locs G => ?_)
      refine lv_if_eq (tgt := 152) hx hb dX10_gainOf_145 (by decide) (fun q => ?_) (fun q => ?_)
      · have h := u_pos q h
        refine lv_iconst (v := 0) hx hb dX10_gainOf_152 (by decide) ?_
        refine lv_iadd hx hb dX10_gainOf_153 ?_
        obtain ⟨x26, ex26, h⟩ := ul_of h
        refine u_nmi ex26 ?_
        refine lv_istore (lv' := [(6, .int x26), (0, .ref (ad 0)), (1, .int v1), (2, .int v2), (3, .int v3), (4, .int v4), (5, .int v5), (7, .int v7)]) hx hb dX10_gainOf_154 hl (by decide) rfl (fun ls hl => ?_)
        obtain ⟨x27, ex27, h⟩ := ul_of h
        refine lv_iinc (v := x27) (lv' := [(7, .int x27), (6, .int x26), (0, .ref (ad 0)), (1, .int v1), (2, .int v2), (3, .int v3), (4, .int v4), (5, .int v5)]) hx hb dX10_gainOf_156 hl (k := 7) rfl (by rw [ex27]; rfl) (by decide) rfl (fun ls hl => ?_)
        refine lv_goto (tgt := 108) hx hb dX10_gainOf_159 (by decide) ?_
        exact ih σ25 v1 v2 v3 v4 v5 x26 x27 h H locs ls G (lv_sub hl [2, 3, 4, 5, 6, 7, 1, 0] rfl)
      · have h := u_neg q h
        refine lv_iconst (v := 1) hx hb dX10_gainOf_148 (by decide) ?_
        refine lv_goto (tgt := 153) hx hb dX10_gainOf_149 (by decide) ?_
        refine lv_iadd hx hb dX10_gainOf_153 ?_
        obtain ⟨x28, ex28, h⟩ := ul_of h
        refine u_nmi ex28 ?_
        refine lv_istore (lv' := [(6, .int x28), (0, .ref (ad 0)), (1, .int v1), (2, .int v2), (3, .int v3), (4, .int v4), (5, .int v5), (7, .int v7)]) hx hb dX10_gainOf_154 hl (by decide) rfl (fun ls hl => ?_)
        obtain ⟨x29, ex29, h⟩ := ul_of h
        refine lv_iinc (v := x29) (lv' := [(7, .int x29), (6, .int x28), (0, .ref (ad 0)), (1, .int v1), (2, .int v2), (3, .int v3), (4, .int v4), (5, .int v5)]) hx hb dX10_gainOf_156 hl (k := 7) rfl (by rw [ex29]; rfl) (by decide) rfl (fun ls hl => ?_)
        refine lv_goto (tgt := 108) hx hb dX10_gainOf_159 (by decide) ?_
        exact ih σ25 v1 v2 v3 v4 v5 x28 x29 h H locs ls G (lv_sub hl [2, 3, 4, 5, 6, 7, 1, 0] rfl)
set_option maxHeartbeats 4000000 in
set_option maxRecDepth 100000 in
theorem w_X10_gainOf_19 {p : Program} {l : Launch} {e : Env} {s : State} {m : MethodId} {args : Array Value} {below : List Frame} {meth : Method} {c : Code} {D : va_G} {ad : Nat → Nat} {cs : Nat → ClassId} (C : uC p { frames := 2, cells := 0, slots := 0, locals := 46 } s m args c cX10_gainOf 8 wsX10_gainOf RX10 D vwCl (tyM cs) 34 ad (uAd 34 ad s.heap.size) 0 0) (hr : meth.sig.returnType = (some .int)) (hlk : meth.locks = false) {r : Int32} {σ' : St} {k5 : St → Int32 → Int32 → Int32 → Int32 → Option (Int32 × St)} (hk5 : ∀ (σ : St) (v1 : Int32) (v2 : Int32) (v3 : Int32) (v4 : Int32), k5 σ v1 v2 v3 v4 = some (r, σ') → ∀ (H : Heap) (locs : List Loc) (ls : Array Slot), uG D vwCl 34 ad (enM ad cs) (uAd 34 ad s.heap.size) s σ H locs → lv_has ls 8 [(0, .ref (ad 0)), (1, .int v1), (2, .int v2), (3, .int v3), (4, .int v4)] → W p l e { frames := 2, cells := 0, slots := 0, locals := 46 } s m args below meth c H locs 0 0 (MQ below (uQi D vwCl 34 ad (enM ad cs) r σ' s.heap.size) args s 0 0 (uAd 34 ad s.heap.size)) (F0 m 5 ls [])) :
    ∀ (n : Nat) (σ : St) (v1 : Int32) (v2 : Int32) (v3 : Int32) (v4 : Int32) (v5 : Int32) (v6 : Int32), f_X10_gainOf_19 k5 n σ v1 v2 v3 v4 v5 v6 = some (r, σ') → ∀ (H : Heap) (locs : List Loc) (ls : Array Slot), uG D vwCl 34 ad (enM ad cs) (uAd 34 ad s.heap.size) s σ H locs → lv_has ls 8 [(0, .ref (ad 0)), (1, .int v1), (2, .int v2), (3, .int v3), (4, .int v4), (5, .int v5), (6, .int v6)] → W p l e { frames := 2, cells := 0, slots := 0, locals := 46 } s m args below meth c H locs 0 0 (MQ below (uQi D vwCl 34 ad (enM ad cs) r σ' s.heap.size) args s 0 0 (uAd 34 ad s.heap.size)) (F0 m 19 ls []) := by
  have hx := C.1.1
  have hb := C.1.2.1
  intro n
  induction n with
  | zero => intro σ v1 v2 v3 v4 v5 v6  h; exact absurd h (by simp [f_X10_gainOf_19])
  | succ fuel ih =>
    intro σ v1 v2 v3 v4 v5 v6  h H locs ls G hl
    rw [f_X10_gainOf_19] at h
    refine lv_iload hx hb dX10_gainOf_19 (lv_at hl 6 rfl) ?_
    refine lv_aload_n hx hb dX10_gainOf_21 rfl (lv_at hl 0 rfl) ?_
    refine u_get (v := .int (σ 0 32)) C G obM_0 (ci := 10) (N := 44) (Cn := RX10) (T := TX10) rfl fi_X10_gainOf_10 32 (by decide) (by decide +kernel) rfl dX10_gainOf_22 ?_
    refine lv_icmp_ge (tgt := 102) hx hb dX10_gainOf_25 (by decide) (fun q => ?_) (fun q => ?_)
    · have h := u_pos q h
      refine lv_iconst (v := 0) hx hb dX10_gainOf_102 (by decide) ?_
      refine lv_istore (lv' := [(6, .int 0), (0, .ref (ad 0)), (1, .int v1), (2, .int v2), (3, .int v3), (4, .int v4), (5, .int v5)]) hx hb dX10_gainOf_103 hl (by decide) rfl (fun ls hl => ?_)
      refine lv_iconst (v := 0) hx hb dX10_gainOf_105 (by decide) ?_
      refine lv_istore (lv' := [(7, .int 0), (6, .int 0), (0, .ref (ad 0)), (1, .int v1), (2, .int v2), (3, .int v3), (4, .int v4), (5, .int v5)]) hx hb dX10_gainOf_106 hl (by decide) rfl (fun ls hl => ?_)
      exact w_X10_gainOf_108 C hr hlk hk5 fu σ v1 v2 v3 v4 v5 0 0 h H locs ls G (lv_sub hl [2, 3, 4, 5, 6, 7, 1, 0] rfl)
    · have h := u_neg q h
      refine lv_iload hx hb dX10_gainOf_28 (lv_at hl 5 rfl) ?_
      refine lv_if_ne (tgt := 89) hx hb dX10_gainOf_30 (by decide) (fun q => ?_) (fun q => ?_)
      · have h := u_neg q h
        refine lv_iconst (v := 1) hx hb dX10_gainOf_89 (by decide) ?_
        refine lv_goto (tgt := 94) hx hb dX10_gainOf_90 (by decide) ?_
        refine lv_istore (lv' := [(5, .int 1), (0, .ref (ad 0)), (1, .int v1), (2, .int v2), (3, .int v3), (4, .int v4), (6, .int v6)]) hx hb dX10_gainOf_94 hl (by decide) rfl (fun ls hl => ?_)
        obtain ⟨x1, ex1, h⟩ := ul_of h
        refine lv_iinc (v := x1) (lv' := [(6, .int x1), (5, .int 1), (0, .ref (ad 0)), (1, .int v1), (2, .int v2), (3, .int v3), (4, .int v4)]) hx hb dX10_gainOf_96 hl (k := 6) rfl (by rw [ex1]; rfl) (by decide) rfl (fun ls hl => ?_)
        refine lv_goto (tgt := 19) hx hb dX10_gainOf_99 (by decide) ?_
        exact ih σ v1 v2 v3 v4 1 x1 h H locs ls G (lv_sub hl [2, 3, 4, 5, 6, 1, 0] rfl)
      · have h := u_pos q h
        refine lv_aload_n hx hb dX10_gainOf_33 rfl (lv_at hl 0 rfl) ?_
        refine u_get (v := .ref (ad 25)) C G obM_0 (ci := 10) (N := 44) (Cn := RX10) (T := TX10) rfl fi_X10_gainOf_10 33 (by decide) (by decide +kernel) rfl dX10_gainOf_34 ?_
        refine lv_iload hx hb dX10_gainOf_37 (lv_at hl 6 rfl) ?_
        obtain ⟨g2, h⟩ := ui_of h
        refine u_iald C G arM_25 (t0 := 0) rfl g2 dX10_gainOf_39 ?_
        refine lv_iload_n hx hb dX10_gainOf_40 rfl (lv_at hl 1 rfl) ?_
        refine lv_icmp_ne (tgt := 93) hx hb dX10_gainOf_41 (by decide) (fun q => ?_) (fun q => ?_)
        · have h := u_neg q h
          refine lv_iconst (v := 0) hx hb dX10_gainOf_93 (by decide) ?_
          refine lv_istore (lv' := [(5, .int 0), (0, .ref (ad 0)), (1, .int v1), (2, .int v2), (3, .int v3), (4, .int v4), (6, .int v6)]) hx hb dX10_gainOf_94 hl (by decide) rfl (fun ls hl => ?_)
          obtain ⟨x3, ex3, h⟩ := ul_of h
          refine lv_iinc (v := x3) (lv' := [(6, .int x3), (5, .int 0), (0, .ref (ad 0)), (1, .int v1), (2, .int v2), (3, .int v3), (4, .int v4)]) hx hb dX10_gainOf_96 hl (k := 6) rfl (by rw [ex3]; rfl) (by decide) rfl (fun ls hl => ?_)
          refine lv_goto (tgt := 19) hx hb dX10_gainOf_99 (by decide) ?_
          exact ih σ v1 v2 v3 v4 0 x3 h H locs ls G (lv_sub hl [2, 3, 4, 5, 6, 1, 0] rfl)
        · have h := u_pos q h
          refine lv_aload_n hx hb dX10_gainOf_44 rfl (lv_at hl 0 rfl) ?_
          refine u_get (v := .ref (ad 26)) C G obM_0 (ci := 10) (N := 44) (Cn := RX10) (T := TX10) rfl fi_X10_gainOf_10 34 (by decide) (by decide +kernel) rfl dX10_gainOf_45 ?_
          refine lv_iload hx hb dX10_gainOf_48 (lv_at hl 6 rfl) ?_
          obtain ⟨g4, h⟩ := ui_of h
          refine u_iald C G arM_26 (t0 := 0) rfl g4 dX10_gainOf_50 ?_
          refine lv_iload_n hx hb dX10_gainOf_51 rfl (lv_at hl 2 rfl) ?_
          refine lv_icmp_ne (tgt := 93) hx hb dX10_gainOf_52 (by decide) (fun q => ?_) (fun q => ?_)
          · have h := u_neg q h
            refine lv_iconst (v := 0) hx hb dX10_gainOf_93 (by decide) ?_
            refine lv_istore (lv' := [(5, .int 0), (0, .ref (ad 0)), (1, .int v1), (2, .int v2), (3, .int v3), (4, .int v4), (6, .int v6)]) hx hb dX10_gainOf_94 hl (by decide) rfl (fun ls hl => ?_)
            obtain ⟨x5, ex5, h⟩ := ul_of h
            refine lv_iinc (v := x5) (lv' := [(6, .int x5), (5, .int 0), (0, .ref (ad 0)), (1, .int v1), (2, .int v2), (3, .int v3), (4, .int v4)]) hx hb dX10_gainOf_96 hl (k := 6) rfl (by rw [ex5]; rfl) (by decide) rfl (fun ls hl => ?_)
            refine lv_goto (tgt := 19) hx hb dX10_gainOf_99 (by decide) ?_
            exact ih σ v1 v2 v3 v4 0 x5 h H locs ls G (lv_sub hl [2, 3, 4, 5, 6, 1, 0] rfl)
          · have h := u_pos q h
            refine lv_aload_n hx hb dX10_gainOf_55 rfl (lv_at hl 0 rfl) ?_
            refine u_get (v := .ref (ad 27)) C G obM_0 (ci := 10) (N := 44) (Cn := RX10) (T := TX10) rfl fi_X10_gainOf_10 35 (by decide) (by decide +kernel) rfl dX10_gainOf_56 ?_
            refine lv_iload hx hb dX10_gainOf_59 (lv_at hl 6 rfl) ?_
            obtain ⟨g6, h⟩ := ui_of h
            refine u_iald C G arM_27 (t0 := 0) rfl g6 dX10_gainOf_61 ?_
            refine lv_iload hx hb dX10_gainOf_62 (lv_at hl 4 rfl) ?_
            refine lv_bipush (v := 15) hx hb dX10_gainOf_64 (by decide) ?_
            refine lv_idiv hx hb dX10_gainOf_66 (by decide) ?_
            refine lv_icmp_ne (tgt := 93) hx hb dX10_gainOf_67 (by decide) (fun q => ?_) (fun q => ?_)
            · have h := u_neg q h
              refine lv_iconst (v := 0) hx hb dX10_gainOf_93 (by decide) ?_
              refine lv_istore (lv' := [(5, .int 0), (0, .ref (ad 0)), (1, .int v1), (2, .int v2), (3, .int v3), (4, .int v4), (6, .int v6)]) hx hb dX10_gainOf_94 hl (by decide) rfl (fun ls hl => ?_)
              obtain ⟨x7, ex7, h⟩ := ul_of h
              refine lv_iinc (v := x7) (lv' := [(6, .int x7), (5, .int 0), (0, .ref (ad 0)), (1, .int v1), (2, .int v2), (3, .int v3), (4, .int v4)]) hx hb dX10_gainOf_96 hl (k := 6) rfl (by rw [ex7]; rfl) (by decide) rfl (fun ls hl => ?_)
              refine lv_goto (tgt := 19) hx hb dX10_gainOf_99 (by decide) ?_
              exact ih σ v1 v2 v3 v4 0 x7 h H locs ls G (lv_sub hl [2, 3, 4, 5, 6, 1, 0] rfl)
            · have h := u_pos q h
              refine lv_aload_n hx hb dX10_gainOf_70 rfl (lv_at hl 0 rfl) ?_
              refine u_get (v := .ref (ad 28)) C G obM_0 (ci := 10) (N := 44) (Cn := RX10) (T := TX10) rfl fi_X10_gainOf_10 36 (by decide) (by decide +kernel) rfl dX10_gainOf_71 ?_
              refine lv_iload hx hb dX10_gainOf_74 (lv_at hl 6 rfl) ?_
              obtain ⟨g8, h⟩ := ui_of h
              refine u_iald C G arM_28 (t0 := 0) rfl g8 dX10_gainOf_76 ?_
              refine lv_iload hx hb dX10_gainOf_77 (lv_at hl 4 rfl) ?_
              refine lv_bipush (v := 15) hx hb dX10_gainOf_79 (by decide) ?_
              refine lv_irem hx hb dX10_gainOf_81 (by decide) ?_
              refine lv_ishr hx hb dX10_gainOf_82 ?_
              refine lv_iconst (v := 1) hx hb dX10_gainOf_83 (by decide) ?_
              refine lv_iand hx hb dX10_gainOf_84 ?_
              refine lv_iconst (v := 1) hx hb dX10_gainOf_85 (by decide) ?_
              refine lv_icmp_ne (tgt := 93) hx hb dX10_gainOf_86 (by decide) (fun q => ?_) (fun q => ?_)
              · have h := u_neg q h
                refine lv_iconst (v := 0) hx hb dX10_gainOf_93 (by decide) ?_
                refine lv_istore (lv' := [(5, .int 0), (0, .ref (ad 0)), (1, .int v1), (2, .int v2), (3, .int v3), (4, .int v4), (6, .int v6)]) hx hb dX10_gainOf_94 hl (by decide) rfl (fun ls hl => ?_)
                obtain ⟨x9, ex9, h⟩ := ul_of h
                refine lv_iinc (v := x9) (lv' := [(6, .int x9), (5, .int 0), (0, .ref (ad 0)), (1, .int v1), (2, .int v2), (3, .int v3), (4, .int v4)]) hx hb dX10_gainOf_96 hl (k := 6) rfl (by rw [ex9]; rfl) (by decide) rfl (fun ls hl => ?_)
                refine lv_goto (tgt := 19) hx hb dX10_gainOf_99 (by decide) ?_
                exact ih σ v1 v2 v3 v4 0 x9 h H locs ls G (lv_sub hl [2, 3, 4, 5, 6, 1, 0] rfl)
              · have h := u_pos q h
                refine lv_iconst (v := 1) hx hb dX10_gainOf_89 (by decide) ?_
                refine lv_goto (tgt := 94) hx hb dX10_gainOf_90 (by decide) ?_
                refine lv_istore (lv' := [(5, .int 1), (0, .ref (ad 0)), (1, .int v1), (2, .int v2), (3, .int v3), (4, .int v4), (6, .int v6)]) hx hb dX10_gainOf_94 hl (by decide) rfl (fun ls hl => ?_)
                obtain ⟨x10, ex10, h⟩ := ul_of h
                refine lv_iinc (v := x10) (lv' := [(6, .int x10), (5, .int 1), (0, .ref (ad 0)), (1, .int v1), (2, .int v2), (3, .int v3), (4, .int v4)]) hx hb dX10_gainOf_96 hl (k := 6) rfl (by rw [ex10]; rfl) (by decide) rfl (fun ls hl => ?_)
                refine lv_goto (tgt := 19) hx hb dX10_gainOf_99 (by decide) ?_
                exact ih σ v1 v2 v3 v4 1 x10 h H locs ls G (lv_sub hl [2, 3, 4, 5, 6, 1, 0] rfl)
set_option maxHeartbeats 4000000 in
set_option maxRecDepth 100000 in
theorem w_X10_gainOf_5 {p : Program} {l : Launch} {e : Env} {s : State} {m : MethodId} {args : Array Value} {below : List Frame} {meth : Method} {c : Code} {D : va_G} {ad : Nat → Nat} {cs : Nat → ClassId} (C : uC p { frames := 2, cells := 0, slots := 0, locals := 46 } s m args c cX10_gainOf 8 wsX10_gainOf RX10 D vwCl (tyM cs) 34 ad (uAd 34 ad s.heap.size) 0 0) (hr : meth.sig.returnType = (some .int)) (hlk : meth.locks = false) {r : Int32} {σ' : St} :
    ∀ (n : Nat) (σ : St) (v1 : Int32) (v2 : Int32) (v3 : Int32) (v4 : Int32), f_X10_gainOf_5 n σ v1 v2 v3 v4 = some (r, σ') → ∀ (H : Heap) (locs : List Loc) (ls : Array Slot), uG D vwCl 34 ad (enM ad cs) (uAd 34 ad s.heap.size) s σ H locs → lv_has ls 8 [(0, .ref (ad 0)), (1, .int v1), (2, .int v2), (3, .int v3), (4, .int v4)] → W p l e { frames := 2, cells := 0, slots := 0, locals := 46 } s m args below meth c H locs 0 0 (MQ below (uQi D vwCl 34 ad (enM ad cs) r σ' s.heap.size) args s 0 0 (uAd 34 ad s.heap.size)) (F0 m 5 ls []) := by
  have hx := C.1.1
  have hb := C.1.2.1
  intro n
  induction n with
  | zero => intro σ v1 v2 v3 v4  h; exact absurd h (by simp [f_X10_gainOf_5])
  | succ fuel ih =>
    intro σ v1 v2 v3 v4  h H locs ls G hl
    rw [f_X10_gainOf_5] at h
    refine lv_iload hx hb dX10_gainOf_5 (lv_at hl 4 rfl) ?_
    refine lv_sipush (v := 150) hx hb dX10_gainOf_7 (by decide) ?_
    refine lv_icmp_ge (tgt := 212) hx hb dX10_gainOf_10 (by decide) (fun q => ?_) (fun q => ?_)
    · have h := u_pos q h
      refine lv_iload_n hx hb dX10_gainOf_212 rfl (lv_at hl 3 rfl) ?_
      obtain ⟨rfl, rfl⟩ := u_end h
      exact u_iret hx hb hr hlk G dX10_gainOf_213
    · have h := u_neg q h
      refine lv_iconst (v := 0) hx hb dX10_gainOf_13 (by decide) ?_
      refine lv_istore (lv' := [(5, .int 0), (0, .ref (ad 0)), (1, .int v1), (2, .int v2), (3, .int v3), (4, .int v4)]) hx hb dX10_gainOf_14 hl (by decide) rfl (fun ls hl => ?_)
      refine lv_iconst (v := 0) hx hb dX10_gainOf_16 (by decide) ?_
      refine lv_istore (lv' := [(6, .int 0), (5, .int 0), (0, .ref (ad 0)), (1, .int v1), (2, .int v2), (3, .int v3), (4, .int v4)]) hx hb dX10_gainOf_17 hl (by decide) rfl (fun ls hl => ?_)
      exact w_X10_gainOf_19 C hr hlk ih fu σ v1 v2 v3 v4 0 0 h H locs ls G (lv_sub hl [2, 3, 4, 5, 6, 1, 0] rfl)
set_option maxHeartbeats 4000000 in
set_option maxRecDepth 100000 in
theorem c_X10_gainOf (l : Launch) (D : va_G) (ad : Nat → Nat) (cs : Nat → ClassId) (J : uJ 34 ad) (σ : St) (v1 : Int32) (v2 : Int32) (r : Int32) (σ' : St) (h : f_X10_gainOf σ v1 v2 = some (r, σ')) : uMi l yX10_gainOf wsX10_gainOf { frames := 2, cells := 0, slots := 0, locals := 46 } D vwCl (tyM cs) 34 ad (enM ad cs) [.ref (ad 0), .int v1, .int v2] σ r σ' := by
  refine u_met (Qf := uQi D vwCl 34 ad (enM ad cs) r σ') (cc := cX10_gainOf) (maxL := 8) (ret := (some .int)) (lv := [(0, .ref (ad 0)), (1, .int v1), (2, .int v2)]) J (by decide) rfl (Nat.le_of_ble_eq_true rfl) rfl rfl rfl ?_
  intro p e s m args below meth c ls hx hb C hr hlk G hl
  unfold f_X10_gainOf at h
  obtain ⟨H, eH⟩ : ∃ H, H = s.heap := ⟨_, rfl⟩
  obtain ⟨locs, eL⟩ : ∃ locs : List Loc, locs = [] := ⟨_, rfl⟩
  refine u_start eH eL G ?_
  clear G eH eL
  intro G
  refine lv_iconst (v := 0) hx hb dX10_gainOf_0 (by decide) ?_
  refine lv_istore_n (lv' := [(3, .int 0), (0, .ref (ad 0)), (1, .int v1), (2, .int v2)]) hx hb dX10_gainOf_1 rfl hl (by decide) rfl (fun ls hl => ?_)
  refine lv_iconst (v := 0) hx hb dX10_gainOf_2 (by decide) ?_
  refine lv_istore (lv' := [(4, .int 0), (3, .int 0), (0, .ref (ad 0)), (1, .int v1), (2, .int v2)]) hx hb dX10_gainOf_3 hl (by decide) rfl (fun ls hl => ?_)
  exact w_X10_gainOf_5 C hr hlk fu σ v1 v2 0 0 h H locs ls G (lv_sub hl [2, 3, 4, 1, 0] rfl)
/-! X10_gain -/
def f_X10_gain (σ : St) (v1 : Int32) (v2 : Int32) (v3 : Int32) : Option (Int32 × St) :=
  ub (f_X10_in σ v1 (0 : Int32) (5 : Int32)) fun r1 σ2 =>
  if r1 = 0 then
    some (((-1) : Int32), σ2)
  else
    ub (f_X10_isLine σ2 v2) fun r3 σ4 =>
    if r3 = 0 then
      some (((-1) : Int32), σ4)
    else
      ub (f_X10_isColour σ4 v3) fun r5 σ6 =>
      if r5 = 0 then
        some (((-1) : Int32), σ6)
      else
        ub (f_X10_setRivals σ6 v2 v3) fun r7 σ8 =>
        ub (f_X10_gainOf σ8 v1 v2) fun r9 σ10 =>
        some (r9, σ10)
set_option maxHeartbeats 4000000 in
set_option maxRecDepth 100000 in
theorem c_X10_gain (l : Launch) (D : va_G) (ad : Nat → Nat) (cs : Nat → ClassId) (J : uJ 34 ad) (σ : St) (v1 : Int32) (v2 : Int32) (v3 : Int32) (r : Int32) (σ' : St) (h : f_X10_gain σ v1 v2 v3 = some (r, σ')) : uMi l yX10_gain wsX10_gain { frames := 4, cells := 0, slots := 0, locals := 100 } D vwCl (tyM cs) 34 ad (enM ad cs) [.ref (ad 0), .int v1, .int v2, .int v3] σ r σ' := by
  refine u_met (Qf := uQi D vwCl 34 ad (enM ad cs) r σ') (cc := cX10_gain) (maxL := 4) (ret := (some .int)) (lv := [(0, .ref (ad 0)), (1, .int v1), (2, .int v2), (3, .int v3)]) J (by decide) rfl (Nat.le_of_ble_eq_true rfl) rfl rfl rfl ?_
  intro p e s m args below meth c ls hx hb C hr hlk G hl
  unfold f_X10_gain at h
  obtain ⟨H, eH⟩ : ∃ H, H = s.heap := ⟨_, rfl⟩
  obtain ⟨locs, eL⟩ : ∃ locs : List Loc, locs = [] := ⟨_, rfl⟩
  refine u_start eH eL G ?_
  clear G eH eL
  intro G
  refine lv_iload_n hx hb dX10_gain_0 rfl (lv_at hl 1 rfl) ?_
  refine lv_iconst (v := 0) hx hb dX10_gain_1 (by decide) ?_
  refine lv_iconst (v := 5) hx hb dX10_gain_2 (by decide) ?_
  obtain ⟨r1, σ2, er1, h⟩ := ub_of h
  refine u_callSi (As := [.int v1, .int 0, .int 5]) (rest := []) C G (c_X10_in l D ad cs C.2.2.1 σ v1 (0 : Int32) (5 : Int32) r1 σ2 er1) (va_cwS 3 C.1.2.2.2.2 gX10_gain_X10_in rfl rfl rfl (by decide +kernel) ⟨Nat.le_of_ble_eq_true rfl, Nat.le_of_ble_eq_true rfl⟩) rfl hl rfl (Nat.le_of_ble_eq_true rfl) dX10_gain_3 (fun H locs G => ?_)
  refine lv_if_eq (tgt := 23) hx hb dX10_gain_6 (by decide) (fun q => ?_) (fun q => ?_)
  · have h := u_pos q h
    refine lv_iconst (v := (-1)) hx hb dX10_gain_23 (by decide) ?_
    obtain ⟨rfl, rfl⟩ := u_end h
    exact u_iret hx hb hr hlk G dX10_gain_24
  · have h := u_neg q h
    refine lv_iload_n hx hb dX10_gain_9 rfl (lv_at hl 2 rfl) ?_
    obtain ⟨r3, σ4, er3, h⟩ := ub_of h
    refine u_callSi (As := [.int v2]) (rest := []) C G (c_X10_isLine l D ad cs C.2.2.1 σ2 v2 r3 σ4 er3) (va_cwS 1 C.1.2.2.2.2 gX10_gain_X10_isLine rfl rfl rfl (by decide +kernel) ⟨Nat.le_of_ble_eq_true rfl, Nat.le_of_ble_eq_true rfl⟩) rfl hl rfl (Nat.le_of_ble_eq_true rfl) dX10_gain_10 (fun H locs G => ?_)
    refine lv_if_eq (tgt := 23) hx hb dX10_gain_13 (by decide) (fun q => ?_) (fun q => ?_)
    · have h := u_pos q h
      refine lv_iconst (v := (-1)) hx hb dX10_gain_23 (by decide) ?_
      obtain ⟨rfl, rfl⟩ := u_end h
      exact u_iret hx hb hr hlk G dX10_gain_24
    · have h := u_neg q h
      refine lv_iload_n hx hb dX10_gain_16 rfl (lv_at hl 3 rfl) ?_
      obtain ⟨r5, σ6, er5, h⟩ := ub_of h
      refine u_callSi (As := [.int v3]) (rest := []) C G (c_X10_isColour l D ad cs C.2.2.1 σ4 v3 r5 σ6 er5) (va_cwS 1 C.1.2.2.2.2 gX10_gain_X10_isColour rfl rfl rfl (by decide +kernel) ⟨Nat.le_of_ble_eq_true rfl, Nat.le_of_ble_eq_true rfl⟩) rfl hl rfl (Nat.le_of_ble_eq_true rfl) dX10_gain_17 (fun H locs G => ?_)
      refine lv_if_ne (tgt := 25) hx hb dX10_gain_20 (by decide) (fun q => ?_) (fun q => ?_)
      · have h := u_neg q h
        refine lv_aload_n hx hb dX10_gain_25 rfl (lv_at hl 0 rfl) ?_
        refine lv_iload_n hx hb dX10_gain_26 rfl (lv_at hl 2 rfl) ?_
        refine lv_iload_n hx hb dX10_gain_27 rfl (lv_at hl 3 rfl) ?_
        obtain ⟨r7, σ8, er7, h⟩ := ub_of h
        refine u_callVv (As := [.int v2, .int v3]) (rest := []) C G (c_X10_setRivals l D ad cs C.2.2.1 σ6 v2 v3 r7 σ8 er7) (cwV 2 C.1.2.2.2.2 gX10_gain_X10_setRivals rfl rfl rfl (by decide +kernel) ⟨Nat.le_of_ble_eq_true rfl, Nat.le_of_ble_eq_true rfl⟩) obM_0 (ci := 10) (T := TX10) rfl rfl hl rfl (Nat.le_of_ble_eq_true rfl) dX10_gain_28 (fun H locs G => ?_)
        refine lv_aload_n hx hb dX10_gain_31 rfl (lv_at hl 0 rfl) ?_
        refine lv_iload_n hx hb dX10_gain_32 rfl (lv_at hl 1 rfl) ?_
        refine lv_iload_n hx hb dX10_gain_33 rfl (lv_at hl 2 rfl) ?_
        obtain ⟨r9, σ10, er9, h⟩ := ub_of h
        refine u_callVi (As := [.int v1, .int v2]) (rest := []) C G (c_X10_gainOf l D ad cs C.2.2.1 σ8 v1 v2 r9 σ10 er9) (cwV 2 C.1.2.2.2.2 gX10_gain_X10_gainOf rfl rfl rfl (by decide +kernel) ⟨Nat.le_of_ble_eq_true rfl, Nat.le_of_ble_eq_true rfl⟩) obM_0 (ci := 10) (T := TX10) rfl rfl hl rfl (Nat.le_of_ble_eq_true rfl) dX10_gain_34 (fun H locs G => ?_)
        obtain ⟨rfl, rfl⟩ := u_end h
        exact u_iret hx hb hr hlk G dX10_gain_37
      · have h := u_pos q h
        refine lv_iconst (v := (-1)) hx hb dX10_gain_23 (by decide) ?_
        obtain ⟨rfl, rfl⟩ := u_end h
        exact u_iret hx hb hr hlk G dX10_gain_24
/-! X10_next -/
def f_X10_next_31 : Nat → St → Int32 → Int32 → Int32 → Int32 → Option (Int32 × St)
  | 0, _, _, _, _, _ => none
  | fuel + 1, σ, v1, v3, v4, v5 =>
    if 6 ≤ v5 then
      some (v3, σ)
    else
      ub (f_X10_gainOf σ v5 v1) fun r7 σ8 =>
      if r7 ≤ v4 then
        if r7 ≤ v4 then
          ul (v5 + 1) fun x9 =>
          f_X10_next_31 fuel σ8 v1 v3 v4 x9
        else
          ul (v5 + 1) fun x10 =>
          f_X10_next_31 fuel σ8 v1 v3 r7 x10
      else
        if r7 ≤ v4 then
          ul (v5 + 1) fun x11 =>
          f_X10_next_31 fuel σ8 v1 v5 v4 x11
        else
          ul (v5 + 1) fun x12 =>
          f_X10_next_31 fuel σ8 v1 v5 r7 x12
def f_X10_next (σ : St) (v1 : Int32) (v2 : Int32) : Option (Int32 × St) :=
  ub (f_X10_isLine σ v1) fun r1 σ2 =>
  if r1 = 0 then
    some (((-1) : Int32), σ2)
  else
    ub (f_X10_isColour σ2 v2) fun r3 σ4 =>
    if r3 = 0 then
      some (((-1) : Int32), σ4)
    else
      ub (f_X10_setRivals σ4 v1 v2) fun r5 σ6 =>
      f_X10_next_31 fu σ6 v1 (-9) 0 0
set_option maxHeartbeats 4000000 in
set_option maxRecDepth 100000 in
theorem w_X10_next_31 {p : Program} {l : Launch} {e : Env} {s : State} {m : MethodId} {args : Array Value} {below : List Frame} {meth : Method} {c : Code} {D : va_G} {ad : Nat → Nat} {cs : Nat → ClassId} (C : uC p { frames := 4, cells := 0, slots := 0, locals := 100 } s m args c cX10_next 7 wsX10_next RX10 D vwCl (tyM cs) 34 ad (uAd 34 ad s.heap.size) 0 0) (hr : meth.sig.returnType = (some .int)) (hlk : meth.locks = false) {r : Int32} {σ' : St} :
    ∀ (n : Nat) (σ : St) (v1 : Int32) (v3 : Int32) (v4 : Int32) (v5 : Int32), f_X10_next_31 n σ v1 v3 v4 v5 = some (r, σ') → ∀ (H : Heap) (locs : List Loc) (ls : Array Slot), uG D vwCl 34 ad (enM ad cs) (uAd 34 ad s.heap.size) s σ H locs → lv_has ls 7 [(0, .ref (ad 0)), (1, .int v1), (3, .int v3), (4, .int v4), (5, .int v5)] → W p l e { frames := 4, cells := 0, slots := 0, locals := 100 } s m args below meth c H locs 0 0 (MQ below (uQi D vwCl 34 ad (enM ad cs) r σ' s.heap.size) args s 0 0 (uAd 34 ad s.heap.size)) (F0 m 31 ls []) := by
  have hx := C.1.1
  have hb := C.1.2.1
  intro n
  induction n with
  | zero => intro σ v1 v3 v4 v5  h; exact absurd h (by simp [f_X10_next_31])
  | succ fuel ih =>
    intro σ v1 v3 v4 v5  h H locs ls G hl
    rw [f_X10_next_31] at h
    refine lv_iload hx hb dX10_next_31 (lv_at hl 4 rfl) ?_
    refine lv_bipush (v := 6) hx hb dX10_next_33 (by decide) ?_
    refine lv_icmp_ge (tgt := 83) hx hb dX10_next_35 (by decide) (fun q => ?_) (fun q => ?_)
    · have h := u_pos q h
      refine lv_iload_n hx hb dX10_next_83 rfl (lv_at hl 2 rfl) ?_
      obtain ⟨rfl, rfl⟩ := u_end h
      exact u_iret hx hb hr hlk G dX10_next_84
    · have h := u_neg q h
      refine lv_aload_n hx hb dX10_next_38 rfl (lv_at hl 0 rfl) ?_
      refine lv_iload hx hb dX10_next_39 (lv_at hl 4 rfl) ?_
      refine lv_iload_n hx hb dX10_next_41 rfl (lv_at hl 1 rfl) ?_
      obtain ⟨r7, σ8, er7, h⟩ := ub_of h
      refine u_callVi (As := [.int v5, .int v1]) (rest := []) C G (c_X10_gainOf l D ad cs C.2.2.1 σ v5 v1 r7 σ8 er7) (cwV 2 C.1.2.2.2.2 gX10_next_X10_gainOf rfl rfl rfl (by decide +kernel) ⟨Nat.le_of_ble_eq_true rfl, Nat.le_of_ble_eq_true rfl⟩) obM_0 (ci := 10) (T := TX10) rfl rfl hl rfl (Nat.le_of_ble_eq_true rfl) dX10_next_42 (fun H locs G => ?_)
      refine lv_istore (lv' := [(6, .int r7), (0, .ref (ad 0)), (1, .int v1), (3, .int v3), (4, .int v4), (5, .int v5)]) hx hb dX10_next_45 hl (by decide) rfl (fun ls hl => ?_)
      refine lv_iload hx hb dX10_next_47 (lv_at hl 0 rfl) ?_
      refine lv_iload hx hb dX10_next_49 (lv_at hl 4 rfl) ?_
      refine lv_icmp_le (tgt := 59) hx hb dX10_next_51 (by decide) (fun q => ?_) (fun q => ?_)
      · have h := u_pos q h
        refine lv_iload_n hx hb dX10_next_59 rfl (lv_at hl 3 rfl) ?_
        refine lv_istore_n (lv' := [(3, .int v3), (6, .int r7), (0, .ref (ad 0)), (1, .int v1), (4, .int v4), (5, .int v5)]) hx hb dX10_next_60 rfl hl (by decide) rfl (fun ls hl => ?_)
        refine lv_iload hx hb dX10_next_61 (lv_at hl 1 rfl) ?_
        refine lv_iload hx hb dX10_next_63 (lv_at hl 4 rfl) ?_
        refine lv_icmp_le (tgt := 73) hx hb dX10_next_65 (by decide) (fun q => ?_) (fun q => ?_)
        · have h := u_pos q h
          refine lv_iload hx hb dX10_next_73 (lv_at hl 4 rfl) ?_
          refine lv_istore (lv' := [(4, .int v4), (3, .int v3), (6, .int r7), (0, .ref (ad 0)), (1, .int v1), (5, .int v5)]) hx hb dX10_next_75 hl (by decide) rfl (fun ls hl => ?_)
          obtain ⟨x9, ex9, h⟩ := ul_of h
          refine lv_iinc (v := x9) (lv' := [(5, .int x9), (4, .int v4), (3, .int v3), (6, .int r7), (0, .ref (ad 0)), (1, .int v1)]) hx hb dX10_next_77 hl (k := 5) rfl (by rw [ex9]; rfl) (by decide) rfl (fun ls hl => ?_)
          refine lv_goto (tgt := 31) hx hb dX10_next_80 (by decide) ?_
          exact ih σ8 v1 v3 v4 x9 h H locs ls G (lv_sub hl [4, 5, 2, 1, 0] rfl)
        · have h := u_neg q h
          refine lv_iload hx hb dX10_next_68 (lv_at hl 1 rfl) ?_
          refine lv_goto (tgt := 75) hx hb dX10_next_70 (by decide) ?_
          refine lv_istore (lv' := [(4, .int r7), (3, .int v3), (6, .int r7), (0, .ref (ad 0)), (1, .int v1), (5, .int v5)]) hx hb dX10_next_75 hl (by decide) rfl (fun ls hl => ?_)
          obtain ⟨x10, ex10, h⟩ := ul_of h
          refine lv_iinc (v := x10) (lv' := [(5, .int x10), (4, .int r7), (3, .int v3), (6, .int r7), (0, .ref (ad 0)), (1, .int v1)]) hx hb dX10_next_77 hl (k := 5) rfl (by rw [ex10]; rfl) (by decide) rfl (fun ls hl => ?_)
          refine lv_goto (tgt := 31) hx hb dX10_next_80 (by decide) ?_
          exact ih σ8 v1 v3 r7 x10 h H locs ls G (lv_sub hl [4, 5, 2, 1, 0] rfl)
      · have h := u_neg q h
        refine lv_iload hx hb dX10_next_54 (lv_at hl 5 rfl) ?_
        refine lv_goto (tgt := 60) hx hb dX10_next_56 (by decide) ?_
        refine lv_istore_n (lv' := [(3, .int v5), (6, .int r7), (0, .ref (ad 0)), (1, .int v1), (4, .int v4), (5, .int v5)]) hx hb dX10_next_60 rfl hl (by decide) rfl (fun ls hl => ?_)
        refine lv_iload hx hb dX10_next_61 (lv_at hl 1 rfl) ?_
        refine lv_iload hx hb dX10_next_63 (lv_at hl 4 rfl) ?_
        refine lv_icmp_le (tgt := 73) hx hb dX10_next_65 (by decide) (fun q => ?_) (fun q => ?_)
        · have h := u_pos q h
          refine lv_iload hx hb dX10_next_73 (lv_at hl 4 rfl) ?_
          refine lv_istore (lv' := [(4, .int v4), (3, .int v5), (6, .int r7), (0, .ref (ad 0)), (1, .int v1), (5, .int v5)]) hx hb dX10_next_75 hl (by decide) rfl (fun ls hl => ?_)
          obtain ⟨x11, ex11, h⟩ := ul_of h
          refine lv_iinc (v := x11) (lv' := [(5, .int x11), (4, .int v4), (3, .int v5), (6, .int r7), (0, .ref (ad 0)), (1, .int v1)]) hx hb dX10_next_77 hl (k := 5) rfl (by rw [ex11]; rfl) (by decide) rfl (fun ls hl => ?_)
          refine lv_goto (tgt := 31) hx hb dX10_next_80 (by decide) ?_
          exact ih σ8 v1 v5 v4 x11 h H locs ls G (lv_sub hl [4, 5, 2, 1, 0] rfl)
        · have h := u_neg q h
          refine lv_iload hx hb dX10_next_68 (lv_at hl 1 rfl) ?_
          refine lv_goto (tgt := 75) hx hb dX10_next_70 (by decide) ?_
          refine lv_istore (lv' := [(4, .int r7), (3, .int v5), (6, .int r7), (0, .ref (ad 0)), (1, .int v1), (5, .int v5)]) hx hb dX10_next_75 hl (by decide) rfl (fun ls hl => ?_)
          obtain ⟨x12, ex12, h⟩ := ul_of h
          refine lv_iinc (v := x12) (lv' := [(5, .int x12), (4, .int r7), (3, .int v5), (6, .int r7), (0, .ref (ad 0)), (1, .int v1)]) hx hb dX10_next_77 hl (k := 5) rfl (by rw [ex12]; rfl) (by decide) rfl (fun ls hl => ?_)
          refine lv_goto (tgt := 31) hx hb dX10_next_80 (by decide) ?_
          exact ih σ8 v1 v5 r7 x12 h H locs ls G (lv_sub hl [4, 5, 2, 1, 0] rfl)
set_option maxHeartbeats 4000000 in
set_option maxRecDepth 100000 in
theorem c_X10_next (l : Launch) (D : va_G) (ad : Nat → Nat) (cs : Nat → ClassId) (J : uJ 34 ad) (σ : St) (v1 : Int32) (v2 : Int32) (r : Int32) (σ' : St) (h : f_X10_next σ v1 v2 = some (r, σ')) : uMi l yX10_next wsX10_next { frames := 4, cells := 0, slots := 0, locals := 100 } D vwCl (tyM cs) 34 ad (enM ad cs) [.ref (ad 0), .int v1, .int v2] σ r σ' := by
  refine u_met (Qf := uQi D vwCl 34 ad (enM ad cs) r σ') (cc := cX10_next) (maxL := 7) (ret := (some .int)) (lv := [(0, .ref (ad 0)), (1, .int v1), (2, .int v2)]) J (by decide) rfl (Nat.le_of_ble_eq_true rfl) rfl rfl rfl ?_
  intro p e s m args below meth c ls hx hb C hr hlk G hl
  unfold f_X10_next at h
  obtain ⟨H, eH⟩ : ∃ H, H = s.heap := ⟨_, rfl⟩
  obtain ⟨locs, eL⟩ : ∃ locs : List Loc, locs = [] := ⟨_, rfl⟩
  refine u_start eH eL G ?_
  clear G eH eL
  intro G
  refine lv_iload_n hx hb dX10_next_0 rfl (lv_at hl 1 rfl) ?_
  obtain ⟨r1, σ2, er1, h⟩ := ub_of h
  refine u_callSi (As := [.int v1]) (rest := []) C G (c_X10_isLine l D ad cs C.2.2.1 σ v1 r1 σ2 er1) (va_cwS 1 C.1.2.2.2.2 gX10_next_X10_isLine rfl rfl rfl (by decide +kernel) ⟨Nat.le_of_ble_eq_true rfl, Nat.le_of_ble_eq_true rfl⟩) rfl hl rfl (Nat.le_of_ble_eq_true rfl) dX10_next_1 (fun H locs G => ?_)
  refine lv_if_eq (tgt := 14) hx hb dX10_next_4 (by decide) (fun q => ?_) (fun q => ?_)
  · have h := u_pos q h
    refine lv_iconst (v := (-1)) hx hb dX10_next_14 (by decide) ?_
    obtain ⟨rfl, rfl⟩ := u_end h
    exact u_iret hx hb hr hlk G dX10_next_15
  · have h := u_neg q h
    refine lv_iload_n hx hb dX10_next_7 rfl (lv_at hl 2 rfl) ?_
    obtain ⟨r3, σ4, er3, h⟩ := ub_of h
    refine u_callSi (As := [.int v2]) (rest := []) C G (c_X10_isColour l D ad cs C.2.2.1 σ2 v2 r3 σ4 er3) (va_cwS 1 C.1.2.2.2.2 gX10_next_X10_isColour rfl rfl rfl (by decide +kernel) ⟨Nat.le_of_ble_eq_true rfl, Nat.le_of_ble_eq_true rfl⟩) rfl hl rfl (Nat.le_of_ble_eq_true rfl) dX10_next_8 (fun H locs G => ?_)
    refine lv_if_ne (tgt := 16) hx hb dX10_next_11 (by decide) (fun q => ?_) (fun q => ?_)
    · have h := u_neg q h
      refine lv_aload_n hx hb dX10_next_16 rfl (lv_at hl 0 rfl) ?_
      refine lv_iload_n hx hb dX10_next_17 rfl (lv_at hl 1 rfl) ?_
      refine lv_iload_n hx hb dX10_next_18 rfl (lv_at hl 2 rfl) ?_
      obtain ⟨r5, σ6, er5, h⟩ := ub_of h
      refine u_callVv (As := [.int v1, .int v2]) (rest := []) C G (c_X10_setRivals l D ad cs C.2.2.1 σ4 v1 v2 r5 σ6 er5) (cwV 2 C.1.2.2.2.2 gX10_next_X10_setRivals rfl rfl rfl (by decide +kernel) ⟨Nat.le_of_ble_eq_true rfl, Nat.le_of_ble_eq_true rfl⟩) obM_0 (ci := 10) (T := TX10) rfl rfl hl rfl (Nat.le_of_ble_eq_true rfl) dX10_next_19 (fun H locs G => ?_)
      refine lv_bipush (v := (-9)) hx hb dX10_next_22 (by decide) ?_
      refine lv_istore_n (lv' := [(3, .int (-9)), (0, .ref (ad 0)), (1, .int v1), (2, .int v2)]) hx hb dX10_next_24 rfl hl (by decide) rfl (fun ls hl => ?_)
      refine lv_iconst (v := 0) hx hb dX10_next_25 (by decide) ?_
      refine lv_istore (lv' := [(4, .int 0), (3, .int (-9)), (0, .ref (ad 0)), (1, .int v1), (2, .int v2)]) hx hb dX10_next_26 hl (by decide) rfl (fun ls hl => ?_)
      refine lv_iconst (v := 0) hx hb dX10_next_28 (by decide) ?_
      refine lv_istore (lv' := [(5, .int 0), (4, .int 0), (3, .int (-9)), (0, .ref (ad 0)), (1, .int v1), (2, .int v2)]) hx hb dX10_next_29 hl (by decide) rfl (fun ls hl => ?_)
      exact w_X10_next_31 C hr hlk fu σ6 v1 (-9) 0 0 h H locs ls G (lv_sub hl [3, 4, 2, 1, 0] rfl)
    · have h := u_pos q h
      refine lv_iconst (v := (-1)) hx hb dX10_next_14 (by decide) ?_
      obtain ⟨rfl, rfl⟩ := u_end h
      exact u_iret hx hb hr hlk G dX10_next_15
/-! X10_read -/
def f_X10_read (σ : St) (v1 : Int32) (v2 : Int32) : Option (Int32 × St) :=
  ub (f_X10_isLine σ v1) fun r1 σ2 =>
  if r1 = 0 then
    some (((-1) : Int32), σ2)
  else
    ub (f_X10_isWord σ2 v2) fun r3 σ4 =>
    if r3 = 0 then
      some (((-1) : Int32), σ4)
    else
      if (σ4 0 37) = 12 then
        some (((-2) : Int32), σ4)
      else
        ui v2 16 <|
        if (σ4 9 v2.toNatClampNeg) = 0 then
          ui (σ4 0 37) 12 <|
          ul (us σ4 29 (σ4 0 37).toNatClampNeg v1) fun σ7 =>
          ui (σ7 0 37) 12 <|
          ul (us σ7 30 (σ7 0 37).toNatClampNeg v2) fun σ9 =>
          ul (us σ9 0 37 ((σ9 0 37) + 1)) fun σ10 =>
          some ((σ10 0 37), σ10)
        else
          ub (f_X10_meets σ4 (1 : Int32)) fun r11 σ12 =>
          some (r11, σ12)
theorem fi_X10_read_10 : ∀ w ∈ u_ws RX10 TX10 44, w ∈ wsX10_read := by decide +kernel
set_option maxHeartbeats 4000000 in
set_option maxRecDepth 100000 in
theorem c_X10_read (l : Launch) (D : va_G) (ad : Nat → Nat) (cs : Nat → ClassId) (J : uJ 34 ad) (σ : St) (v1 : Int32) (v2 : Int32) (r : Int32) (σ' : St) (h : f_X10_read σ v1 v2 = some (r, σ')) : uMi l yX10_read wsX10_read { frames := 2, cells := 0, slots := 0, locals := 43 } D vwCl (tyM cs) 34 ad (enM ad cs) [.ref (ad 0), .int v1, .int v2] σ r σ' := by
  refine u_met (Qf := uQi D vwCl 34 ad (enM ad cs) r σ') (cc := cX10_read) (maxL := 3) (ret := (some .int)) (lv := [(0, .ref (ad 0)), (1, .int v1), (2, .int v2)]) J (by decide) rfl (Nat.le_of_ble_eq_true rfl) rfl rfl rfl ?_
  intro p e s m args below meth c ls hx hb C hr hlk G hl
  unfold f_X10_read at h
  obtain ⟨H, eH⟩ : ∃ H, H = s.heap := ⟨_, rfl⟩
  obtain ⟨locs, eL⟩ : ∃ locs : List Loc, locs = [] := ⟨_, rfl⟩
  refine u_start eH eL G ?_
  clear G eH eL
  intro G
  refine lv_iload_n hx hb dX10_read_0 rfl (lv_at hl 1 rfl) ?_
  obtain ⟨r1, σ2, er1, h⟩ := ub_of h
  refine u_callSi (As := [.int v1]) (rest := []) C G (c_X10_isLine l D ad cs C.2.2.1 σ v1 r1 σ2 er1) (va_cwS 1 C.1.2.2.2.2 gX10_read_X10_isLine rfl rfl rfl (by decide +kernel) ⟨Nat.le_of_ble_eq_true rfl, Nat.le_of_ble_eq_true rfl⟩) rfl hl rfl (Nat.le_of_ble_eq_true rfl) dX10_read_1 (fun H locs G => ?_)
  refine lv_if_eq (tgt := 15) hx hb dX10_read_4 (by decide) (fun q => ?_) (fun q => ?_)
  · have h := u_pos q h
    refine lv_iconst (v := (-1)) hx hb dX10_read_15 (by decide) ?_
    obtain ⟨rfl, rfl⟩ := u_end h
    exact u_iret hx hb hr hlk G dX10_read_16
  · have h := u_neg q h
    refine lv_aload_n hx hb dX10_read_7 rfl (lv_at hl 0 rfl) ?_
    refine lv_iload_n hx hb dX10_read_8 rfl (lv_at hl 2 rfl) ?_
    obtain ⟨r3, σ4, er3, h⟩ := ub_of h
    refine u_callVi (As := [.int v2]) (rest := []) C G (c_X10_isWord l D ad cs C.2.2.1 σ2 v2 r3 σ4 er3) (cwV 1 C.1.2.2.2.2 gX10_read_X10_isWord rfl rfl rfl (by decide +kernel) ⟨Nat.le_of_ble_eq_true rfl, Nat.le_of_ble_eq_true rfl⟩) obM_0 (ci := 10) (T := TX10) rfl rfl hl rfl (Nat.le_of_ble_eq_true rfl) dX10_read_9 (fun H locs G => ?_)
    refine lv_if_ne (tgt := 17) hx hb dX10_read_12 (by decide) (fun q => ?_) (fun q => ?_)
    · have h := u_neg q h
      refine lv_aload_n hx hb dX10_read_17 rfl (lv_at hl 0 rfl) ?_
      refine u_get (v := .int (σ4 0 37)) C G obM_0 (ci := 10) (N := 44) (Cn := RX10) (T := TX10) rfl fi_X10_read_10 37 (by decide) (by decide +kernel) rfl dX10_read_18 ?_
      refine lv_bipush (v := 12) hx hb dX10_read_21 (by decide) ?_
      refine lv_icmp_ne (tgt := 29) hx hb dX10_read_23 (by decide) (fun q => ?_) (fun q => ?_)
      · have h := u_neg q h
        refine lv_aload_n hx hb dX10_read_29 rfl (lv_at hl 0 rfl) ?_
        refine u_get (v := .ref (ad 9)) C G obM_0 (ci := 10) (N := 44) (Cn := RX10) (T := TX10) rfl fi_X10_read_10 11 (by decide) (by decide +kernel) rfl dX10_read_30 ?_
        refine lv_iload_n hx hb dX10_read_33 rfl (lv_at hl 2 rfl) ?_
        obtain ⟨g5, h⟩ := ui_of h
        refine u_zald C G arM_9 (t0 := 2) rfl g5 dX10_read_34 ?_
        refine lv_if_eq (tgt := 44) hx hb dX10_read_35 (by decide) (fun q => ?_) (fun q => ?_)
        · have h := u_pos q h
          refine lv_aload_n hx hb dX10_read_44 rfl (lv_at hl 0 rfl) ?_
          refine u_get (v := .ref (ad 29)) C G obM_0 (ci := 10) (N := 44) (Cn := RX10) (T := TX10) rfl fi_X10_read_10 38 (by decide) (by decide +kernel) rfl dX10_read_45 ?_
          refine lv_aload_n hx hb dX10_read_48 rfl (lv_at hl 0 rfl) ?_
          refine u_get (v := .int (σ4 0 37)) C G obM_0 (ci := 10) (N := 44) (Cn := RX10) (T := TX10) rfl fi_X10_read_10 37 (by decide) (by decide +kernel) rfl dX10_read_49 ?_
          refine lv_iload_n hx hb dX10_read_52 rfl (lv_at hl 1 rfl) ?_
          obtain ⟨g6, h⟩ := ui_of h
          refine u_iast C G arM_29 (t0 := 0) rfl g6 dX10_read_53 (fun H locs G => ?_)
          obtain ⟨σ7, eσ7, h⟩ := ul_of h
          replace G := uG_eq eσ7 G
          refine lv_aload_n hx hb dX10_read_54 rfl (lv_at hl 0 rfl) ?_
          refine u_get (v := .ref (ad 30)) C G obM_0 (ci := 10) (N := 44) (Cn := RX10) (T := TX10) rfl fi_X10_read_10 39 (by decide) (by decide +kernel) rfl dX10_read_55 ?_
          refine lv_aload_n hx hb dX10_read_58 rfl (lv_at hl 0 rfl) ?_
          refine u_get (v := .int (σ7 0 37)) C G obM_0 (ci := 10) (N := 44) (Cn := RX10) (T := TX10) rfl fi_X10_read_10 37 (by decide) (by decide +kernel) rfl dX10_read_59 ?_
          refine lv_iload_n hx hb dX10_read_62 rfl (lv_at hl 2 rfl) ?_
          obtain ⟨g8, h⟩ := ui_of h
          refine u_iast C G arM_30 (t0 := 0) rfl g8 dX10_read_63 (fun H locs G => ?_)
          obtain ⟨σ9, eσ9, h⟩ := ul_of h
          replace G := uG_eq eσ9 G
          refine lv_aload_n hx hb dX10_read_64 rfl (lv_at hl 0 rfl) ?_
          refine lv_dup hx hb dX10_read_65 rfl ?_
          refine u_get (v := .int (σ9 0 37)) C G obM_0 (ci := 10) (N := 44) (Cn := RX10) (T := TX10) rfl fi_X10_read_10 37 (by decide) (by decide +kernel) rfl dX10_read_66 ?_
          refine lv_iconst (v := 1) hx hb dX10_read_69 (by decide) ?_
          refine lv_iadd hx hb dX10_read_70 ?_
          refine u_put (x := ((σ9 0 37) + 1)) (ty := .int) C G obM_0 (ci := 10) (N := 44) (Cn := RX10) (T := TX10) rfl fi_X10_read_10 tyX10 tyX10_ok nmX10 37 (by decide) (by decide +kernel) rfl (by decide +kernel) rfl rfl (fun f => by simp) (fun f => rfl) dX10_read_71 (fun H locs G => ?_)
          obtain ⟨σ10, eσ10, h⟩ := ul_of h
          replace G := uG_eq eσ10 G
          refine lv_aload_n hx hb dX10_read_74 rfl (lv_at hl 0 rfl) ?_
          refine u_get (v := .int (σ10 0 37)) C G obM_0 (ci := 10) (N := 44) (Cn := RX10) (T := TX10) rfl fi_X10_read_10 37 (by decide) (by decide +kernel) rfl dX10_read_75 ?_
          obtain ⟨rfl, rfl⟩ := u_end h
          exact u_iret hx hb hr hlk G dX10_read_78
        · have h := u_neg q h
          refine lv_aload_n hx hb dX10_read_38 rfl (lv_at hl 0 rfl) ?_
          refine lv_iconst (v := 1) hx hb dX10_read_39 (by decide) ?_
          obtain ⟨r11, σ12, er11, h⟩ := ub_of h
          refine u_callVi (As := [.int 1]) (rest := []) C G (c_X10_meets l D ad cs C.2.2.1 σ4 (1 : Int32) r11 σ12 er11) (cwV 1 C.1.2.2.2.2 gX10_read_X10_meets rfl rfl rfl (by decide +kernel) ⟨Nat.le_of_ble_eq_true rfl, Nat.le_of_ble_eq_true rfl⟩) obM_0 (ci := 10) (T := TX10) rfl rfl hl rfl (Nat.le_of_ble_eq_true rfl) dX10_read_40 (fun H locs G => ?_)
          obtain ⟨rfl, rfl⟩ := u_end h
          exact u_iret hx hb hr hlk G dX10_read_43
      · have h := u_pos q h
        refine lv_bipush (v := (-2)) hx hb dX10_read_26 (by decide) ?_
        obtain ⟨rfl, rfl⟩ := u_end h
        exact u_iret hx hb hr hlk G dX10_read_28
    · have h := u_pos q h
      refine lv_iconst (v := (-1)) hx hb dX10_read_15 (by decide) ?_
      obtain ⟨rfl, rfl⟩ := u_end h
      exact u_iret hx hb hr hlk G dX10_read_16
/-! X10_spread -/
def f_X10_spread_94 (k20 : St → Int32 → Int32 → Int32 → Int32 → Int32 → Option (Int32 × St)) (σ : St) (v1 : Int32) (v3 : Int32) (v4 : Int32) (v5 : Int32) (v6 : Int32) (vs0 : Int32) (vs1 : Int32) : Option (Int32 × St) :=
  ul (vs1 + vs0) fun x12 =>
  if v6 ≤ v4 then
    if v6 ≤ v4 then
      ul (v5 + 1) fun x13 =>
      k20 σ v1 x12 v3 v4 x13
    else
      ul (v5 + 1) fun x14 =>
      k20 σ v1 x12 v3 v6 x14
  else
    if v6 ≤ v4 then
      ul (v5 + 1) fun x15 =>
      k20 σ v1 x12 v5 v4 x15
    else
      ul (v5 + 1) fun x16 =>
      k20 σ v1 x12 v5 v6 x16
def f_X10_spread_35 (k20 : St → Int32 → Int32 → Int32 → Int32 → Int32 → Option (Int32 × St)) : Nat → St → Int32 → Int32 → Int32 → Int32 → Int32 → Int32 → Int32 → Option (Int32 × St)
  | 0, _, _, _, _, _, _, _, _ => none
  | fuel + 1, σ, v1, v2, v3, v4, v5, v6, v7 =>
    if (σ 0 37) ≤ v7 then
      if v6 ≤ 0 then
        f_X10_spread_94 k20 σ v1 v3 v4 v5 v6 0 v2
      else
        f_X10_spread_94 k20 σ v1 v3 v4 v5 v6 1 v2
    else
      ui v7 12 <|
      if (σ 29 v7.toNatClampNeg) = v1 then
        ui v7 12 <|
        if (σ 30 v7.toNatClampNeg) = v5 then
          ul (v6 + 1) fun x10 =>
          ul (v7 + 1) fun x11 =>
          f_X10_spread_35 k20 fuel σ v1 v2 v3 v4 v5 x10 x11
        else
          ul (v6 + 0) fun x8 =>
          ul (v7 + 1) fun x9 =>
          f_X10_spread_35 k20 fuel σ v1 v2 v3 v4 v5 x8 x9
      else
        ul (v6 + 0) fun x5 =>
        ul (v7 + 1) fun x6 =>
        f_X10_spread_35 k20 fuel σ v1 v2 v3 v4 v5 x5 x6
def f_X10_spread_20 : Nat → St → Int32 → Int32 → Int32 → Int32 → Int32 → Option (Int32 × St)
  | 0, _, _, _, _, _, _ => none
  | fuel + 1, σ, v1, v2, v3, v4, v5 =>
    if (σ 0 7) ≤ v5 then
      ul (us σ 0 2 v3) fun σ3 =>
      some (v2, σ3)
    else
      f_X10_spread_35 (f_X10_spread_20 fuel) fu σ v1 v2 v3 v4 v5 0 0
def f_X10_spread (σ : St) (v1 : Int32) : Option (Int32 × St) :=
  ub (f_X10_isLine σ v1) fun r1 σ2 =>
  if r1 = 0 then
    some (((-1) : Int32), σ2)
  else
    f_X10_spread_20 fu σ2 v1 0 (-9) 0 0
theorem fi_X10_spread_10 : ∀ w ∈ u_ws RX10 TX10 44, w ∈ wsX10_spread := by decide +kernel
set_option maxHeartbeats 4000000 in
set_option maxRecDepth 100000 in
theorem w_X10_spread_94 {p : Program} {l : Launch} {e : Env} {s : State} {m : MethodId} {args : Array Value} {below : List Frame} {meth : Method} {c : Code} {D : va_G} {ad : Nat → Nat} {cs : Nat → ClassId} (C : uC p { frames := 2, cells := 0, slots := 0, locals := 42 } s m args c cX10_spread 8 wsX10_spread RX10 D vwCl (tyM cs) 34 ad (uAd 34 ad s.heap.size) 0 0) (hr : meth.sig.returnType = (some .int)) (hlk : meth.locks = false) {r : Int32} {σ' : St} {k20 : St → Int32 → Int32 → Int32 → Int32 → Int32 → Option (Int32 × St)} (hk20 : ∀ (σ : St) (v1 : Int32) (v2 : Int32) (v3 : Int32) (v4 : Int32) (v5 : Int32), k20 σ v1 v2 v3 v4 v5 = some (r, σ') → ∀ (H : Heap) (locs : List Loc) (ls : Array Slot), uG D vwCl 34 ad (enM ad cs) (uAd 34 ad s.heap.size) s σ H locs → lv_has ls 8 [(0, .ref (ad 0)), (1, .int v1), (2, .int v2), (3, .int v3), (4, .int v4), (5, .int v5)] → W p l e { frames := 2, cells := 0, slots := 0, locals := 42 } s m args below meth c H locs 0 0 (MQ below (uQi D vwCl 34 ad (enM ad cs) r σ' s.heap.size) args s 0 0 (uAd 34 ad s.heap.size)) (F0 m 20 ls [])) :
    ∀ (σ : St) (v1 : Int32) (v3 : Int32) (v4 : Int32) (v5 : Int32) (v6 : Int32) (vs0 : Int32) (vs1 : Int32), f_X10_spread_94 k20 σ v1 v3 v4 v5 v6 vs0 vs1 = some (r, σ') → ∀ (H : Heap) (locs : List Loc) (ls : Array Slot), uG D vwCl 34 ad (enM ad cs) (uAd 34 ad s.heap.size) s σ H locs → lv_has ls 8 [(0, .ref (ad 0)), (1, .int v1), (3, .int v3), (4, .int v4), (5, .int v5), (6, .int v6)] → W p l e { frames := 2, cells := 0, slots := 0, locals := 42 } s m args below meth c H locs 0 0 (MQ below (uQi D vwCl 34 ad (enM ad cs) r σ' s.heap.size) args s 0 0 (uAd 34 ad s.heap.size)) (F0 m 94 ls [.int vs0, .int vs1]) := by
  have hx := C.1.1
  have hb := C.1.2.1
  intro σ v1 v3 v4 v5 v6 vs0 vs1  h H locs ls G hl
  unfold f_X10_spread_94 at h
  refine lv_iadd hx hb dX10_spread_94 ?_
  obtain ⟨x12, ex12, h⟩ := ul_of h
  refine u_nmi ex12 ?_
  refine lv_istore_n (lv' := [(2, .int x12), (0, .ref (ad 0)), (1, .int v1), (3, .int v3), (4, .int v4), (5, .int v5), (6, .int v6)]) hx hb dX10_spread_95 rfl hl (by decide) rfl (fun ls hl => ?_)
  refine lv_iload hx hb dX10_spread_96 (lv_at hl 6 rfl) ?_
  refine lv_iload hx hb dX10_spread_98 (lv_at hl 4 rfl) ?_
  refine lv_icmp_le (tgt := 108) hx hb dX10_spread_100 (by decide) (fun q => ?_) (fun q => ?_)
  · have h := u_pos q h
    refine lv_iload_n hx hb dX10_spread_108 rfl (lv_at hl 3 rfl) ?_
    refine lv_istore_n (lv' := [(3, .int v3), (2, .int x12), (0, .ref (ad 0)), (1, .int v1), (4, .int v4), (5, .int v5), (6, .int v6)]) hx hb dX10_spread_109 rfl hl (by decide) rfl (fun ls hl => ?_)
    refine lv_iload hx hb dX10_spread_110 (lv_at hl 6 rfl) ?_
    refine lv_iload hx hb dX10_spread_112 (lv_at hl 4 rfl) ?_
    refine lv_icmp_le (tgt := 122) hx hb dX10_spread_114 (by decide) (fun q => ?_) (fun q => ?_)
    · have h := u_pos q h
      refine lv_iload hx hb dX10_spread_122 (lv_at hl 4 rfl) ?_
      refine lv_istore (lv' := [(4, .int v4), (3, .int v3), (2, .int x12), (0, .ref (ad 0)), (1, .int v1), (5, .int v5), (6, .int v6)]) hx hb dX10_spread_124 hl (by decide) rfl (fun ls hl => ?_)
      obtain ⟨x13, ex13, h⟩ := ul_of h
      refine lv_iinc (v := x13) (lv' := [(5, .int x13), (4, .int v4), (3, .int v3), (2, .int x12), (0, .ref (ad 0)), (1, .int v1), (6, .int v6)]) hx hb dX10_spread_126 hl (k := 5) rfl (by rw [ex13]; rfl) (by decide) rfl (fun ls hl => ?_)
      refine lv_goto (tgt := 20) hx hb dX10_spread_129 (by decide) ?_
      exact hk20 σ v1 x12 v3 v4 x13 h H locs ls G (lv_sub hl [4, 5, 3, 2, 1, 0] rfl)
    · have h := u_neg q h
      refine lv_iload hx hb dX10_spread_117 (lv_at hl 6 rfl) ?_
      refine lv_goto (tgt := 124) hx hb dX10_spread_119 (by decide) ?_
      refine lv_istore (lv' := [(4, .int v6), (3, .int v3), (2, .int x12), (0, .ref (ad 0)), (1, .int v1), (5, .int v5), (6, .int v6)]) hx hb dX10_spread_124 hl (by decide) rfl (fun ls hl => ?_)
      obtain ⟨x14, ex14, h⟩ := ul_of h
      refine lv_iinc (v := x14) (lv' := [(5, .int x14), (4, .int v6), (3, .int v3), (2, .int x12), (0, .ref (ad 0)), (1, .int v1), (6, .int v6)]) hx hb dX10_spread_126 hl (k := 5) rfl (by rw [ex14]; rfl) (by decide) rfl (fun ls hl => ?_)
      refine lv_goto (tgt := 20) hx hb dX10_spread_129 (by decide) ?_
      exact hk20 σ v1 x12 v3 v6 x14 h H locs ls G (lv_sub hl [4, 5, 3, 2, 1, 0] rfl)
  · have h := u_neg q h
    refine lv_iload hx hb dX10_spread_103 (lv_at hl 5 rfl) ?_
    refine lv_goto (tgt := 109) hx hb dX10_spread_105 (by decide) ?_
    refine lv_istore_n (lv' := [(3, .int v5), (2, .int x12), (0, .ref (ad 0)), (1, .int v1), (4, .int v4), (5, .int v5), (6, .int v6)]) hx hb dX10_spread_109 rfl hl (by decide) rfl (fun ls hl => ?_)
    refine lv_iload hx hb dX10_spread_110 (lv_at hl 6 rfl) ?_
    refine lv_iload hx hb dX10_spread_112 (lv_at hl 4 rfl) ?_
    refine lv_icmp_le (tgt := 122) hx hb dX10_spread_114 (by decide) (fun q => ?_) (fun q => ?_)
    · have h := u_pos q h
      refine lv_iload hx hb dX10_spread_122 (lv_at hl 4 rfl) ?_
      refine lv_istore (lv' := [(4, .int v4), (3, .int v5), (2, .int x12), (0, .ref (ad 0)), (1, .int v1), (5, .int v5), (6, .int v6)]) hx hb dX10_spread_124 hl (by decide) rfl (fun ls hl => ?_)
      obtain ⟨x15, ex15, h⟩ := ul_of h
      refine lv_iinc (v := x15) (lv' := [(5, .int x15), (4, .int v4), (3, .int v5), (2, .int x12), (0, .ref (ad 0)), (1, .int v1), (6, .int v6)]) hx hb dX10_spread_126 hl (k := 5) rfl (by rw [ex15]; rfl) (by decide) rfl (fun ls hl => ?_)
      refine lv_goto (tgt := 20) hx hb dX10_spread_129 (by decide) ?_
      exact hk20 σ v1 x12 v5 v4 x15 h H locs ls G (lv_sub hl [4, 5, 3, 2, 1, 0] rfl)
    · have h := u_neg q h
      refine lv_iload hx hb dX10_spread_117 (lv_at hl 6 rfl) ?_
      refine lv_goto (tgt := 124) hx hb dX10_spread_119 (by decide) ?_
      refine lv_istore (lv' := [(4, .int v6), (3, .int v5), (2, .int x12), (0, .ref (ad 0)), (1, .int v1), (5, .int v5), (6, .int v6)]) hx hb dX10_spread_124 hl (by decide) rfl (fun ls hl => ?_)
      obtain ⟨x16, ex16, h⟩ := ul_of h
      refine lv_iinc (v := x16) (lv' := [(5, .int x16), (4, .int v6), (3, .int v5), (2, .int x12), (0, .ref (ad 0)), (1, .int v1), (6, .int v6)]) hx hb dX10_spread_126 hl (k := 5) rfl (by rw [ex16]; rfl) (by decide) rfl (fun ls hl => ?_)
      refine lv_goto (tgt := 20) hx hb dX10_spread_129 (by decide) ?_
      exact hk20 σ v1 x12 v5 v6 x16 h H locs ls G (lv_sub hl [4, 5, 3, 2, 1, 0] rfl)
set_option maxHeartbeats 4000000 in
set_option maxRecDepth 100000 in
theorem w_X10_spread_35 {p : Program} {l : Launch} {e : Env} {s : State} {m : MethodId} {args : Array Value} {below : List Frame} {meth : Method} {c : Code} {D : va_G} {ad : Nat → Nat} {cs : Nat → ClassId} (C : uC p { frames := 2, cells := 0, slots := 0, locals := 42 } s m args c cX10_spread 8 wsX10_spread RX10 D vwCl (tyM cs) 34 ad (uAd 34 ad s.heap.size) 0 0) (hr : meth.sig.returnType = (some .int)) (hlk : meth.locks = false) {r : Int32} {σ' : St} {k20 : St → Int32 → Int32 → Int32 → Int32 → Int32 → Option (Int32 × St)} (hk20 : ∀ (σ : St) (v1 : Int32) (v2 : Int32) (v3 : Int32) (v4 : Int32) (v5 : Int32), k20 σ v1 v2 v3 v4 v5 = some (r, σ') → ∀ (H : Heap) (locs : List Loc) (ls : Array Slot), uG D vwCl 34 ad (enM ad cs) (uAd 34 ad s.heap.size) s σ H locs → lv_has ls 8 [(0, .ref (ad 0)), (1, .int v1), (2, .int v2), (3, .int v3), (4, .int v4), (5, .int v5)] → W p l e { frames := 2, cells := 0, slots := 0, locals := 42 } s m args below meth c H locs 0 0 (MQ below (uQi D vwCl 34 ad (enM ad cs) r σ' s.heap.size) args s 0 0 (uAd 34 ad s.heap.size)) (F0 m 20 ls [])) :
    ∀ (n : Nat) (σ : St) (v1 : Int32) (v2 : Int32) (v3 : Int32) (v4 : Int32) (v5 : Int32) (v6 : Int32) (v7 : Int32), f_X10_spread_35 k20 n σ v1 v2 v3 v4 v5 v6 v7 = some (r, σ') → ∀ (H : Heap) (locs : List Loc) (ls : Array Slot), uG D vwCl 34 ad (enM ad cs) (uAd 34 ad s.heap.size) s σ H locs → lv_has ls 8 [(0, .ref (ad 0)), (1, .int v1), (2, .int v2), (3, .int v3), (4, .int v4), (5, .int v5), (6, .int v6), (7, .int v7)] → W p l e { frames := 2, cells := 0, slots := 0, locals := 42 } s m args below meth c H locs 0 0 (MQ below (uQi D vwCl 34 ad (enM ad cs) r σ' s.heap.size) args s 0 0 (uAd 34 ad s.heap.size)) (F0 m 35 ls []) := by
  have hx := C.1.1
  have hb := C.1.2.1
  intro n
  induction n with
  | zero => intro σ v1 v2 v3 v4 v5 v6 v7  h; exact absurd h (by simp [f_X10_spread_35])
  | succ fuel ih =>
    intro σ v1 v2 v3 v4 v5 v6 v7  h H locs ls G hl
    rw [f_X10_spread_35] at h
    refine lv_iload hx hb dX10_spread_35 (lv_at hl 7 rfl) ?_
    refine lv_aload_n hx hb dX10_spread_37 rfl (lv_at hl 0 rfl) ?_
    refine u_get (v := .int (σ 0 37)) C G obM_0 (ci := 10) (N := 44) (Cn := RX10) (T := TX10) rfl fi_X10_spread_10 37 (by decide) (by decide +kernel) rfl dX10_spread_38 ?_
    refine lv_icmp_ge (tgt := 83) hx hb dX10_spread_41 (by decide) (fun q => ?_) (fun q => ?_)
    · have h := u_pos q h
      refine lv_iload_n hx hb dX10_spread_83 rfl (lv_at hl 2 rfl) ?_
      refine lv_iload hx hb dX10_spread_84 (lv_at hl 6 rfl) ?_
      refine lv_if_le (tgt := 93) hx hb dX10_spread_86 (by decide) (fun q => ?_) (fun q => ?_)
      · have h := u_pos q h
        refine lv_iconst (v := 0) hx hb dX10_spread_93 (by decide) ?_
        exact w_X10_spread_94 C hr hlk hk20 σ v1 v3 v4 v5 v6 0 v2 h H locs ls G (lv_sub hl [0, 1, 3, 4, 5, 6] rfl)
      · have h := u_neg q h
        refine lv_iconst (v := 1) hx hb dX10_spread_89 (by decide) ?_
        refine lv_goto (tgt := 94) hx hb dX10_spread_90 (by decide) ?_
        exact w_X10_spread_94 C hr hlk hk20 σ v1 v3 v4 v5 v6 1 v2 h H locs ls G (lv_sub hl [0, 1, 3, 4, 5, 6] rfl)
    · have h := u_neg q h
      refine lv_iload hx hb dX10_spread_44 (lv_at hl 6 rfl) ?_
      refine lv_aload_n hx hb dX10_spread_46 rfl (lv_at hl 0 rfl) ?_
      refine u_get (v := .ref (ad 29)) C G obM_0 (ci := 10) (N := 44) (Cn := RX10) (T := TX10) rfl fi_X10_spread_10 38 (by decide) (by decide +kernel) rfl dX10_spread_47 ?_
      refine lv_iload hx hb dX10_spread_50 (lv_at hl 7 rfl) ?_
      obtain ⟨g4, h⟩ := ui_of h
      refine u_iald C G arM_29 (t0 := 0) rfl g4 dX10_spread_52 ?_
      refine lv_iload_n hx hb dX10_spread_53 rfl (lv_at hl 1 rfl) ?_
      refine lv_icmp_ne (tgt := 73) hx hb dX10_spread_54 (by decide) (fun q => ?_) (fun q => ?_)
      · have h := u_neg q h
        refine lv_iconst (v := 0) hx hb dX10_spread_73 (by decide) ?_
        refine lv_iadd hx hb dX10_spread_74 ?_
        obtain ⟨x5, ex5, h⟩ := ul_of h
        refine u_nmi ex5 ?_
        refine lv_istore (lv' := [(6, .int x5), (0, .ref (ad 0)), (1, .int v1), (2, .int v2), (3, .int v3), (4, .int v4), (5, .int v5), (7, .int v7)]) hx hb dX10_spread_75 hl (by decide) rfl (fun ls hl => ?_)
        obtain ⟨x6, ex6, h⟩ := ul_of h
        refine lv_iinc (v := x6) (lv' := [(7, .int x6), (6, .int x5), (0, .ref (ad 0)), (1, .int v1), (2, .int v2), (3, .int v3), (4, .int v4), (5, .int v5)]) hx hb dX10_spread_77 hl (k := 7) rfl (by rw [ex6]; rfl) (by decide) rfl (fun ls hl => ?_)
        refine lv_goto (tgt := 35) hx hb dX10_spread_80 (by decide) ?_
        exact ih σ v1 v2 v3 v4 v5 x5 x6 h H locs ls G (lv_sub hl [2, 3, 4, 5, 6, 7, 1, 0] rfl)
      · have h := u_pos q h
        refine lv_aload_n hx hb dX10_spread_57 rfl (lv_at hl 0 rfl) ?_
        refine u_get (v := .ref (ad 30)) C G obM_0 (ci := 10) (N := 44) (Cn := RX10) (T := TX10) rfl fi_X10_spread_10 39 (by decide) (by decide +kernel) rfl dX10_spread_58 ?_
        refine lv_iload hx hb dX10_spread_61 (lv_at hl 7 rfl) ?_
        obtain ⟨g7, h⟩ := ui_of h
        refine u_iald C G arM_30 (t0 := 0) rfl g7 dX10_spread_63 ?_
        refine lv_iload hx hb dX10_spread_64 (lv_at hl 5 rfl) ?_
        refine lv_icmp_ne (tgt := 73) hx hb dX10_spread_66 (by decide) (fun q => ?_) (fun q => ?_)
        · have h := u_neg q h
          refine lv_iconst (v := 0) hx hb dX10_spread_73 (by decide) ?_
          refine lv_iadd hx hb dX10_spread_74 ?_
          obtain ⟨x8, ex8, h⟩ := ul_of h
          refine u_nmi ex8 ?_
          refine lv_istore (lv' := [(6, .int x8), (0, .ref (ad 0)), (1, .int v1), (2, .int v2), (3, .int v3), (4, .int v4), (5, .int v5), (7, .int v7)]) hx hb dX10_spread_75 hl (by decide) rfl (fun ls hl => ?_)
          obtain ⟨x9, ex9, h⟩ := ul_of h
          refine lv_iinc (v := x9) (lv' := [(7, .int x9), (6, .int x8), (0, .ref (ad 0)), (1, .int v1), (2, .int v2), (3, .int v3), (4, .int v4), (5, .int v5)]) hx hb dX10_spread_77 hl (k := 7) rfl (by rw [ex9]; rfl) (by decide) rfl (fun ls hl => ?_)
          refine lv_goto (tgt := 35) hx hb dX10_spread_80 (by decide) ?_
          exact ih σ v1 v2 v3 v4 v5 x8 x9 h H locs ls G (lv_sub hl [2, 3, 4, 5, 6, 7, 1, 0] rfl)
        · have h := u_pos q h
          refine lv_iconst (v := 1) hx hb dX10_spread_69 (by decide) ?_
          refine lv_goto (tgt := 74) hx hb dX10_spread_70 (by decide) ?_
          refine lv_iadd hx hb dX10_spread_74 ?_
          obtain ⟨x10, ex10, h⟩ := ul_of h
          refine u_nmi ex10 ?_
          refine lv_istore (lv' := [(6, .int x10), (0, .ref (ad 0)), (1, .int v1), (2, .int v2), (3, .int v3), (4, .int v4), (5, .int v5), (7, .int v7)]) hx hb dX10_spread_75 hl (by decide) rfl (fun ls hl => ?_)
          obtain ⟨x11, ex11, h⟩ := ul_of h
          refine lv_iinc (v := x11) (lv' := [(7, .int x11), (6, .int x10), (0, .ref (ad 0)), (1, .int v1), (2, .int v2), (3, .int v3), (4, .int v4), (5, .int v5)]) hx hb dX10_spread_77 hl (k := 7) rfl (by rw [ex11]; rfl) (by decide) rfl (fun ls hl => ?_)
          refine lv_goto (tgt := 35) hx hb dX10_spread_80 (by decide) ?_
          exact ih σ v1 v2 v3 v4 v5 x10 x11 h H locs ls G (lv_sub hl [2, 3, 4, 5, 6, 7, 1, 0] rfl)
set_option maxHeartbeats 4000000 in
set_option maxRecDepth 100000 in
theorem w_X10_spread_20 {p : Program} {l : Launch} {e : Env} {s : State} {m : MethodId} {args : Array Value} {below : List Frame} {meth : Method} {c : Code} {D : va_G} {ad : Nat → Nat} {cs : Nat → ClassId} (C : uC p { frames := 2, cells := 0, slots := 0, locals := 42 } s m args c cX10_spread 8 wsX10_spread RX10 D vwCl (tyM cs) 34 ad (uAd 34 ad s.heap.size) 0 0) (hr : meth.sig.returnType = (some .int)) (hlk : meth.locks = false) {r : Int32} {σ' : St} :
    ∀ (n : Nat) (σ : St) (v1 : Int32) (v2 : Int32) (v3 : Int32) (v4 : Int32) (v5 : Int32), f_X10_spread_20 n σ v1 v2 v3 v4 v5 = some (r, σ') → ∀ (H : Heap) (locs : List Loc) (ls : Array Slot), uG D vwCl 34 ad (enM ad cs) (uAd 34 ad s.heap.size) s σ H locs → lv_has ls 8 [(0, .ref (ad 0)), (1, .int v1), (2, .int v2), (3, .int v3), (4, .int v4), (5, .int v5)] → W p l e { frames := 2, cells := 0, slots := 0, locals := 42 } s m args below meth c H locs 0 0 (MQ below (uQi D vwCl 34 ad (enM ad cs) r σ' s.heap.size) args s 0 0 (uAd 34 ad s.heap.size)) (F0 m 20 ls []) := by
  have hx := C.1.1
  have hb := C.1.2.1
  intro n
  induction n with
  | zero => intro σ v1 v2 v3 v4 v5  h; exact absurd h (by simp [f_X10_spread_20])
  | succ fuel ih =>
    intro σ v1 v2 v3 v4 v5  h H locs ls G hl
    rw [f_X10_spread_20] at h
    refine lv_iload hx hb dX10_spread_20 (lv_at hl 5 rfl) ?_
    refine lv_aload_n hx hb dX10_spread_22 rfl (lv_at hl 0 rfl) ?_
    refine u_get (v := .int (σ 0 7)) C G obM_0 (ci := 10) (N := 44) (Cn := RX10) (T := TX10) rfl fi_X10_spread_10 7 (by decide) (by decide +kernel) rfl dX10_spread_23 ?_
    refine lv_icmp_ge (tgt := 132) hx hb dX10_spread_26 (by decide) (fun q => ?_) (fun q => ?_)
    · have h := u_pos q h
      refine lv_aload_n hx hb dX10_spread_132 rfl (lv_at hl 0 rfl) ?_
      refine lv_iload_n hx hb dX10_spread_133 rfl (lv_at hl 3 rfl) ?_
      refine u_put (x := v3) (ty := .int) C G obM_0 (ci := 10) (N := 44) (Cn := RX10) (T := TX10) rfl fi_X10_spread_10 tyX10 tyX10_ok nmX10 2 (by decide) (by decide +kernel) rfl (by decide +kernel) rfl rfl (fun f => by simp) (fun f => rfl) dX10_spread_134 (fun H locs G => ?_)
      obtain ⟨σ3, eσ3, h⟩ := ul_of h
      replace G := uG_eq eσ3 G
      refine lv_iload_n hx hb dX10_spread_137 rfl (lv_at hl 2 rfl) ?_
      obtain ⟨rfl, rfl⟩ := u_end h
      exact u_iret hx hb hr hlk G dX10_spread_138
    · have h := u_neg q h
      refine lv_iconst (v := 0) hx hb dX10_spread_29 (by decide) ?_
      refine lv_istore (lv' := [(6, .int 0), (0, .ref (ad 0)), (1, .int v1), (2, .int v2), (3, .int v3), (4, .int v4), (5, .int v5)]) hx hb dX10_spread_30 hl (by decide) rfl (fun ls hl => ?_)
      refine lv_iconst (v := 0) hx hb dX10_spread_32 (by decide) ?_
      refine lv_istore (lv' := [(7, .int 0), (6, .int 0), (0, .ref (ad 0)), (1, .int v1), (2, .int v2), (3, .int v3), (4, .int v4), (5, .int v5)]) hx hb dX10_spread_33 hl (by decide) rfl (fun ls hl => ?_)
      exact w_X10_spread_35 C hr hlk ih fu σ v1 v2 v3 v4 v5 0 0 h H locs ls G (lv_sub hl [2, 3, 4, 5, 6, 7, 1, 0] rfl)
set_option maxHeartbeats 4000000 in
set_option maxRecDepth 100000 in
theorem c_X10_spread (l : Launch) (D : va_G) (ad : Nat → Nat) (cs : Nat → ClassId) (J : uJ 34 ad) (σ : St) (v1 : Int32) (r : Int32) (σ' : St) (h : f_X10_spread σ v1 = some (r, σ')) : uMi l yX10_spread wsX10_spread { frames := 2, cells := 0, slots := 0, locals := 42 } D vwCl (tyM cs) 34 ad (enM ad cs) [.ref (ad 0), .int v1] σ r σ' := by
  refine u_met (Qf := uQi D vwCl 34 ad (enM ad cs) r σ') (cc := cX10_spread) (maxL := 8) (ret := (some .int)) (lv := [(0, .ref (ad 0)), (1, .int v1)]) J (by decide) rfl (Nat.le_of_ble_eq_true rfl) rfl rfl rfl ?_
  intro p e s m args below meth c ls hx hb C hr hlk G hl
  unfold f_X10_spread at h
  obtain ⟨H, eH⟩ : ∃ H, H = s.heap := ⟨_, rfl⟩
  obtain ⟨locs, eL⟩ : ∃ locs : List Loc, locs = [] := ⟨_, rfl⟩
  refine u_start eH eL G ?_
  clear G eH eL
  intro G
  refine lv_iload_n hx hb dX10_spread_0 rfl (lv_at hl 1 rfl) ?_
  obtain ⟨r1, σ2, er1, h⟩ := ub_of h
  refine u_callSi (As := [.int v1]) (rest := []) C G (c_X10_isLine l D ad cs C.2.2.1 σ v1 r1 σ2 er1) (va_cwS 1 C.1.2.2.2.2 gX10_spread_X10_isLine rfl rfl rfl (by decide +kernel) ⟨Nat.le_of_ble_eq_true rfl, Nat.le_of_ble_eq_true rfl⟩) rfl hl rfl (Nat.le_of_ble_eq_true rfl) dX10_spread_1 (fun H locs G => ?_)
  refine lv_if_ne (tgt := 9) hx hb dX10_spread_4 (by decide) (fun q => ?_) (fun q => ?_)
  · have h := u_neg q h
    refine lv_iconst (v := 0) hx hb dX10_spread_9 (by decide) ?_
    refine lv_istore_n (lv' := [(2, .int 0), (0, .ref (ad 0)), (1, .int v1)]) hx hb dX10_spread_10 rfl hl (by decide) rfl (fun ls hl => ?_)
    refine lv_bipush (v := (-9)) hx hb dX10_spread_11 (by decide) ?_
    refine lv_istore_n (lv' := [(3, .int (-9)), (2, .int 0), (0, .ref (ad 0)), (1, .int v1)]) hx hb dX10_spread_13 rfl hl (by decide) rfl (fun ls hl => ?_)
    refine lv_iconst (v := 0) hx hb dX10_spread_14 (by decide) ?_
    refine lv_istore (lv' := [(4, .int 0), (3, .int (-9)), (2, .int 0), (0, .ref (ad 0)), (1, .int v1)]) hx hb dX10_spread_15 hl (by decide) rfl (fun ls hl => ?_)
    refine lv_iconst (v := 0) hx hb dX10_spread_17 (by decide) ?_
    refine lv_istore (lv' := [(5, .int 0), (4, .int 0), (3, .int (-9)), (2, .int 0), (0, .ref (ad 0)), (1, .int v1)]) hx hb dX10_spread_18 hl (by decide) rfl (fun ls hl => ?_)
    exact w_X10_spread_20 C hr hlk fu σ2 v1 0 (-9) 0 0 h H locs ls G (lv_sub hl [4, 5, 3, 2, 1, 0] rfl)
  · have h := u_pos q h
    refine lv_iconst (v := (-1)) hx hb dX10_spread_7 (by decide) ?_
    obtain ⟨rfl, rfl⟩ := u_end h
    exact u_iret hx hb hr hlk G dX10_spread_8
/-! X10_wall -/
def f_X10_wall (σ : St) (v1 : Int32) (v2 : Int32) (v3 : Int32) : Option (Int32 × St) :=
  ub (f_X10_in σ v1 (0 : Int32) (1000 : Int32)) fun r1 σ2 =>
  if r1 = 0 then
    some (((-1) : Int32), σ2)
  else
    ub (f_X10_in σ2 v2 (1 : Int32) (1000 : Int32)) fun r3 σ4 =>
    if r3 = 0 then
      some (((-1) : Int32), σ4)
    else
      if (σ4 0 40) = 12 then
        some (((-2) : Int32), σ4)
      else
        ui (σ4 0 40) 12 <|
        ul (us σ4 31 (σ4 0 40).toNatClampNeg v1) fun σ6 =>
        ui (σ6 0 40) 12 <|
        ul (us σ6 32 (σ6 0 40).toNatClampNeg v2) fun σ8 =>
        ui (σ8 0 40) 12 <|
        ul (us σ8 33 (σ8 0 40).toNatClampNeg (vp_nar .boolean v3)) fun σ10 =>
        ul (us σ10 0 40 ((σ10 0 40) + 1)) fun σ11 =>
        some (((σ11 0 40) - 1), σ11)
theorem fi_X10_wall_10 : ∀ w ∈ u_ws RX10 TX10 44, w ∈ wsX10_wall := by decide +kernel
set_option maxHeartbeats 4000000 in
set_option maxRecDepth 100000 in
theorem c_X10_wall (l : Launch) (D : va_G) (ad : Nat → Nat) (cs : Nat → ClassId) (J : uJ 34 ad) (σ : St) (v1 : Int32) (v2 : Int32) (v3 : Int32) (r : Int32) (σ' : St) (h : f_X10_wall σ v1 v2 v3 = some (r, σ')) : uMi l yX10_wall wsX10_wall { frames := 1, cells := 0, slots := 0, locals := 22 } D vwCl (tyM cs) 34 ad (enM ad cs) [.ref (ad 0), .int v1, .int v2, .int v3] σ r σ' := by
  refine u_met (Qf := uQi D vwCl 34 ad (enM ad cs) r σ') (cc := cX10_wall) (maxL := 4) (ret := (some .int)) (lv := [(0, .ref (ad 0)), (1, .int v1), (2, .int v2), (3, .int v3)]) J (by decide) rfl (Nat.le_of_ble_eq_true rfl) rfl rfl rfl ?_
  intro p e s m args below meth c ls hx hb C hr hlk G hl
  unfold f_X10_wall at h
  obtain ⟨H, eH⟩ : ∃ H, H = s.heap := ⟨_, rfl⟩
  obtain ⟨locs, eL⟩ : ∃ locs : List Loc, locs = [] := ⟨_, rfl⟩
  refine u_start eH eL G ?_
  clear G eH eL
  intro G
  refine lv_iload_n hx hb dX10_wall_0 rfl (lv_at hl 1 rfl) ?_
  refine lv_iconst (v := 0) hx hb dX10_wall_1 (by decide) ?_
  refine lv_sipush (v := 1000) hx hb dX10_wall_2 (by decide) ?_
  obtain ⟨r1, σ2, er1, h⟩ := ub_of h
  refine u_callSi (As := [.int v1, .int 0, .int 1000]) (rest := []) C G (c_X10_in l D ad cs C.2.2.1 σ v1 (0 : Int32) (1000 : Int32) r1 σ2 er1) (va_cwS 3 C.1.2.2.2.2 gX10_wall_X10_in rfl rfl rfl (by decide +kernel) ⟨Nat.le_of_ble_eq_true rfl, Nat.le_of_ble_eq_true rfl⟩) rfl hl rfl (Nat.le_of_ble_eq_true rfl) dX10_wall_5 (fun H locs G => ?_)
  refine lv_if_eq (tgt := 22) hx hb dX10_wall_8 (by decide) (fun q => ?_) (fun q => ?_)
  · have h := u_pos q h
    refine lv_iconst (v := (-1)) hx hb dX10_wall_22 (by decide) ?_
    obtain ⟨rfl, rfl⟩ := u_end h
    exact u_iret hx hb hr hlk G dX10_wall_23
  · have h := u_neg q h
    refine lv_iload_n hx hb dX10_wall_11 rfl (lv_at hl 2 rfl) ?_
    refine lv_iconst (v := 1) hx hb dX10_wall_12 (by decide) ?_
    refine lv_sipush (v := 1000) hx hb dX10_wall_13 (by decide) ?_
    obtain ⟨r3, σ4, er3, h⟩ := ub_of h
    refine u_callSi (As := [.int v2, .int 1, .int 1000]) (rest := []) C G (c_X10_in l D ad cs C.2.2.1 σ2 v2 (1 : Int32) (1000 : Int32) r3 σ4 er3) (va_cwS 3 C.1.2.2.2.2 gX10_wall_X10_in rfl rfl rfl (by decide +kernel) ⟨Nat.le_of_ble_eq_true rfl, Nat.le_of_ble_eq_true rfl⟩) rfl hl rfl (Nat.le_of_ble_eq_true rfl) dX10_wall_16 (fun H locs G => ?_)
    refine lv_if_ne (tgt := 24) hx hb dX10_wall_19 (by decide) (fun q => ?_) (fun q => ?_)
    · have h := u_neg q h
      refine lv_aload_n hx hb dX10_wall_24 rfl (lv_at hl 0 rfl) ?_
      refine u_get (v := .int (σ4 0 40)) C G obM_0 (ci := 10) (N := 44) (Cn := RX10) (T := TX10) rfl fi_X10_wall_10 40 (by decide) (by decide +kernel) rfl dX10_wall_25 ?_
      refine lv_bipush (v := 12) hx hb dX10_wall_28 (by decide) ?_
      refine lv_icmp_ne (tgt := 36) hx hb dX10_wall_30 (by decide) (fun q => ?_) (fun q => ?_)
      · have h := u_neg q h
        refine lv_aload_n hx hb dX10_wall_36 rfl (lv_at hl 0 rfl) ?_
        refine u_get (v := .ref (ad 31)) C G obM_0 (ci := 10) (N := 44) (Cn := RX10) (T := TX10) rfl fi_X10_wall_10 41 (by decide) (by decide +kernel) rfl dX10_wall_37 ?_
        refine lv_aload_n hx hb dX10_wall_40 rfl (lv_at hl 0 rfl) ?_
        refine u_get (v := .int (σ4 0 40)) C G obM_0 (ci := 10) (N := 44) (Cn := RX10) (T := TX10) rfl fi_X10_wall_10 40 (by decide) (by decide +kernel) rfl dX10_wall_41 ?_
        refine lv_iload_n hx hb dX10_wall_44 rfl (lv_at hl 1 rfl) ?_
        obtain ⟨g5, h⟩ := ui_of h
        refine u_iast C G arM_31 (t0 := 0) rfl g5 dX10_wall_45 (fun H locs G => ?_)
        obtain ⟨σ6, eσ6, h⟩ := ul_of h
        replace G := uG_eq eσ6 G
        refine lv_aload_n hx hb dX10_wall_46 rfl (lv_at hl 0 rfl) ?_
        refine u_get (v := .ref (ad 32)) C G obM_0 (ci := 10) (N := 44) (Cn := RX10) (T := TX10) rfl fi_X10_wall_10 42 (by decide) (by decide +kernel) rfl dX10_wall_47 ?_
        refine lv_aload_n hx hb dX10_wall_50 rfl (lv_at hl 0 rfl) ?_
        refine u_get (v := .int (σ6 0 40)) C G obM_0 (ci := 10) (N := 44) (Cn := RX10) (T := TX10) rfl fi_X10_wall_10 40 (by decide) (by decide +kernel) rfl dX10_wall_51 ?_
        refine lv_iload_n hx hb dX10_wall_54 rfl (lv_at hl 2 rfl) ?_
        obtain ⟨g7, h⟩ := ui_of h
        refine u_iast C G arM_32 (t0 := 0) rfl g7 dX10_wall_55 (fun H locs G => ?_)
        obtain ⟨σ8, eσ8, h⟩ := ul_of h
        replace G := uG_eq eσ8 G
        refine lv_aload_n hx hb dX10_wall_56 rfl (lv_at hl 0 rfl) ?_
        refine u_get (v := .ref (ad 33)) C G obM_0 (ci := 10) (N := 44) (Cn := RX10) (T := TX10) rfl fi_X10_wall_10 43 (by decide) (by decide +kernel) rfl dX10_wall_57 ?_
        refine lv_aload_n hx hb dX10_wall_60 rfl (lv_at hl 0 rfl) ?_
        refine u_get (v := .int (σ8 0 40)) C G obM_0 (ci := 10) (N := 44) (Cn := RX10) (T := TX10) rfl fi_X10_wall_10 40 (by decide) (by decide +kernel) rfl dX10_wall_61 ?_
        refine lv_iload_n hx hb dX10_wall_64 rfl (lv_at hl 3 rfl) ?_
        obtain ⟨g9, h⟩ := ui_of h
        refine u_zast C G arM_33 (t0 := 2) rfl g9 dX10_wall_65 (fun H locs G => ?_)
        obtain ⟨σ10, eσ10, h⟩ := ul_of h
        replace G := uG_eq eσ10 G
        refine lv_aload_n hx hb dX10_wall_66 rfl (lv_at hl 0 rfl) ?_
        refine lv_dup hx hb dX10_wall_67 rfl ?_
        refine u_get (v := .int (σ10 0 40)) C G obM_0 (ci := 10) (N := 44) (Cn := RX10) (T := TX10) rfl fi_X10_wall_10 40 (by decide) (by decide +kernel) rfl dX10_wall_68 ?_
        refine lv_iconst (v := 1) hx hb dX10_wall_71 (by decide) ?_
        refine lv_iadd hx hb dX10_wall_72 ?_
        refine u_put (x := ((σ10 0 40) + 1)) (ty := .int) C G obM_0 (ci := 10) (N := 44) (Cn := RX10) (T := TX10) rfl fi_X10_wall_10 tyX10 tyX10_ok nmX10 40 (by decide) (by decide +kernel) rfl (by decide +kernel) rfl rfl (fun f => by simp) (fun f => rfl) dX10_wall_73 (fun H locs G => ?_)
        obtain ⟨σ11, eσ11, h⟩ := ul_of h
        replace G := uG_eq eσ11 G
        refine lv_aload_n hx hb dX10_wall_76 rfl (lv_at hl 0 rfl) ?_
        refine u_get (v := .int (σ11 0 40)) C G obM_0 (ci := 10) (N := 44) (Cn := RX10) (T := TX10) rfl fi_X10_wall_10 40 (by decide) (by decide +kernel) rfl dX10_wall_77 ?_
        refine lv_iconst (v := 1) hx hb dX10_wall_80 (by decide) ?_
        refine lv_isub hx hb dX10_wall_81 ?_
        obtain ⟨rfl, rfl⟩ := u_end h
        exact u_iret hx hb hr hlk G dX10_wall_82
      · have h := u_pos q h
        refine lv_bipush (v := (-2)) hx hb dX10_wall_33 (by decide) ?_
        obtain ⟨rfl, rfl⟩ := u_end h
        exact u_iret hx hb hr hlk G dX10_wall_35
    · have h := u_pos q h
      refine lv_iconst (v := (-1)) hx hb dX10_wall_22 (by decide) ?_
      obtain ⟨rfl, rfl⟩ := u_end h
      exact u_iret hx hb hr hlk G dX10_wall_23
