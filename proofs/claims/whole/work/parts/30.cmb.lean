/-! X10_firm -/
def f_X10_firm_95 (σ : St) (v1 : Int32) (v2 : Int32) (v3 : Int32) (v4 : Int32) (v5 : Int32) : Option (Int32 × St) :=
  if v5 = (-9) then
    if v5 = (-9) then
      ub (f_X10_put σ v1 (1 : Int32) v2 v3 v4 v5) fun r19 σ20 =>
      some (r19, σ20)
    else
      ub (f_X10_put σ v1 (2 : Int32) v2 v3 v4 v5) fun r17 σ18 =>
      some (r17, σ18)
  else
    ub (f_X10_isFirm σ v5) fun r21 σ22 =>
    if r21 = 0 then
      ub (f_X10_meets σ22 (3 : Int32)) fun r27 σ28 =>
      some (r27, σ28)
    else
      if v5 = (-9) then
        ub (f_X10_put σ22 v1 (1 : Int32) v2 v3 v4 v5) fun r25 σ26 =>
        some (r25, σ26)
      else
        ub (f_X10_put σ22 v1 (2 : Int32) v2 v3 v4 v5) fun r23 σ24 =>
        some (r23, σ24)
def f_X10_firm_51 (σ : St) (v1 : Int32) (v2 : Int32) (v3 : Int32) (v4 : Int32) (v5 : Int32) : Option (Int32 × St) :=
  if (σ 0 7) = 16 then
    some (((-2) : Int32), σ)
  else
    ui v1 4 <|
    if (σ 3 v1.toNatClampNeg) < 0 then
      ub (f_X10_meets σ (1 : Int32)) fun r12 σ13 =>
      some (r12, σ13)
    else
      if v5 = (-9) then
        f_X10_firm_95 σ v1 v2 v3 v4 v5
      else
        ui v5 16 <|
        if (σ 9 v5.toNatClampNeg) = 0 then
          f_X10_firm_95 σ v1 v2 v3 v4 v5
        else
          ub (f_X10_meets σ (1 : Int32)) fun r15 σ16 =>
          some (r15, σ16)
def f_X10_firm (σ : St) (v1 : Int32) (v2 : Int32) (v3 : Int32) (v4 : Int32) (v5 : Int32) : Option (Int32 × St) :=
  ub (f_X10_isSheet σ v1) fun r1 σ2 =>
  if r1 = 0 then
    some (((-1) : Int32), σ2)
  else
    ub (f_X10_isHouse σ2 v2) fun r3 σ4 =>
    if r3 = 0 then
      some (((-1) : Int32), σ4)
    else
      ub (f_X10_isYear σ4 v3) fun r5 σ6 =>
      if r5 = 0 then
        some (((-1) : Int32), σ6)
      else
        ub (f_X10_in σ6 v4 v3 (2100 : Int32)) fun r7 σ8 =>
        if r7 = 0 then
          some (((-1) : Int32), σ8)
        else
          if v5 = (-9) then
            f_X10_firm_51 σ8 v1 v2 v3 v4 v5
          else
            ub (f_X10_isWord σ8 v5) fun r9 σ10 =>
            if r9 = 0 then
              some (((-1) : Int32), σ10)
            else
              f_X10_firm_51 σ10 v1 v2 v3 v4 v5
theorem fi_X10_firm_10 : ∀ w ∈ u_ws RX10 TX10 44, w ∈ wsX10_firm := by decide +kernel
set_option maxHeartbeats 4000000 in
set_option maxRecDepth 100000 in
theorem w_X10_firm_95 {p : Program} {l : Launch} {e : Env} {s : State} {m : MethodId} {args : Array Value} {below : List Frame} {meth : Method} {c : Code} {D : va_G} {ad : Nat → Nat} {cs : Nat → ClassId} (C : uC p { frames := 4, cells := 0, slots := 0, locals := 94 } s m args c cX10_firm 6 wsX10_firm RX10 D vwCl (tyM cs) 34 ad (uAd 34 ad s.heap.size) 0 0) (hr : meth.sig.returnType = (some .int)) (hlk : meth.locks = false) {r : Int32} {σ' : St} :
    ∀ (σ : St) (v1 : Int32) (v2 : Int32) (v3 : Int32) (v4 : Int32) (v5 : Int32), f_X10_firm_95 σ v1 v2 v3 v4 v5 = some (r, σ') → ∀ (H : Heap) (locs : List Loc) (ls : Array Slot), uG D vwCl 34 ad (enM ad cs) (uAd 34 ad s.heap.size) s σ H locs → lv_has ls 6 [(0, .ref (ad 0)), (1, .int v1), (2, .int v2), (3, .int v3), (4, .int v4), (5, .int v5)] → W p l e { frames := 4, cells := 0, slots := 0, locals := 94 } s m args below meth c H locs 0 0 (MQ below (uQi D vwCl 34 ad (enM ad cs) r σ' s.heap.size) args s 0 0 (uAd 34 ad s.heap.size)) (F0 m 95 ls []) := by
  have hx := C.1.1
  have hb := C.1.2.1
  intro σ v1 v2 v3 v4 v5  h H locs ls G hl
  unfold f_X10_firm_95 at h
  refine lv_iload hx hb dX10_firm_95 (lv_at hl 5 rfl) ?_
  refine lv_bipush (v := (-9)) hx hb dX10_firm_97 (by decide) ?_
  refine lv_icmp_eq (tgt := 117) hx hb dX10_firm_99 (by decide) (fun q => ?_) (fun q => ?_)
  · have h := u_pos q h
    refine lv_aload_n hx hb dX10_firm_117 rfl (lv_at hl 0 rfl) ?_
    refine lv_iload_n hx hb dX10_firm_118 rfl (lv_at hl 1 rfl) ?_
    refine lv_iload hx hb dX10_firm_119 (lv_at hl 5 rfl) ?_
    refine lv_bipush (v := (-9)) hx hb dX10_firm_121 (by decide) ?_
    refine lv_icmp_ne (tgt := 130) hx hb dX10_firm_123 (by decide) (fun q => ?_) (fun q => ?_)
    · have h := u_neg q h
      refine lv_iconst (v := 2) hx hb dX10_firm_130 (by decide) ?_
      refine lv_iload_n hx hb dX10_firm_131 rfl (lv_at hl 2 rfl) ?_
      refine lv_iload_n hx hb dX10_firm_132 rfl (lv_at hl 3 rfl) ?_
      refine lv_iload hx hb dX10_firm_133 (lv_at hl 4 rfl) ?_
      refine lv_iload hx hb dX10_firm_135 (lv_at hl 5 rfl) ?_
      obtain ⟨r17, σ18, er17, h⟩ := ub_of h
      refine u_callVi (As := [.int v1, .int 2, .int v2, .int v3, .int v4, .int v5]) (rest := []) C G (c_X10_put l D ad cs C.2.2.1 σ v1 (2 : Int32) v2 v3 v4 v5 r17 σ18 er17) (cwV 6 C.1.2.2.2.2 gX10_firm_X10_put rfl rfl rfl (by decide +kernel) ⟨Nat.le_of_ble_eq_true rfl, Nat.le_of_ble_eq_true rfl⟩) obM_0 (ci := 10) (T := TX10) rfl rfl hl rfl (Nat.le_of_ble_eq_true rfl) dX10_firm_137 (fun H locs G => ?_)
      obtain ⟨rfl, rfl⟩ := u_end h
      exact u_iret hx hb hr hlk G dX10_firm_140
    · have h := u_pos q h
      refine lv_iconst (v := 1) hx hb dX10_firm_126 (by decide) ?_
      refine lv_goto (tgt := 131) hx hb dX10_firm_127 (by decide) ?_
      refine lv_iload_n hx hb dX10_firm_131 rfl (lv_at hl 2 rfl) ?_
      refine lv_iload_n hx hb dX10_firm_132 rfl (lv_at hl 3 rfl) ?_
      refine lv_iload hx hb dX10_firm_133 (lv_at hl 4 rfl) ?_
      refine lv_iload hx hb dX10_firm_135 (lv_at hl 5 rfl) ?_
      obtain ⟨r19, σ20, er19, h⟩ := ub_of h
      refine u_callVi (As := [.int v1, .int 1, .int v2, .int v3, .int v4, .int v5]) (rest := []) C G (c_X10_put l D ad cs C.2.2.1 σ v1 (1 : Int32) v2 v3 v4 v5 r19 σ20 er19) (cwV 6 C.1.2.2.2.2 gX10_firm_X10_put rfl rfl rfl (by decide +kernel) ⟨Nat.le_of_ble_eq_true rfl, Nat.le_of_ble_eq_true rfl⟩) obM_0 (ci := 10) (T := TX10) rfl rfl hl rfl (Nat.le_of_ble_eq_true rfl) dX10_firm_137 (fun H locs G => ?_)
      obtain ⟨rfl, rfl⟩ := u_end h
      exact u_iret hx hb hr hlk G dX10_firm_140
  · have h := u_neg q h
    refine lv_aload_n hx hb dX10_firm_102 rfl (lv_at hl 0 rfl) ?_
    refine lv_iload hx hb dX10_firm_103 (lv_at hl 5 rfl) ?_
    obtain ⟨r21, σ22, er21, h⟩ := ub_of h
    refine u_callVi (As := [.int v5]) (rest := []) C G (c_X10_isFirm l D ad cs C.2.2.1 σ v5 r21 σ22 er21) (cwV 1 C.1.2.2.2.2 gX10_firm_X10_isFirm rfl rfl rfl (by decide +kernel) ⟨Nat.le_of_ble_eq_true rfl, Nat.le_of_ble_eq_true rfl⟩) obM_0 (ci := 10) (T := TX10) rfl rfl hl rfl (Nat.le_of_ble_eq_true rfl) dX10_firm_105 (fun H locs G => ?_)
    refine lv_if_ne (tgt := 117) hx hb dX10_firm_108 (by decide) (fun q => ?_) (fun q => ?_)
    · have h := u_neg q h
      refine lv_aload_n hx hb dX10_firm_117 rfl (lv_at hl 0 rfl) ?_
      refine lv_iload_n hx hb dX10_firm_118 rfl (lv_at hl 1 rfl) ?_
      refine lv_iload hx hb dX10_firm_119 (lv_at hl 5 rfl) ?_
      refine lv_bipush (v := (-9)) hx hb dX10_firm_121 (by decide) ?_
      refine lv_icmp_ne (tgt := 130) hx hb dX10_firm_123 (by decide) (fun q => ?_) (fun q => ?_)
      · have h := u_neg q h
        refine lv_iconst (v := 2) hx hb dX10_firm_130 (by decide) ?_
        refine lv_iload_n hx hb dX10_firm_131 rfl (lv_at hl 2 rfl) ?_
        refine lv_iload_n hx hb dX10_firm_132 rfl (lv_at hl 3 rfl) ?_
        refine lv_iload hx hb dX10_firm_133 (lv_at hl 4 rfl) ?_
        refine lv_iload hx hb dX10_firm_135 (lv_at hl 5 rfl) ?_
        obtain ⟨r23, σ24, er23, h⟩ := ub_of h
        refine u_callVi (As := [.int v1, .int 2, .int v2, .int v3, .int v4, .int v5]) (rest := []) C G (c_X10_put l D ad cs C.2.2.1 σ22 v1 (2 : Int32) v2 v3 v4 v5 r23 σ24 er23) (cwV 6 C.1.2.2.2.2 gX10_firm_X10_put rfl rfl rfl (by decide +kernel) ⟨Nat.le_of_ble_eq_true rfl, Nat.le_of_ble_eq_true rfl⟩) obM_0 (ci := 10) (T := TX10) rfl rfl hl rfl (Nat.le_of_ble_eq_true rfl) dX10_firm_137 (fun H locs G => ?_)
        obtain ⟨rfl, rfl⟩ := u_end h
        exact u_iret hx hb hr hlk G dX10_firm_140
      · have h := u_pos q h
        refine lv_iconst (v := 1) hx hb dX10_firm_126 (by decide) ?_
        refine lv_goto (tgt := 131) hx hb dX10_firm_127 (by decide) ?_
        refine lv_iload_n hx hb dX10_firm_131 rfl (lv_at hl 2 rfl) ?_
        refine lv_iload_n hx hb dX10_firm_132 rfl (lv_at hl 3 rfl) ?_
        refine lv_iload hx hb dX10_firm_133 (lv_at hl 4 rfl) ?_
        refine lv_iload hx hb dX10_firm_135 (lv_at hl 5 rfl) ?_
        obtain ⟨r25, σ26, er25, h⟩ := ub_of h
        refine u_callVi (As := [.int v1, .int 1, .int v2, .int v3, .int v4, .int v5]) (rest := []) C G (c_X10_put l D ad cs C.2.2.1 σ22 v1 (1 : Int32) v2 v3 v4 v5 r25 σ26 er25) (cwV 6 C.1.2.2.2.2 gX10_firm_X10_put rfl rfl rfl (by decide +kernel) ⟨Nat.le_of_ble_eq_true rfl, Nat.le_of_ble_eq_true rfl⟩) obM_0 (ci := 10) (T := TX10) rfl rfl hl rfl (Nat.le_of_ble_eq_true rfl) dX10_firm_137 (fun H locs G => ?_)
        obtain ⟨rfl, rfl⟩ := u_end h
        exact u_iret hx hb hr hlk G dX10_firm_140
    · have h := u_pos q h
      refine lv_aload_n hx hb dX10_firm_111 rfl (lv_at hl 0 rfl) ?_
      refine lv_iconst (v := 3) hx hb dX10_firm_112 (by decide) ?_
      obtain ⟨r27, σ28, er27, h⟩ := ub_of h
      refine u_callVi (As := [.int 3]) (rest := []) C G (c_X10_meets l D ad cs C.2.2.1 σ22 (3 : Int32) r27 σ28 er27) (cwV 1 C.1.2.2.2.2 gX10_firm_X10_meets rfl rfl rfl (by decide +kernel) ⟨Nat.le_of_ble_eq_true rfl, Nat.le_of_ble_eq_true rfl⟩) obM_0 (ci := 10) (T := TX10) rfl rfl hl rfl (Nat.le_of_ble_eq_true rfl) dX10_firm_113 (fun H locs G => ?_)
      obtain ⟨rfl, rfl⟩ := u_end h
      exact u_iret hx hb hr hlk G dX10_firm_116
set_option maxHeartbeats 4000000 in
set_option maxRecDepth 100000 in
theorem w_X10_firm_51 {p : Program} {l : Launch} {e : Env} {s : State} {m : MethodId} {args : Array Value} {below : List Frame} {meth : Method} {c : Code} {D : va_G} {ad : Nat → Nat} {cs : Nat → ClassId} (C : uC p { frames := 4, cells := 0, slots := 0, locals := 94 } s m args c cX10_firm 6 wsX10_firm RX10 D vwCl (tyM cs) 34 ad (uAd 34 ad s.heap.size) 0 0) (hr : meth.sig.returnType = (some .int)) (hlk : meth.locks = false) {r : Int32} {σ' : St} :
    ∀ (σ : St) (v1 : Int32) (v2 : Int32) (v3 : Int32) (v4 : Int32) (v5 : Int32), f_X10_firm_51 σ v1 v2 v3 v4 v5 = some (r, σ') → ∀ (H : Heap) (locs : List Loc) (ls : Array Slot), uG D vwCl 34 ad (enM ad cs) (uAd 34 ad s.heap.size) s σ H locs → lv_has ls 6 [(0, .ref (ad 0)), (1, .int v1), (2, .int v2), (3, .int v3), (4, .int v4), (5, .int v5)] → W p l e { frames := 4, cells := 0, slots := 0, locals := 94 } s m args below meth c H locs 0 0 (MQ below (uQi D vwCl 34 ad (enM ad cs) r σ' s.heap.size) args s 0 0 (uAd 34 ad s.heap.size)) (F0 m 51 ls []) := by
  have hx := C.1.1
  have hb := C.1.2.1
  intro σ v1 v2 v3 v4 v5  h H locs ls G hl
  unfold f_X10_firm_51 at h
  refine lv_aload_n hx hb dX10_firm_51 rfl (lv_at hl 0 rfl) ?_
  refine u_get (v := .int (σ 0 7)) C G obM_0 (ci := 10) (N := 44) (Cn := RX10) (T := TX10) rfl fi_X10_firm_10 7 (by decide) (by decide +kernel) rfl dX10_firm_52 ?_
  refine lv_bipush (v := 16) hx hb dX10_firm_55 (by decide) ?_
  refine lv_icmp_ne (tgt := 63) hx hb dX10_firm_57 (by decide) (fun q => ?_) (fun q => ?_)
  · have h := u_neg q h
    refine lv_aload_n hx hb dX10_firm_63 rfl (lv_at hl 0 rfl) ?_
    refine u_get (v := .ref (ad 3)) C G obM_0 (ci := 10) (N := 44) (Cn := RX10) (T := TX10) rfl fi_X10_firm_10 4 (by decide) (by decide +kernel) rfl dX10_firm_64 ?_
    refine lv_iload_n hx hb dX10_firm_67 rfl (lv_at hl 1 rfl) ?_
    obtain ⟨g11, h⟩ := ui_of h
    refine u_iald C G arM_3 (t0 := 0) rfl g11 dX10_firm_68 ?_
    refine lv_if_lt (tgt := 89) hx hb dX10_firm_69 (by decide) (fun q => ?_) (fun q => ?_)
    · have h := u_pos q h
      refine lv_aload_n hx hb dX10_firm_89 rfl (lv_at hl 0 rfl) ?_
      refine lv_iconst (v := 1) hx hb dX10_firm_90 (by decide) ?_
      obtain ⟨r12, σ13, er12, h⟩ := ub_of h
      refine u_callVi (As := [.int 1]) (rest := []) C G (c_X10_meets l D ad cs C.2.2.1 σ (1 : Int32) r12 σ13 er12) (cwV 1 C.1.2.2.2.2 gX10_firm_X10_meets rfl rfl rfl (by decide +kernel) ⟨Nat.le_of_ble_eq_true rfl, Nat.le_of_ble_eq_true rfl⟩) obM_0 (ci := 10) (T := TX10) rfl rfl hl rfl (Nat.le_of_ble_eq_true rfl) dX10_firm_91 (fun H locs G => ?_)
      obtain ⟨rfl, rfl⟩ := u_end h
      exact u_iret hx hb hr hlk G dX10_firm_94
    · have h := u_neg q h
      refine lv_iload hx hb dX10_firm_72 (lv_at hl 5 rfl) ?_
      refine lv_bipush (v := (-9)) hx hb dX10_firm_74 (by decide) ?_
      refine lv_icmp_eq (tgt := 95) hx hb dX10_firm_76 (by decide) (fun q => ?_) (fun q => ?_)
      · have h := u_pos q h
        exact w_X10_firm_95 C hr hlk σ v1 v2 v3 v4 v5 h H locs ls G (lv_sub hl [0, 1, 2, 3, 4, 5] rfl)
      · have h := u_neg q h
        refine lv_aload_n hx hb dX10_firm_79 rfl (lv_at hl 0 rfl) ?_
        refine u_get (v := .ref (ad 9)) C G obM_0 (ci := 10) (N := 44) (Cn := RX10) (T := TX10) rfl fi_X10_firm_10 11 (by decide) (by decide +kernel) rfl dX10_firm_80 ?_
        refine lv_iload hx hb dX10_firm_83 (lv_at hl 5 rfl) ?_
        obtain ⟨g14, h⟩ := ui_of h
        refine u_zald C G arM_9 (t0 := 2) rfl g14 dX10_firm_85 ?_
        refine lv_if_eq (tgt := 95) hx hb dX10_firm_86 (by decide) (fun q => ?_) (fun q => ?_)
        · have h := u_pos q h
          exact w_X10_firm_95 C hr hlk σ v1 v2 v3 v4 v5 h H locs ls G (lv_sub hl [0, 1, 2, 3, 4, 5] rfl)
        · have h := u_neg q h
          refine lv_aload_n hx hb dX10_firm_89 rfl (lv_at hl 0 rfl) ?_
          refine lv_iconst (v := 1) hx hb dX10_firm_90 (by decide) ?_
          obtain ⟨r15, σ16, er15, h⟩ := ub_of h
          refine u_callVi (As := [.int 1]) (rest := []) C G (c_X10_meets l D ad cs C.2.2.1 σ (1 : Int32) r15 σ16 er15) (cwV 1 C.1.2.2.2.2 gX10_firm_X10_meets rfl rfl rfl (by decide +kernel) ⟨Nat.le_of_ble_eq_true rfl, Nat.le_of_ble_eq_true rfl⟩) obM_0 (ci := 10) (T := TX10) rfl rfl hl rfl (Nat.le_of_ble_eq_true rfl) dX10_firm_91 (fun H locs G => ?_)
          obtain ⟨rfl, rfl⟩ := u_end h
          exact u_iret hx hb hr hlk G dX10_firm_94
  · have h := u_pos q h
    refine lv_bipush (v := (-2)) hx hb dX10_firm_60 (by decide) ?_
    obtain ⟨rfl, rfl⟩ := u_end h
    exact u_iret hx hb hr hlk G dX10_firm_62
set_option maxHeartbeats 4000000 in
set_option maxRecDepth 100000 in
theorem c_X10_firm (l : Launch) (D : va_G) (ad : Nat → Nat) (cs : Nat → ClassId) (J : uJ 34 ad) (σ : St) (v1 : Int32) (v2 : Int32) (v3 : Int32) (v4 : Int32) (v5 : Int32) (r : Int32) (σ' : St) (h : f_X10_firm σ v1 v2 v3 v4 v5 = some (r, σ')) : uMi l yX10_firm wsX10_firm { frames := 4, cells := 0, slots := 0, locals := 94 } D vwCl (tyM cs) 34 ad (enM ad cs) [.ref (ad 0), .int v1, .int v2, .int v3, .int v4, .int v5] σ r σ' := by
  refine u_met (Qf := uQi D vwCl 34 ad (enM ad cs) r σ') (cc := cX10_firm) (maxL := 6) (ret := (some .int)) (lv := [(0, .ref (ad 0)), (1, .int v1), (2, .int v2), (3, .int v3), (4, .int v4), (5, .int v5)]) J (by decide) rfl (Nat.le_of_ble_eq_true rfl) rfl rfl rfl ?_
  intro p e s m args below meth c ls hx hb C hr hlk G hl
  unfold f_X10_firm at h
  obtain ⟨H, eH⟩ : ∃ H, H = s.heap := ⟨_, rfl⟩
  obtain ⟨locs, eL⟩ : ∃ locs : List Loc, locs = [] := ⟨_, rfl⟩
  refine u_start eH eL G ?_
  clear G eH eL
  intro G
  refine lv_iload_n hx hb dX10_firm_0 rfl (lv_at hl 1 rfl) ?_
  obtain ⟨r1, σ2, er1, h⟩ := ub_of h
  refine u_callSi (As := [.int v1]) (rest := []) C G (c_X10_isSheet l D ad cs C.2.2.1 σ v1 r1 σ2 er1) (va_cwS 1 C.1.2.2.2.2 gX10_firm_X10_isSheet rfl rfl rfl (by decide +kernel) ⟨Nat.le_of_ble_eq_true rfl, Nat.le_of_ble_eq_true rfl⟩) rfl hl rfl (Nat.le_of_ble_eq_true rfl) dX10_firm_1 (fun H locs G => ?_)
  refine lv_if_eq (tgt := 49) hx hb dX10_firm_4 (by decide) (fun q => ?_) (fun q => ?_)
  · have h := u_pos q h
    refine lv_iconst (v := (-1)) hx hb dX10_firm_49 (by decide) ?_
    obtain ⟨rfl, rfl⟩ := u_end h
    exact u_iret hx hb hr hlk G dX10_firm_50
  · have h := u_neg q h
    refine lv_iload_n hx hb dX10_firm_7 rfl (lv_at hl 2 rfl) ?_
    obtain ⟨r3, σ4, er3, h⟩ := ub_of h
    refine u_callSi (As := [.int v2]) (rest := []) C G (c_X10_isHouse l D ad cs C.2.2.1 σ2 v2 r3 σ4 er3) (va_cwS 1 C.1.2.2.2.2 gX10_firm_X10_isHouse rfl rfl rfl (by decide +kernel) ⟨Nat.le_of_ble_eq_true rfl, Nat.le_of_ble_eq_true rfl⟩) rfl hl rfl (Nat.le_of_ble_eq_true rfl) dX10_firm_8 (fun H locs G => ?_)
    refine lv_if_eq (tgt := 49) hx hb dX10_firm_11 (by decide) (fun q => ?_) (fun q => ?_)
    · have h := u_pos q h
      refine lv_iconst (v := (-1)) hx hb dX10_firm_49 (by decide) ?_
      obtain ⟨rfl, rfl⟩ := u_end h
      exact u_iret hx hb hr hlk G dX10_firm_50
    · have h := u_neg q h
      refine lv_iload_n hx hb dX10_firm_14 rfl (lv_at hl 3 rfl) ?_
      obtain ⟨r5, σ6, er5, h⟩ := ub_of h
      refine u_callSi (As := [.int v3]) (rest := []) C G (c_X10_isYear l D ad cs C.2.2.1 σ4 v3 r5 σ6 er5) (va_cwS 1 C.1.2.2.2.2 gX10_firm_X10_isYear rfl rfl rfl (by decide +kernel) ⟨Nat.le_of_ble_eq_true rfl, Nat.le_of_ble_eq_true rfl⟩) rfl hl rfl (Nat.le_of_ble_eq_true rfl) dX10_firm_15 (fun H locs G => ?_)
      refine lv_if_eq (tgt := 49) hx hb dX10_firm_18 (by decide) (fun q => ?_) (fun q => ?_)
      · have h := u_pos q h
        refine lv_iconst (v := (-1)) hx hb dX10_firm_49 (by decide) ?_
        obtain ⟨rfl, rfl⟩ := u_end h
        exact u_iret hx hb hr hlk G dX10_firm_50
      · have h := u_neg q h
        refine lv_iload hx hb dX10_firm_21 (lv_at hl 4 rfl) ?_
        refine lv_iload_n hx hb dX10_firm_23 rfl (lv_at hl 3 rfl) ?_
        refine lv_sipush (v := 2100) hx hb dX10_firm_24 (by decide) ?_
        obtain ⟨r7, σ8, er7, h⟩ := ub_of h
        refine u_callSi (As := [.int v4, .int v3, .int 2100]) (rest := []) C G (c_X10_in l D ad cs C.2.2.1 σ6 v4 v3 (2100 : Int32) r7 σ8 er7) (va_cwS 3 C.1.2.2.2.2 gX10_firm_X10_in rfl rfl rfl (by decide +kernel) ⟨Nat.le_of_ble_eq_true rfl, Nat.le_of_ble_eq_true rfl⟩) rfl hl rfl (Nat.le_of_ble_eq_true rfl) dX10_firm_27 (fun H locs G => ?_)
        refine lv_if_eq (tgt := 49) hx hb dX10_firm_30 (by decide) (fun q => ?_) (fun q => ?_)
        · have h := u_pos q h
          refine lv_iconst (v := (-1)) hx hb dX10_firm_49 (by decide) ?_
          obtain ⟨rfl, rfl⟩ := u_end h
          exact u_iret hx hb hr hlk G dX10_firm_50
        · have h := u_neg q h
          refine lv_iload hx hb dX10_firm_33 (lv_at hl 5 rfl) ?_
          refine lv_bipush (v := (-9)) hx hb dX10_firm_35 (by decide) ?_
          refine lv_icmp_eq (tgt := 51) hx hb dX10_firm_37 (by decide) (fun q => ?_) (fun q => ?_)
          · have h := u_pos q h
            exact w_X10_firm_51 C hr hlk σ8 v1 v2 v3 v4 v5 h H locs ls G (lv_sub hl [0, 1, 2, 3, 4, 5] rfl)
          · have h := u_neg q h
            refine lv_aload_n hx hb dX10_firm_40 rfl (lv_at hl 0 rfl) ?_
            refine lv_iload hx hb dX10_firm_41 (lv_at hl 5 rfl) ?_
            obtain ⟨r9, σ10, er9, h⟩ := ub_of h
            refine u_callVi (As := [.int v5]) (rest := []) C G (c_X10_isWord l D ad cs C.2.2.1 σ8 v5 r9 σ10 er9) (cwV 1 C.1.2.2.2.2 gX10_firm_X10_isWord rfl rfl rfl (by decide +kernel) ⟨Nat.le_of_ble_eq_true rfl, Nat.le_of_ble_eq_true rfl⟩) obM_0 (ci := 10) (T := TX10) rfl rfl hl rfl (Nat.le_of_ble_eq_true rfl) dX10_firm_43 (fun H locs G => ?_)
            refine lv_if_ne (tgt := 51) hx hb dX10_firm_46 (by decide) (fun q => ?_) (fun q => ?_)
            · have h := u_neg q h
              exact w_X10_firm_51 C hr hlk σ10 v1 v2 v3 v4 v5 h H locs ls G (lv_sub hl [0, 1, 2, 3, 4, 5] rfl)
            · have h := u_pos q h
              refine lv_iconst (v := (-1)) hx hb dX10_firm_49 (by decide) ?_
              obtain ⟨rfl, rfl⟩ := u_end h
              exact u_iret hx hb hr hlk G dX10_firm_50
/-! X10_slogan -/
def f_X10_slogan (σ : St) (v1 : Int32) (v2 : Int32) : Option (Int32 × St) :=
  ub (f_X10_isSheet σ v1) fun r1 σ2 =>
  if r1 = 0 then
    some (((-1) : Int32), σ2)
  else
    ub (f_X10_isWord σ2 v2) fun r3 σ4 =>
    if r3 = 0 then
      some (((-1) : Int32), σ4)
    else
      if (σ4 0 7) = 16 then
        some (((-2) : Int32), σ4)
      else
        ui v1 4 <|
        if (σ4 3 v1.toNatClampNeg) < 0 then
          ub (f_X10_meets σ4 (1 : Int32)) fun r6 σ7 =>
          some (r6, σ7)
        else
          ui v2 16 <|
          if (σ4 9 v2.toNatClampNeg) = 0 then
            ub (f_X10_isFirm σ4 v2) fun r9 σ10 =>
            if r9 = 0 then
              ub (f_X10_meets σ10 (3 : Int32)) fun r16 σ17 =>
              some (r16, σ17)
            else
              ui v2 16 <|
              ui v2 16 <|
              ui v2 16 <|
              ub (f_X10_put σ10 v1 (3 : Int32) (σ10 10 v2.toNatClampNeg) (σ10 11 v2.toNatClampNeg) (σ10 12 v2.toNatClampNeg) v2) fun r14 σ15 =>
              some (r14, σ15)
          else
            ub (f_X10_meets σ4 (1 : Int32)) fun r18 σ19 =>
            some (r18, σ19)
theorem fi_X10_slogan_10 : ∀ w ∈ u_ws RX10 TX10 44, w ∈ wsX10_slogan := by decide +kernel
set_option maxHeartbeats 4000000 in
set_option maxRecDepth 100000 in
theorem c_X10_slogan (l : Launch) (D : va_G) (ad : Nat → Nat) (cs : Nat → ClassId) (J : uJ 34 ad) (σ : St) (v1 : Int32) (v2 : Int32) (r : Int32) (σ' : St) (h : f_X10_slogan σ v1 v2 = some (r, σ')) : uMi l yX10_slogan wsX10_slogan { frames := 4, cells := 0, slots := 0, locals := 94 } D vwCl (tyM cs) 34 ad (enM ad cs) [.ref (ad 0), .int v1, .int v2] σ r σ' := by
  refine u_met (Qf := uQi D vwCl 34 ad (enM ad cs) r σ') (cc := cX10_slogan) (maxL := 3) (ret := (some .int)) (lv := [(0, .ref (ad 0)), (1, .int v1), (2, .int v2)]) J (by decide) rfl (Nat.le_of_ble_eq_true rfl) rfl rfl rfl ?_
  intro p e s m args below meth c ls hx hb C hr hlk G hl
  unfold f_X10_slogan at h
  obtain ⟨H, eH⟩ : ∃ H, H = s.heap := ⟨_, rfl⟩
  obtain ⟨locs, eL⟩ : ∃ locs : List Loc, locs = [] := ⟨_, rfl⟩
  refine u_start eH eL G ?_
  clear G eH eL
  intro G
  refine lv_iload_n hx hb dX10_slogan_0 rfl (lv_at hl 1 rfl) ?_
  obtain ⟨r1, σ2, er1, h⟩ := ub_of h
  refine u_callSi (As := [.int v1]) (rest := []) C G (c_X10_isSheet l D ad cs C.2.2.1 σ v1 r1 σ2 er1) (va_cwS 1 C.1.2.2.2.2 gX10_slogan_X10_isSheet rfl rfl rfl (by decide +kernel) ⟨Nat.le_of_ble_eq_true rfl, Nat.le_of_ble_eq_true rfl⟩) rfl hl rfl (Nat.le_of_ble_eq_true rfl) dX10_slogan_1 (fun H locs G => ?_)
  refine lv_if_eq (tgt := 15) hx hb dX10_slogan_4 (by decide) (fun q => ?_) (fun q => ?_)
  · have h := u_pos q h
    refine lv_iconst (v := (-1)) hx hb dX10_slogan_15 (by decide) ?_
    obtain ⟨rfl, rfl⟩ := u_end h
    exact u_iret hx hb hr hlk G dX10_slogan_16
  · have h := u_neg q h
    refine lv_aload_n hx hb dX10_slogan_7 rfl (lv_at hl 0 rfl) ?_
    refine lv_iload_n hx hb dX10_slogan_8 rfl (lv_at hl 2 rfl) ?_
    obtain ⟨r3, σ4, er3, h⟩ := ub_of h
    refine u_callVi (As := [.int v2]) (rest := []) C G (c_X10_isWord l D ad cs C.2.2.1 σ2 v2 r3 σ4 er3) (cwV 1 C.1.2.2.2.2 gX10_slogan_X10_isWord rfl rfl rfl (by decide +kernel) ⟨Nat.le_of_ble_eq_true rfl, Nat.le_of_ble_eq_true rfl⟩) obM_0 (ci := 10) (T := TX10) rfl rfl hl rfl (Nat.le_of_ble_eq_true rfl) dX10_slogan_9 (fun H locs G => ?_)
    refine lv_if_ne (tgt := 17) hx hb dX10_slogan_12 (by decide) (fun q => ?_) (fun q => ?_)
    · have h := u_neg q h
      refine lv_aload_n hx hb dX10_slogan_17 rfl (lv_at hl 0 rfl) ?_
      refine u_get (v := .int (σ4 0 7)) C G obM_0 (ci := 10) (N := 44) (Cn := RX10) (T := TX10) rfl fi_X10_slogan_10 7 (by decide) (by decide +kernel) rfl dX10_slogan_18 ?_
      refine lv_bipush (v := 16) hx hb dX10_slogan_21 (by decide) ?_
      refine lv_icmp_ne (tgt := 29) hx hb dX10_slogan_23 (by decide) (fun q => ?_) (fun q => ?_)
      · have h := u_neg q h
        refine lv_aload_n hx hb dX10_slogan_29 rfl (lv_at hl 0 rfl) ?_
        refine u_get (v := .ref (ad 3)) C G obM_0 (ci := 10) (N := 44) (Cn := RX10) (T := TX10) rfl fi_X10_slogan_10 4 (by decide) (by decide +kernel) rfl dX10_slogan_30 ?_
        refine lv_iload_n hx hb dX10_slogan_33 rfl (lv_at hl 1 rfl) ?_
        obtain ⟨g5, h⟩ := ui_of h
        refine u_iald C G arM_3 (t0 := 0) rfl g5 dX10_slogan_34 ?_
        refine lv_if_lt (tgt := 47) hx hb dX10_slogan_35 (by decide) (fun q => ?_) (fun q => ?_)
        · have h := u_pos q h
          refine lv_aload_n hx hb dX10_slogan_47 rfl (lv_at hl 0 rfl) ?_
          refine lv_iconst (v := 1) hx hb dX10_slogan_48 (by decide) ?_
          obtain ⟨r6, σ7, er6, h⟩ := ub_of h
          refine u_callVi (As := [.int 1]) (rest := []) C G (c_X10_meets l D ad cs C.2.2.1 σ4 (1 : Int32) r6 σ7 er6) (cwV 1 C.1.2.2.2.2 gX10_slogan_X10_meets rfl rfl rfl (by decide +kernel) ⟨Nat.le_of_ble_eq_true rfl, Nat.le_of_ble_eq_true rfl⟩) obM_0 (ci := 10) (T := TX10) rfl rfl hl rfl (Nat.le_of_ble_eq_true rfl) dX10_slogan_49 (fun H locs G => ?_)
          obtain ⟨rfl, rfl⟩ := u_end h
          exact u_iret hx hb hr hlk G dX10_slogan_52
        · have h := u_neg q h
          refine lv_aload_n hx hb dX10_slogan_38 rfl (lv_at hl 0 rfl) ?_
          refine u_get (v := .ref (ad 9)) C G obM_0 (ci := 10) (N := 44) (Cn := RX10) (T := TX10) rfl fi_X10_slogan_10 11 (by decide) (by decide +kernel) rfl dX10_slogan_39 ?_
          refine lv_iload_n hx hb dX10_slogan_42 rfl (lv_at hl 2 rfl) ?_
          obtain ⟨g8, h⟩ := ui_of h
          refine u_zald C G arM_9 (t0 := 2) rfl g8 dX10_slogan_43 ?_
          refine lv_if_eq (tgt := 53) hx hb dX10_slogan_44 (by decide) (fun q => ?_) (fun q => ?_)
          · have h := u_pos q h
            refine lv_aload_n hx hb dX10_slogan_53 rfl (lv_at hl 0 rfl) ?_
            refine lv_iload_n hx hb dX10_slogan_54 rfl (lv_at hl 2 rfl) ?_
            obtain ⟨r9, σ10, er9, h⟩ := ub_of h
            refine u_callVi (As := [.int v2]) (rest := []) C G (c_X10_isFirm l D ad cs C.2.2.1 σ4 v2 r9 σ10 er9) (cwV 1 C.1.2.2.2.2 gX10_slogan_X10_isFirm rfl rfl rfl (by decide +kernel) ⟨Nat.le_of_ble_eq_true rfl, Nat.le_of_ble_eq_true rfl⟩) obM_0 (ci := 10) (T := TX10) rfl rfl hl rfl (Nat.le_of_ble_eq_true rfl) dX10_slogan_55 (fun H locs G => ?_)
            refine lv_if_ne (tgt := 67) hx hb dX10_slogan_58 (by decide) (fun q => ?_) (fun q => ?_)
            · have h := u_neg q h
              refine lv_aload_n hx hb dX10_slogan_67 rfl (lv_at hl 0 rfl) ?_
              refine lv_iload_n hx hb dX10_slogan_68 rfl (lv_at hl 1 rfl) ?_
              refine lv_iconst (v := 3) hx hb dX10_slogan_69 (by decide) ?_
              refine lv_aload_n hx hb dX10_slogan_70 rfl (lv_at hl 0 rfl) ?_
              refine u_get (v := .ref (ad 10)) C G obM_0 (ci := 10) (N := 44) (Cn := RX10) (T := TX10) rfl fi_X10_slogan_10 12 (by decide) (by decide +kernel) rfl dX10_slogan_71 ?_
              refine lv_iload_n hx hb dX10_slogan_74 rfl (lv_at hl 2 rfl) ?_
              obtain ⟨g11, h⟩ := ui_of h
              refine u_iald C G arM_10 (t0 := 0) rfl g11 dX10_slogan_75 ?_
              refine lv_aload_n hx hb dX10_slogan_76 rfl (lv_at hl 0 rfl) ?_
              refine u_get (v := .ref (ad 11)) C G obM_0 (ci := 10) (N := 44) (Cn := RX10) (T := TX10) rfl fi_X10_slogan_10 13 (by decide) (by decide +kernel) rfl dX10_slogan_77 ?_
              refine lv_iload_n hx hb dX10_slogan_80 rfl (lv_at hl 2 rfl) ?_
              obtain ⟨g12, h⟩ := ui_of h
              refine u_iald C G arM_11 (t0 := 0) rfl g12 dX10_slogan_81 ?_
              refine lv_aload_n hx hb dX10_slogan_82 rfl (lv_at hl 0 rfl) ?_
              refine u_get (v := .ref (ad 12)) C G obM_0 (ci := 10) (N := 44) (Cn := RX10) (T := TX10) rfl fi_X10_slogan_10 14 (by decide) (by decide +kernel) rfl dX10_slogan_83 ?_
              refine lv_iload_n hx hb dX10_slogan_86 rfl (lv_at hl 2 rfl) ?_
              obtain ⟨g13, h⟩ := ui_of h
              refine u_iald C G arM_12 (t0 := 0) rfl g13 dX10_slogan_87 ?_
              refine lv_iload_n hx hb dX10_slogan_88 rfl (lv_at hl 2 rfl) ?_
              obtain ⟨r14, σ15, er14, h⟩ := ub_of h
              refine u_callVi (As := [.int v1, .int 3, .int (σ10 10 v2.toNatClampNeg), .int (σ10 11 v2.toNatClampNeg), .int (σ10 12 v2.toNatClampNeg), .int v2]) (rest := []) C G (c_X10_put l D ad cs C.2.2.1 σ10 v1 (3 : Int32) (σ10 10 v2.toNatClampNeg) (σ10 11 v2.toNatClampNeg) (σ10 12 v2.toNatClampNeg) v2 r14 σ15 er14) (cwV 6 C.1.2.2.2.2 gX10_slogan_X10_put rfl rfl rfl (by decide +kernel) ⟨Nat.le_of_ble_eq_true rfl, Nat.le_of_ble_eq_true rfl⟩) obM_0 (ci := 10) (T := TX10) rfl rfl hl rfl (Nat.le_of_ble_eq_true rfl) dX10_slogan_89 (fun H locs G => ?_)
              obtain ⟨rfl, rfl⟩ := u_end h
              exact u_iret hx hb hr hlk G dX10_slogan_92
            · have h := u_pos q h
              refine lv_aload_n hx hb dX10_slogan_61 rfl (lv_at hl 0 rfl) ?_
              refine lv_iconst (v := 3) hx hb dX10_slogan_62 (by decide) ?_
              obtain ⟨r16, σ17, er16, h⟩ := ub_of h
              refine u_callVi (As := [.int 3]) (rest := []) C G (c_X10_meets l D ad cs C.2.2.1 σ10 (3 : Int32) r16 σ17 er16) (cwV 1 C.1.2.2.2.2 gX10_slogan_X10_meets rfl rfl rfl (by decide +kernel) ⟨Nat.le_of_ble_eq_true rfl, Nat.le_of_ble_eq_true rfl⟩) obM_0 (ci := 10) (T := TX10) rfl rfl hl rfl (Nat.le_of_ble_eq_true rfl) dX10_slogan_63 (fun H locs G => ?_)
              obtain ⟨rfl, rfl⟩ := u_end h
              exact u_iret hx hb hr hlk G dX10_slogan_66
          · have h := u_neg q h
            refine lv_aload_n hx hb dX10_slogan_47 rfl (lv_at hl 0 rfl) ?_
            refine lv_iconst (v := 1) hx hb dX10_slogan_48 (by decide) ?_
            obtain ⟨r18, σ19, er18, h⟩ := ub_of h
            refine u_callVi (As := [.int 1]) (rest := []) C G (c_X10_meets l D ad cs C.2.2.1 σ4 (1 : Int32) r18 σ19 er18) (cwV 1 C.1.2.2.2.2 gX10_slogan_X10_meets rfl rfl rfl (by decide +kernel) ⟨Nat.le_of_ble_eq_true rfl, Nat.le_of_ble_eq_true rfl⟩) obM_0 (ci := 10) (T := TX10) rfl rfl hl rfl (Nat.le_of_ble_eq_true rfl) dX10_slogan_49 (fun H locs G => ?_)
            obtain ⟨rfl, rfl⟩ := u_end h
            exact u_iret hx hb hr hlk G dX10_slogan_52
      · have h := u_pos q h
        refine lv_bipush (v := (-2)) hx hb dX10_slogan_26 (by decide) ?_
        obtain ⟨rfl, rfl⟩ := u_end h
        exact u_iret hx hb hr hlk G dX10_slogan_28
    · have h := u_pos q h
      refine lv_iconst (v := (-1)) hx hb dX10_slogan_15 (by decide) ?_
      obtain ⟨rfl, rfl⟩ := u_end h
      exact u_iret hx hb hr hlk G dX10_slogan_16
/-! X10_children -/
def f_X10_children_4 : Nat → St → Int32 → Int32 → Int32 → Option (Int32 × St)
  | 0, _, _, _, _ => none
  | fuel + 1, σ, v1, v2, v3 =>
    if (σ 0 7) ≤ v3 then
      some (v2, σ)
    else
      ui v3 16 <|
      if (σ 13 v3.toNatClampNeg) = v1 then
        ui v3 16 <|
        if (σ 9 v3.toNatClampNeg) = 0 then
          ul (v2 + 1) fun x7 =>
          ul (v3 + 1) fun x8 =>
          f_X10_children_4 fuel σ v1 x7 x8
        else
          ul (v2 + 0) fun x5 =>
          ul (v3 + 1) fun x6 =>
          f_X10_children_4 fuel σ v1 x5 x6
      else
        ul (v2 + 0) fun x2 =>
        ul (v3 + 1) fun x3 =>
        f_X10_children_4 fuel σ v1 x2 x3
def f_X10_children (σ : St) (v1 : Int32) : Option (Int32 × St) :=
  f_X10_children_4 fu σ v1 0 0
theorem fi_X10_children_10 : ∀ w ∈ u_ws RX10 TX10 44, w ∈ wsX10_children := by decide +kernel
set_option maxHeartbeats 4000000 in
set_option maxRecDepth 100000 in
theorem w_X10_children_4 {p : Program} {l : Launch} {e : Env} {s : State} {m : MethodId} {args : Array Value} {below : List Frame} {meth : Method} {c : Code} {D : va_G} {ad : Nat → Nat} {cs : Nat → ClassId} (C : uC p { frames := 0, cells := 0, slots := 0, locals := 0 } s m args c cX10_children 4 wsX10_children RX10 D vwCl (tyM cs) 34 ad (uAd 34 ad s.heap.size) 0 0) (hr : meth.sig.returnType = (some .int)) (hlk : meth.locks = false) {r : Int32} {σ' : St} :
    ∀ (n : Nat) (σ : St) (v1 : Int32) (v2 : Int32) (v3 : Int32), f_X10_children_4 n σ v1 v2 v3 = some (r, σ') → ∀ (H : Heap) (locs : List Loc) (ls : Array Slot), uG D vwCl 34 ad (enM ad cs) (uAd 34 ad s.heap.size) s σ H locs → lv_has ls 4 [(0, .ref (ad 0)), (1, .int v1), (2, .int v2), (3, .int v3)] → W p l e { frames := 0, cells := 0, slots := 0, locals := 0 } s m args below meth c H locs 0 0 (MQ below (uQi D vwCl 34 ad (enM ad cs) r σ' s.heap.size) args s 0 0 (uAd 34 ad s.heap.size)) (F0 m 4 ls []) := by
  have hx := C.1.1
  have hb := C.1.2.1
  intro n
  induction n with
  | zero => intro σ v1 v2 v3  h; exact absurd h (by simp [f_X10_children_4])
  | succ fuel ih =>
    intro σ v1 v2 v3  h H locs ls G hl
    rw [f_X10_children_4] at h
    refine lv_iload_n hx hb dX10_children_4 rfl (lv_at hl 3 rfl) ?_
    refine lv_aload_n hx hb dX10_children_5 rfl (lv_at hl 0 rfl) ?_
    refine u_get (v := .int (σ 0 7)) C G obM_0 (ci := 10) (N := 44) (Cn := RX10) (T := TX10) rfl fi_X10_children_10 7 (by decide) (by decide +kernel) rfl dX10_children_6 ?_
    refine lv_icmp_ge (tgt := 45) hx hb dX10_children_9 (by decide) (fun q => ?_) (fun q => ?_)
    · have h := u_pos q h
      refine lv_iload_n hx hb dX10_children_45 rfl (lv_at hl 2 rfl) ?_
      obtain ⟨rfl, rfl⟩ := u_end h
      exact u_iret hx hb hr hlk G dX10_children_46
    · have h := u_neg q h
      refine lv_iload_n hx hb dX10_children_12 rfl (lv_at hl 2 rfl) ?_
      refine lv_aload_n hx hb dX10_children_13 rfl (lv_at hl 0 rfl) ?_
      refine u_get (v := .ref (ad 13)) C G obM_0 (ci := 10) (N := 44) (Cn := RX10) (T := TX10) rfl fi_X10_children_10 15 (by decide) (by decide +kernel) rfl dX10_children_14 ?_
      refine lv_iload_n hx hb dX10_children_17 rfl (lv_at hl 3 rfl) ?_
      obtain ⟨g1, h⟩ := ui_of h
      refine u_iald C G arM_13 (t0 := 0) rfl g1 dX10_children_18 ?_
      refine lv_iload_n hx hb dX10_children_19 rfl (lv_at hl 1 rfl) ?_
      refine lv_icmp_ne (tgt := 36) hx hb dX10_children_20 (by decide) (fun q => ?_) (fun q => ?_)
      · have h := u_neg q h
        refine lv_iconst (v := 0) hx hb dX10_children_36 (by decide) ?_
        refine lv_iadd hx hb dX10_children_37 ?_
        obtain ⟨x2, ex2, h⟩ := ul_of h
        refine u_nmi ex2 ?_
        refine lv_istore_n (lv' := [(2, .int x2), (0, .ref (ad 0)), (1, .int v1), (3, .int v3)]) hx hb dX10_children_38 rfl hl (by decide) rfl (fun ls hl => ?_)
        obtain ⟨x3, ex3, h⟩ := ul_of h
        refine lv_iinc (v := x3) (lv' := [(3, .int x3), (2, .int x2), (0, .ref (ad 0)), (1, .int v1)]) hx hb dX10_children_39 hl (k := 3) rfl (by rw [ex3]; rfl) (by decide) rfl (fun ls hl => ?_)
        refine lv_goto (tgt := 4) hx hb dX10_children_42 (by decide) ?_
        exact ih σ v1 x2 x3 h H locs ls G (lv_sub hl [2, 3, 1, 0] rfl)
      · have h := u_pos q h
        refine lv_aload_n hx hb dX10_children_23 rfl (lv_at hl 0 rfl) ?_
        refine u_get (v := .ref (ad 9)) C G obM_0 (ci := 10) (N := 44) (Cn := RX10) (T := TX10) rfl fi_X10_children_10 11 (by decide) (by decide +kernel) rfl dX10_children_24 ?_
        refine lv_iload_n hx hb dX10_children_27 rfl (lv_at hl 3 rfl) ?_
        obtain ⟨g4, h⟩ := ui_of h
        refine u_zald C G arM_9 (t0 := 2) rfl g4 dX10_children_28 ?_
        refine lv_if_ne (tgt := 36) hx hb dX10_children_29 (by decide) (fun q => ?_) (fun q => ?_)
        · have h := u_neg q h
          refine lv_iconst (v := 0) hx hb dX10_children_36 (by decide) ?_
          refine lv_iadd hx hb dX10_children_37 ?_
          obtain ⟨x5, ex5, h⟩ := ul_of h
          refine u_nmi ex5 ?_
          refine lv_istore_n (lv' := [(2, .int x5), (0, .ref (ad 0)), (1, .int v1), (3, .int v3)]) hx hb dX10_children_38 rfl hl (by decide) rfl (fun ls hl => ?_)
          obtain ⟨x6, ex6, h⟩ := ul_of h
          refine lv_iinc (v := x6) (lv' := [(3, .int x6), (2, .int x5), (0, .ref (ad 0)), (1, .int v1)]) hx hb dX10_children_39 hl (k := 3) rfl (by rw [ex6]; rfl) (by decide) rfl (fun ls hl => ?_)
          refine lv_goto (tgt := 4) hx hb dX10_children_42 (by decide) ?_
          exact ih σ v1 x5 x6 h H locs ls G (lv_sub hl [2, 3, 1, 0] rfl)
        · have h := u_pos q h
          refine lv_iconst (v := 1) hx hb dX10_children_32 (by decide) ?_
          refine lv_goto (tgt := 37) hx hb dX10_children_33 (by decide) ?_
          refine lv_iadd hx hb dX10_children_37 ?_
          obtain ⟨x7, ex7, h⟩ := ul_of h
          refine u_nmi ex7 ?_
          refine lv_istore_n (lv' := [(2, .int x7), (0, .ref (ad 0)), (1, .int v1), (3, .int v3)]) hx hb dX10_children_38 rfl hl (by decide) rfl (fun ls hl => ?_)
          obtain ⟨x8, ex8, h⟩ := ul_of h
          refine lv_iinc (v := x8) (lv' := [(3, .int x8), (2, .int x7), (0, .ref (ad 0)), (1, .int v1)]) hx hb dX10_children_39 hl (k := 3) rfl (by rw [ex8]; rfl) (by decide) rfl (fun ls hl => ?_)
          refine lv_goto (tgt := 4) hx hb dX10_children_42 (by decide) ?_
          exact ih σ v1 x7 x8 h H locs ls G (lv_sub hl [2, 3, 1, 0] rfl)
set_option maxHeartbeats 4000000 in
set_option maxRecDepth 100000 in
theorem c_X10_children (l : Launch) (D : va_G) (ad : Nat → Nat) (cs : Nat → ClassId) (J : uJ 34 ad) (σ : St) (v1 : Int32) (r : Int32) (σ' : St) (h : f_X10_children σ v1 = some (r, σ')) : uMi l yX10_children wsX10_children { frames := 0, cells := 0, slots := 0, locals := 0 } D vwCl (tyM cs) 34 ad (enM ad cs) [.ref (ad 0), .int v1] σ r σ' := by
  refine u_met (Qf := uQi D vwCl 34 ad (enM ad cs) r σ') (cc := cX10_children) (maxL := 4) (ret := (some .int)) (lv := [(0, .ref (ad 0)), (1, .int v1)]) J (by decide) rfl (Nat.le_of_ble_eq_true rfl) rfl rfl rfl ?_
  intro p e s m args below meth c ls hx hb C hr hlk G hl
  unfold f_X10_children at h
  obtain ⟨H, eH⟩ : ∃ H, H = s.heap := ⟨_, rfl⟩
  obtain ⟨locs, eL⟩ : ∃ locs : List Loc, locs = [] := ⟨_, rfl⟩
  refine u_start eH eL G ?_
  clear G eH eL
  intro G
  refine lv_iconst (v := 0) hx hb dX10_children_0 (by decide) ?_
  refine lv_istore_n (lv' := [(2, .int 0), (0, .ref (ad 0)), (1, .int v1)]) hx hb dX10_children_1 rfl hl (by decide) rfl (fun ls hl => ?_)
  refine lv_iconst (v := 0) hx hb dX10_children_2 (by decide) ?_
  refine lv_istore_n (lv' := [(3, .int 0), (2, .int 0), (0, .ref (ad 0)), (1, .int v1)]) hx hb dX10_children_3 rfl hl (by decide) rfl (fun ls hl => ?_)
  exact w_X10_children_4 C hr hlk fu σ v1 0 0 h H locs ls G (lv_sub hl [2, 3, 1, 0] rfl)
/-! X10_askedFor -/
def f_X10_askedFor (σ : St) (v1 : Int32) : Option (Int32 × St) :=
  ub (f_X10_isWord σ v1) fun r1 σ2 =>
  if r1 = 0 then
    some (((-1) : Int32), σ2)
  else
    ui v1 16 <|
    if (σ2 9 v1.toNatClampNeg) = 0 then
      some ((0 : Int32), σ2)
    else
      ub (f_X10_meets σ2 (1 : Int32)) fun r4 σ5 =>
      some (r4, σ5)
theorem fi_X10_askedFor_10 : ∀ w ∈ u_ws RX10 TX10 44, w ∈ wsX10_askedFor := by decide +kernel
set_option maxHeartbeats 4000000 in
set_option maxRecDepth 100000 in
theorem c_X10_askedFor (l : Launch) (D : va_G) (ad : Nat → Nat) (cs : Nat → ClassId) (J : uJ 34 ad) (σ : St) (v1 : Int32) (r : Int32) (σ' : St) (h : f_X10_askedFor σ v1 = some (r, σ')) : uMi l yX10_askedFor wsX10_askedFor { frames := 2, cells := 0, slots := 0, locals := 43 } D vwCl (tyM cs) 34 ad (enM ad cs) [.ref (ad 0), .int v1] σ r σ' := by
  refine u_met (Qf := uQi D vwCl 34 ad (enM ad cs) r σ') (cc := cX10_askedFor) (maxL := 2) (ret := (some .int)) (lv := [(0, .ref (ad 0)), (1, .int v1)]) J (by decide) rfl (Nat.le_of_ble_eq_true rfl) rfl rfl rfl ?_
  intro p e s m args below meth c ls hx hb C hr hlk G hl
  unfold f_X10_askedFor at h
  obtain ⟨H, eH⟩ : ∃ H, H = s.heap := ⟨_, rfl⟩
  obtain ⟨locs, eL⟩ : ∃ locs : List Loc, locs = [] := ⟨_, rfl⟩
  refine u_start eH eL G ?_
  clear G eH eL
  intro G
  refine lv_aload_n hx hb dX10_askedFor_0 rfl (lv_at hl 0 rfl) ?_
  refine lv_iload_n hx hb dX10_askedFor_1 rfl (lv_at hl 1 rfl) ?_
  obtain ⟨r1, σ2, er1, h⟩ := ub_of h
  refine u_callVi (As := [.int v1]) (rest := []) C G (c_X10_isWord l D ad cs C.2.2.1 σ v1 r1 σ2 er1) (cwV 1 C.1.2.2.2.2 gX10_askedFor_X10_isWord rfl rfl rfl (by decide +kernel) ⟨Nat.le_of_ble_eq_true rfl, Nat.le_of_ble_eq_true rfl⟩) obM_0 (ci := 10) (T := TX10) rfl rfl hl rfl (Nat.le_of_ble_eq_true rfl) dX10_askedFor_2 (fun H locs G => ?_)
  refine lv_if_ne (tgt := 12) hx hb dX10_askedFor_5 (by decide) (fun q => ?_) (fun q => ?_)
  · have h := u_neg q h
    refine lv_aload_n hx hb dX10_askedFor_12 rfl (lv_at hl 0 rfl) ?_
    refine u_get (v := .ref (ad 9)) C G obM_0 (ci := 10) (N := 44) (Cn := RX10) (T := TX10) rfl fi_X10_askedFor_10 11 (by decide) (by decide +kernel) rfl dX10_askedFor_13 ?_
    refine lv_iload_n hx hb dX10_askedFor_16 rfl (lv_at hl 1 rfl) ?_
    obtain ⟨g3, h⟩ := ui_of h
    refine u_zald C G arM_9 (t0 := 2) rfl g3 dX10_askedFor_17 ?_
    refine lv_if_eq (tgt := 29) hx hb dX10_askedFor_18 (by decide) (fun q => ?_) (fun q => ?_)
    · have h := u_pos q h
      refine lv_iconst (v := 0) hx hb dX10_askedFor_29 (by decide) ?_
      obtain ⟨rfl, rfl⟩ := u_end h
      exact u_iret hx hb hr hlk G dX10_askedFor_30
    · have h := u_neg q h
      refine lv_aload_n hx hb dX10_askedFor_21 rfl (lv_at hl 0 rfl) ?_
      refine lv_iconst (v := 1) hx hb dX10_askedFor_22 (by decide) ?_
      obtain ⟨r4, σ5, er4, h⟩ := ub_of h
      refine u_callVi (As := [.int 1]) (rest := []) C G (c_X10_meets l D ad cs C.2.2.1 σ2 (1 : Int32) r4 σ5 er4) (cwV 1 C.1.2.2.2.2 gX10_askedFor_X10_meets rfl rfl rfl (by decide +kernel) ⟨Nat.le_of_ble_eq_true rfl, Nat.le_of_ble_eq_true rfl⟩) obM_0 (ci := 10) (T := TX10) rfl rfl hl rfl (Nat.le_of_ble_eq_true rfl) dX10_askedFor_23 (fun H locs G => ?_)
      refine lv_goto (tgt := 30) hx hb dX10_askedFor_26 (by decide) ?_
      obtain ⟨rfl, rfl⟩ := u_end h
      exact u_iret hx hb hr hlk G dX10_askedFor_30
  · have h := u_pos q h
    refine lv_iconst (v := (-1)) hx hb dX10_askedFor_8 (by decide) ?_
    refine lv_goto (tgt := 30) hx hb dX10_askedFor_9 (by decide) ?_
    obtain ⟨rfl, rfl⟩ := u_end h
    exact u_iret hx hb hr hlk G dX10_askedFor_30
/-! X10_strike -/
def f_X10_strike_38 (k29 : St → Int32 → Int32 → Int32 → Option (Int32 × St)) : Nat → St → Int32 → Int32 → Int32 → Int32 → Option (Int32 × St)
  | 0, _, _, _, _, _ => none
  | fuel + 1, σ, v1, v3, v4, v5 =>
    ui v4 4 <|
    if (σ 16 v4.toNatClampNeg) ≤ v5 then
      ul (v4 + 1) fun x8 =>
      k29 σ v1 v3 x8
    else
      if v3 = 0 then
        ui ((3 * v4) + v5) 12 <|
        if (σ 17 ((3 * v4) + v5).toNatClampNeg) = v1 then
          ul (v5 + 1) fun x12 =>
          f_X10_strike_38 k29 fuel σ v1 1 v4 x12
        else
          ul (v5 + 1) fun x11 =>
          f_X10_strike_38 k29 fuel σ v1 0 v4 x11
      else
        ul (v5 + 1) fun x9 =>
        f_X10_strike_38 k29 fuel σ v1 1 v4 x9
def f_X10_strike_29 : Nat → St → Int32 → Int32 → Int32 → Option (Int32 × St)
  | 0, _, _, _, _ => none
  | fuel + 1, σ, v1, v3, v4 =>
    if 4 ≤ v4 then
      if v3 = 0 then
        ui v1 16 <|
        ul (us σ 9 v1.toNatClampNeg (vp_nar .boolean 1)) fun σ6 =>
        some ((1 : Int32), σ6)
      else
        some (((-4) : Int32), σ)
    else
      f_X10_strike_38 (f_X10_strike_29 fuel) fu σ v1 v3 v4 0
def f_X10_strike (σ : St) (v1 : Int32) : Option (Int32 × St) :=
  ub (f_X10_askedFor σ v1) fun r1 σ2 =>
  if 0 ≤ r1 then
    ub (f_X10_children σ2 v1) fun r3 σ4 =>
    if r3 ≤ 0 then
      f_X10_strike_29 fu σ4 v1 0 0
    else
      f_X10_strike_29 fu σ4 v1 1 0
  else
    some (r1, σ2)
theorem fi_X10_strike_10 : ∀ w ∈ u_ws RX10 TX10 44, w ∈ wsX10_strike := by decide +kernel
set_option maxHeartbeats 4000000 in
set_option maxRecDepth 100000 in
theorem w_X10_strike_38 {p : Program} {l : Launch} {e : Env} {s : State} {m : MethodId} {args : Array Value} {below : List Frame} {meth : Method} {c : Code} {D : va_G} {ad : Nat → Nat} {cs : Nat → ClassId} (C : uC p { frames := 3, cells := 0, slots := 0, locals := 64 } s m args c cX10_strike 6 wsX10_strike RX10 D vwCl (tyM cs) 34 ad (uAd 34 ad s.heap.size) 0 0) (hr : meth.sig.returnType = (some .int)) (hlk : meth.locks = false) {r : Int32} {σ' : St} {k29 : St → Int32 → Int32 → Int32 → Option (Int32 × St)} (hk29 : ∀ (σ : St) (v1 : Int32) (v3 : Int32) (v4 : Int32), k29 σ v1 v3 v4 = some (r, σ') → ∀ (H : Heap) (locs : List Loc) (ls : Array Slot), uG D vwCl 34 ad (enM ad cs) (uAd 34 ad s.heap.size) s σ H locs → lv_has ls 6 [(0, .ref (ad 0)), (1, .int v1), (3, .int v3), (4, .int v4)] → W p l e { frames := 3, cells := 0, slots := 0, locals := 64 } s m args below meth c H locs 0 0 (MQ below (uQi D vwCl 34 ad (enM ad cs) r σ' s.heap.size) args s 0 0 (uAd 34 ad s.heap.size)) (F0 m 29 ls [])) :
    ∀ (n : Nat) (σ : St) (v1 : Int32) (v3 : Int32) (v4 : Int32) (v5 : Int32), f_X10_strike_38 k29 n σ v1 v3 v4 v5 = some (r, σ') → ∀ (H : Heap) (locs : List Loc) (ls : Array Slot), uG D vwCl 34 ad (enM ad cs) (uAd 34 ad s.heap.size) s σ H locs → lv_has ls 6 [(0, .ref (ad 0)), (1, .int v1), (3, .int v3), (4, .int v4), (5, .int v5)] → W p l e { frames := 3, cells := 0, slots := 0, locals := 64 } s m args below meth c H locs 0 0 (MQ below (uQi D vwCl 34 ad (enM ad cs) r σ' s.heap.size) args s 0 0 (uAd 34 ad s.heap.size)) (F0 m 38 ls []) := by
  have hx := C.1.1
  have hb := C.1.2.1
  intro n
  induction n with
  | zero => intro σ v1 v3 v4 v5  h; exact absurd h (by simp [f_X10_strike_38])
  | succ fuel ih =>
    intro σ v1 v3 v4 v5  h H locs ls G hl
    rw [f_X10_strike_38] at h
    refine lv_iload hx hb dX10_strike_38 (lv_at hl 4 rfl) ?_
    refine lv_aload_n hx hb dX10_strike_40 rfl (lv_at hl 0 rfl) ?_
    refine u_get (v := .ref (ad 16)) C G obM_0 (ci := 10) (N := 44) (Cn := RX10) (T := TX10) rfl fi_X10_strike_10 19 (by decide) (by decide +kernel) rfl dX10_strike_41 ?_
    refine lv_iload hx hb dX10_strike_44 (lv_at hl 3 rfl) ?_
    obtain ⟨g7, h⟩ := ui_of h
    refine u_iald C G arM_16 (t0 := 0) rfl g7 dX10_strike_46 ?_
    refine lv_icmp_ge (tgt := 82) hx hb dX10_strike_47 (by decide) (fun q => ?_) (fun q => ?_)
    · have h := u_pos q h
      obtain ⟨x8, ex8, h⟩ := ul_of h
      refine lv_iinc (v := x8) (lv' := [(4, .int x8), (0, .ref (ad 0)), (1, .int v1), (3, .int v3), (5, .int v5)]) hx hb dX10_strike_82 hl (k := 3) rfl (by rw [ex8]; rfl) (by decide) rfl (fun ls hl => ?_)
      refine lv_goto (tgt := 29) hx hb dX10_strike_85 (by decide) ?_
      exact hk29 σ v1 v3 x8 h H locs ls G (lv_sub hl [1, 2, 3, 0] rfl)
    · have h := u_neg q h
      refine lv_iload_n hx hb dX10_strike_50 rfl (lv_at hl 2 rfl) ?_
      refine lv_if_ne (tgt := 70) hx hb dX10_strike_51 (by decide) (fun q => ?_) (fun q => ?_)
      · have h := u_neg q h
        refine lv_iconst (v := 1) hx hb dX10_strike_70 (by decide) ?_
        refine lv_goto (tgt := 75) hx hb dX10_strike_71 (by decide) ?_
        refine lv_istore_n (lv' := [(3, .int 1), (0, .ref (ad 0)), (1, .int v1), (4, .int v4), (5, .int v5)]) hx hb dX10_strike_75 rfl hl (by decide) rfl (fun ls hl => ?_)
        obtain ⟨x9, ex9, h⟩ := ul_of h
        refine lv_iinc (v := x9) (lv' := [(5, .int x9), (3, .int 1), (0, .ref (ad 0)), (1, .int v1), (4, .int v4)]) hx hb dX10_strike_76 hl (k := 4) rfl (by rw [ex9]; rfl) (by decide) rfl (fun ls hl => ?_)
        refine lv_goto (tgt := 38) hx hb dX10_strike_79 (by decide) ?_
        exact ih σ v1 1 v4 x9 h H locs ls G (lv_sub hl [2, 3, 1, 4, 0] rfl)
      · have h := u_pos q h
        refine lv_aload_n hx hb dX10_strike_54 rfl (lv_at hl 0 rfl) ?_
        refine u_get (v := .ref (ad 17)) C G obM_0 (ci := 10) (N := 44) (Cn := RX10) (T := TX10) rfl fi_X10_strike_10 20 (by decide) (by decide +kernel) rfl dX10_strike_55 ?_
        refine lv_iconst (v := 3) hx hb dX10_strike_58 (by decide) ?_
        refine lv_iload hx hb dX10_strike_59 (lv_at hl 3 rfl) ?_
        refine lv_imul hx hb dX10_strike_61 ?_
        refine lv_iload hx hb dX10_strike_62 (lv_at hl 4 rfl) ?_
        refine lv_iadd hx hb dX10_strike_64 ?_
        obtain ⟨g10, h⟩ := ui_of h
        refine u_iald C G arM_17 (t0 := 0) rfl g10 dX10_strike_65 ?_
        refine lv_iload_n hx hb dX10_strike_66 rfl (lv_at hl 1 rfl) ?_
        refine lv_icmp_ne (tgt := 74) hx hb dX10_strike_67 (by decide) (fun q => ?_) (fun q => ?_)
        · have h := u_neg q h
          refine lv_iconst (v := 0) hx hb dX10_strike_74 (by decide) ?_
          refine lv_istore_n (lv' := [(3, .int 0), (0, .ref (ad 0)), (1, .int v1), (4, .int v4), (5, .int v5)]) hx hb dX10_strike_75 rfl hl (by decide) rfl (fun ls hl => ?_)
          obtain ⟨x11, ex11, h⟩ := ul_of h
          refine lv_iinc (v := x11) (lv' := [(5, .int x11), (3, .int 0), (0, .ref (ad 0)), (1, .int v1), (4, .int v4)]) hx hb dX10_strike_76 hl (k := 4) rfl (by rw [ex11]; rfl) (by decide) rfl (fun ls hl => ?_)
          refine lv_goto (tgt := 38) hx hb dX10_strike_79 (by decide) ?_
          exact ih σ v1 0 v4 x11 h H locs ls G (lv_sub hl [2, 3, 1, 4, 0] rfl)
        · have h := u_pos q h
          refine lv_iconst (v := 1) hx hb dX10_strike_70 (by decide) ?_
          refine lv_goto (tgt := 75) hx hb dX10_strike_71 (by decide) ?_
          refine lv_istore_n (lv' := [(3, .int 1), (0, .ref (ad 0)), (1, .int v1), (4, .int v4), (5, .int v5)]) hx hb dX10_strike_75 rfl hl (by decide) rfl (fun ls hl => ?_)
          obtain ⟨x12, ex12, h⟩ := ul_of h
          refine lv_iinc (v := x12) (lv' := [(5, .int x12), (3, .int 1), (0, .ref (ad 0)), (1, .int v1), (4, .int v4)]) hx hb dX10_strike_76 hl (k := 4) rfl (by rw [ex12]; rfl) (by decide) rfl (fun ls hl => ?_)
          refine lv_goto (tgt := 38) hx hb dX10_strike_79 (by decide) ?_
          exact ih σ v1 1 v4 x12 h H locs ls G (lv_sub hl [2, 3, 1, 4, 0] rfl)
set_option maxHeartbeats 4000000 in
set_option maxRecDepth 100000 in
theorem w_X10_strike_29 {p : Program} {l : Launch} {e : Env} {s : State} {m : MethodId} {args : Array Value} {below : List Frame} {meth : Method} {c : Code} {D : va_G} {ad : Nat → Nat} {cs : Nat → ClassId} (C : uC p { frames := 3, cells := 0, slots := 0, locals := 64 } s m args c cX10_strike 6 wsX10_strike RX10 D vwCl (tyM cs) 34 ad (uAd 34 ad s.heap.size) 0 0) (hr : meth.sig.returnType = (some .int)) (hlk : meth.locks = false) {r : Int32} {σ' : St} :
    ∀ (n : Nat) (σ : St) (v1 : Int32) (v3 : Int32) (v4 : Int32), f_X10_strike_29 n σ v1 v3 v4 = some (r, σ') → ∀ (H : Heap) (locs : List Loc) (ls : Array Slot), uG D vwCl 34 ad (enM ad cs) (uAd 34 ad s.heap.size) s σ H locs → lv_has ls 6 [(0, .ref (ad 0)), (1, .int v1), (3, .int v3), (4, .int v4)] → W p l e { frames := 3, cells := 0, slots := 0, locals := 64 } s m args below meth c H locs 0 0 (MQ below (uQi D vwCl 34 ad (enM ad cs) r σ' s.heap.size) args s 0 0 (uAd 34 ad s.heap.size)) (F0 m 29 ls []) := by
  have hx := C.1.1
  have hb := C.1.2.1
  intro n
  induction n with
  | zero => intro σ v1 v3 v4  h; exact absurd h (by simp [f_X10_strike_29])
  | succ fuel ih =>
    intro σ v1 v3 v4  h H locs ls G hl
    rw [f_X10_strike_29] at h
    refine lv_iload hx hb dX10_strike_29 (lv_at hl 3 rfl) ?_
    refine lv_iconst (v := 4) hx hb dX10_strike_31 (by decide) ?_
    refine lv_icmp_ge (tgt := 88) hx hb dX10_strike_32 (by decide) (fun q => ?_) (fun q => ?_)
    · have h := u_pos q h
      refine lv_iload_n hx hb dX10_strike_88 rfl (lv_at hl 2 rfl) ?_
      refine lv_if_eq (tgt := 95) hx hb dX10_strike_89 (by decide) (fun q => ?_) (fun q => ?_)
      · have h := u_pos q h
        refine lv_aload_n hx hb dX10_strike_95 rfl (lv_at hl 0 rfl) ?_
        refine u_get (v := .ref (ad 9)) C G obM_0 (ci := 10) (N := 44) (Cn := RX10) (T := TX10) rfl fi_X10_strike_10 11 (by decide) (by decide +kernel) rfl dX10_strike_96 ?_
        refine lv_iload_n hx hb dX10_strike_99 rfl (lv_at hl 1 rfl) ?_
        refine lv_iconst (v := 1) hx hb dX10_strike_100 (by decide) ?_
        obtain ⟨g5, h⟩ := ui_of h
        refine u_zast C G arM_9 (t0 := 2) rfl g5 dX10_strike_101 (fun H locs G => ?_)
        obtain ⟨σ6, eσ6, h⟩ := ul_of h
        replace G := uG_eq eσ6 G
        refine lv_iconst (v := 1) hx hb dX10_strike_102 (by decide) ?_
        obtain ⟨rfl, rfl⟩ := u_end h
        exact u_iret hx hb hr hlk G dX10_strike_103
      · have h := u_neg q h
        refine lv_bipush (v := (-4)) hx hb dX10_strike_92 (by decide) ?_
        obtain ⟨rfl, rfl⟩ := u_end h
        exact u_iret hx hb hr hlk G dX10_strike_94
    · have h := u_neg q h
      refine lv_iconst (v := 0) hx hb dX10_strike_35 (by decide) ?_
      refine lv_istore (lv' := [(5, .int 0), (0, .ref (ad 0)), (1, .int v1), (3, .int v3), (4, .int v4)]) hx hb dX10_strike_36 hl (by decide) rfl (fun ls hl => ?_)
      exact w_X10_strike_38 C hr hlk ih fu σ v1 v3 v4 0 h H locs ls G (lv_sub hl [1, 2, 3, 4, 0] rfl)
set_option maxHeartbeats 4000000 in
set_option maxRecDepth 100000 in
theorem c_X10_strike (l : Launch) (D : va_G) (ad : Nat → Nat) (cs : Nat → ClassId) (J : uJ 34 ad) (σ : St) (v1 : Int32) (r : Int32) (σ' : St) (h : f_X10_strike σ v1 = some (r, σ')) : uMi l yX10_strike wsX10_strike { frames := 3, cells := 0, slots := 0, locals := 64 } D vwCl (tyM cs) 34 ad (enM ad cs) [.ref (ad 0), .int v1] σ r σ' := by
  refine u_met (Qf := uQi D vwCl 34 ad (enM ad cs) r σ') (cc := cX10_strike) (maxL := 6) (ret := (some .int)) (lv := [(0, .ref (ad 0)), (1, .int v1)]) J (by decide) rfl (Nat.le_of_ble_eq_true rfl) rfl rfl rfl ?_
  intro p e s m args below meth c ls hx hb C hr hlk G hl
  unfold f_X10_strike at h
  obtain ⟨H, eH⟩ : ∃ H, H = s.heap := ⟨_, rfl⟩
  obtain ⟨locs, eL⟩ : ∃ locs : List Loc, locs = [] := ⟨_, rfl⟩
  refine u_start eH eL G ?_
  clear G eH eL
  intro G
  refine lv_aload_n hx hb dX10_strike_0 rfl (lv_at hl 0 rfl) ?_
  refine lv_iload_n hx hb dX10_strike_1 rfl (lv_at hl 1 rfl) ?_
  obtain ⟨r1, σ2, er1, h⟩ := ub_of h
  refine u_callVi (As := [.int v1]) (rest := []) C G (c_X10_askedFor l D ad cs C.2.2.1 σ v1 r1 σ2 er1) (cwV 1 C.1.2.2.2.2 gX10_strike_X10_askedFor rfl rfl rfl (by decide +kernel) ⟨Nat.le_of_ble_eq_true rfl, Nat.le_of_ble_eq_true rfl⟩) obM_0 (ci := 10) (T := TX10) rfl rfl hl rfl (Nat.le_of_ble_eq_true rfl) dX10_strike_2 (fun H locs G => ?_)
  refine lv_istore_n (lv' := [(2, .int r1), (0, .ref (ad 0)), (1, .int v1)]) hx hb dX10_strike_5 rfl hl (by decide) rfl (fun ls hl => ?_)
  refine lv_iload_n hx hb dX10_strike_6 rfl (lv_at hl 0 rfl) ?_
  refine lv_if_ge (tgt := 12) hx hb dX10_strike_7 (by decide) (fun q => ?_) (fun q => ?_)
  · have h := u_pos q h
    refine lv_aload_n hx hb dX10_strike_12 rfl (lv_at hl 1 rfl) ?_
    refine lv_iload_n hx hb dX10_strike_13 rfl (lv_at hl 2 rfl) ?_
    obtain ⟨r3, σ4, er3, h⟩ := ub_of h
    refine u_callVi (As := [.int v1]) (rest := []) C G (c_X10_children l D ad cs C.2.2.1 σ2 v1 r3 σ4 er3) (cwV 1 C.1.2.2.2.2 gX10_strike_X10_children rfl rfl rfl (by decide +kernel) ⟨Nat.le_of_ble_eq_true rfl, Nat.le_of_ble_eq_true rfl⟩) obM_0 (ci := 10) (T := TX10) rfl rfl hl rfl (Nat.le_of_ble_eq_true rfl) dX10_strike_14 (fun H locs G => ?_)
    refine lv_if_le (tgt := 24) hx hb dX10_strike_17 (by decide) (fun q => ?_) (fun q => ?_)
    · have h := u_pos q h
      refine lv_iconst (v := 0) hx hb dX10_strike_24 (by decide) ?_
      refine lv_istore_n (lv' := [(3, .int 0), (2, .int r1), (0, .ref (ad 0)), (1, .int v1)]) hx hb dX10_strike_25 rfl hl (by decide) rfl (fun ls hl => ?_)
      refine lv_iconst (v := 0) hx hb dX10_strike_26 (by decide) ?_
      refine lv_istore (lv' := [(4, .int 0), (3, .int 0), (2, .int r1), (0, .ref (ad 0)), (1, .int v1)]) hx hb dX10_strike_27 hl (by decide) rfl (fun ls hl => ?_)
      exact w_X10_strike_29 C hr hlk fu σ4 v1 0 0 h H locs ls G (lv_sub hl [3, 4, 1, 0] rfl)
    · have h := u_neg q h
      refine lv_iconst (v := 1) hx hb dX10_strike_20 (by decide) ?_
      refine lv_goto (tgt := 25) hx hb dX10_strike_21 (by decide) ?_
      refine lv_istore_n (lv' := [(3, .int 1), (2, .int r1), (0, .ref (ad 0)), (1, .int v1)]) hx hb dX10_strike_25 rfl hl (by decide) rfl (fun ls hl => ?_)
      refine lv_iconst (v := 0) hx hb dX10_strike_26 (by decide) ?_
      refine lv_istore (lv' := [(4, .int 0), (3, .int 1), (2, .int r1), (0, .ref (ad 0)), (1, .int v1)]) hx hb dX10_strike_27 hl (by decide) rfl (fun ls hl => ?_)
      exact w_X10_strike_29 C hr hlk fu σ4 v1 1 0 h H locs ls G (lv_sub hl [3, 4, 1, 0] rfl)
  · have h := u_neg q h
    refine lv_iload_n hx hb dX10_strike_10 rfl (lv_at hl 0 rfl) ?_
    obtain ⟨rfl, rfl⟩ := u_end h
    exact u_iret hx hb hr hlk G dX10_strike_11
/-! X10_bits -/
def f_X10_bits_4 : Nat → St → Int32 → Int32 → Int32 → Option (Int32 × St)
  | 0, _, _, _, _ => none
  | fuel + 1, σ, v0, v1, v2 =>
    if 15 ≤ v2 then
      some (v1, σ)
    else
      ul (v1 + ((v0 >>> (v2 &&& 31)) &&& 1)) fun x1 =>
      ul (v2 + 1) fun x2 =>
      f_X10_bits_4 fuel σ v0 x1 x2
def f_X10_bits (σ : St) (v0 : Int32) : Option (Int32 × St) :=
  f_X10_bits_4 fu σ v0 0 0
set_option maxHeartbeats 4000000 in
set_option maxRecDepth 100000 in
theorem w_X10_bits_4 {p : Program} {l : Launch} {e : Env} {s : State} {m : MethodId} {args : Array Value} {below : List Frame} {meth : Method} {c : Code} {D : va_G} {ad : Nat → Nat} {cs : Nat → ClassId} (C : uC p { frames := 0, cells := 0, slots := 0, locals := 0 } s m args c cX10_bits 3 wsX10_bits RX10 D vwCl (tyM cs) 34 ad (uAd 34 ad s.heap.size) 0 0) (hr : meth.sig.returnType = (some .int)) (hlk : meth.locks = false) {r : Int32} {σ' : St} :
    ∀ (n : Nat) (σ : St) (v0 : Int32) (v1 : Int32) (v2 : Int32), f_X10_bits_4 n σ v0 v1 v2 = some (r, σ') → ∀ (H : Heap) (locs : List Loc) (ls : Array Slot), uG D vwCl 34 ad (enM ad cs) (uAd 34 ad s.heap.size) s σ H locs → lv_has ls 3 [(0, .int v0), (1, .int v1), (2, .int v2)] → W p l e { frames := 0, cells := 0, slots := 0, locals := 0 } s m args below meth c H locs 0 0 (MQ below (uQi D vwCl 34 ad (enM ad cs) r σ' s.heap.size) args s 0 0 (uAd 34 ad s.heap.size)) (F0 m 4 ls []) := by
  have hx := C.1.1
  have hb := C.1.2.1
  intro n
  induction n with
  | zero => intro σ v0 v1 v2  h; exact absurd h (by simp [f_X10_bits_4])
  | succ fuel ih =>
    intro σ v0 v1 v2  h H locs ls G hl
    rw [f_X10_bits_4] at h
    refine lv_iload_n hx hb dX10_bits_4 rfl (lv_at hl 2 rfl) ?_
    refine lv_bipush (v := 15) hx hb dX10_bits_5 (by decide) ?_
    refine lv_icmp_ge (tgt := 24) hx hb dX10_bits_7 (by decide) (fun q => ?_) (fun q => ?_)
    · have h := u_pos q h
      refine lv_iload_n hx hb dX10_bits_24 rfl (lv_at hl 1 rfl) ?_
      obtain ⟨rfl, rfl⟩ := u_end h
      exact u_iret hx hb hr hlk G dX10_bits_25
    · have h := u_neg q h
      refine lv_iload_n hx hb dX10_bits_10 rfl (lv_at hl 1 rfl) ?_
      refine lv_iload_n hx hb dX10_bits_11 rfl (lv_at hl 0 rfl) ?_
      refine lv_iload_n hx hb dX10_bits_12 rfl (lv_at hl 2 rfl) ?_
      refine lv_ishr hx hb dX10_bits_13 ?_
      refine lv_iconst (v := 1) hx hb dX10_bits_14 (by decide) ?_
      refine lv_iand hx hb dX10_bits_15 ?_
      refine lv_iadd hx hb dX10_bits_16 ?_
      obtain ⟨x1, ex1, h⟩ := ul_of h
      refine u_nmi ex1 ?_
      refine lv_istore_n (lv' := [(1, .int x1), (0, .int v0), (2, .int v2)]) hx hb dX10_bits_17 rfl hl (by decide) rfl (fun ls hl => ?_)
      obtain ⟨x2, ex2, h⟩ := ul_of h
      refine lv_iinc (v := x2) (lv' := [(2, .int x2), (1, .int x1), (0, .int v0)]) hx hb dX10_bits_18 hl (k := 2) rfl (by rw [ex2]; rfl) (by decide) rfl (fun ls hl => ?_)
      refine lv_goto (tgt := 4) hx hb dX10_bits_21 (by decide) ?_
      exact ih σ v0 x1 x2 h H locs ls G (lv_sub hl [2, 1, 0] rfl)
set_option maxHeartbeats 4000000 in
set_option maxRecDepth 100000 in
theorem c_X10_bits (l : Launch) (D : va_G) (ad : Nat → Nat) (cs : Nat → ClassId) (J : uJ 34 ad) (σ : St) (v0 : Int32) (r : Int32) (σ' : St) (h : f_X10_bits σ v0 = some (r, σ')) : uMi l yX10_bits wsX10_bits { frames := 0, cells := 0, slots := 0, locals := 0 } D vwCl (tyM cs) 34 ad (enM ad cs) [.int v0] σ r σ' := by
  refine u_met (Qf := uQi D vwCl 34 ad (enM ad cs) r σ') (cc := cX10_bits) (maxL := 3) (ret := (some .int)) (lv := [(0, .int v0)]) J (by decide) rfl (Nat.le_of_ble_eq_true rfl) rfl rfl rfl ?_
  intro p e s m args below meth c ls hx hb C hr hlk G hl
  unfold f_X10_bits at h
  obtain ⟨H, eH⟩ : ∃ H, H = s.heap := ⟨_, rfl⟩
  obtain ⟨locs, eL⟩ : ∃ locs : List Loc, locs = [] := ⟨_, rfl⟩
  refine u_start eH eL G ?_
  clear G eH eL
  intro G
  refine lv_iconst (v := 0) hx hb dX10_bits_0 (by decide) ?_
  refine lv_istore_n (lv' := [(1, .int 0), (0, .int v0)]) hx hb dX10_bits_1 rfl hl (by decide) rfl (fun ls hl => ?_)
  refine lv_iconst (v := 0) hx hb dX10_bits_2 (by decide) ?_
  refine lv_istore_n (lv' := [(2, .int 0), (1, .int 0), (0, .int v0)]) hx hb dX10_bits_3 rfl hl (by decide) rfl (fun ls hl => ?_)
  exact w_X10_bits_4 C hr hlk fu σ v0 0 0 h H locs ls G (lv_sub hl [2, 1, 0] rfl)
/-! X10_tells -/
def f_X10_tells_5 : Nat → St → Int32 → Int32 → Int32 → Int32 → Option (Int32 × St)
  | 0, _, _, _, _, _ => none
  | fuel + 1, σ, v1, v2, v3, v4 =>
    ui v1 16 <|
    if (σ 7 v1.toNatClampNeg) ≤ v4 then
      if v2 = 0 then
        ui v1 16 <|
        some ((σ 6 v1.toNatClampNeg), σ)
      else
        if v2 = 1 then
          ui v1 16 <|
          some ((σ 7 v1.toNatClampNeg), σ)
        else
          if v2 = 2 then
            some (v3, σ)
          else
            if v2 = 3 then
              ui v1 16 <|
              some ((σ 11 v1.toNatClampNeg), σ)
            else
              if v2 = 4 then
                ui v1 16 <|
                some ((σ 12 v1.toNatClampNeg), σ)
              else
                ui v1 16 <|
                some ((σ 10 v1.toNatClampNeg), σ)
    else
      ui ((8 * v1) + v4) 128 <|
      ui (σ 8 ((8 * v1) + v4).toNatClampNeg) 26 <|
      ub (f_X10_bits σ (σ 2 (σ 8 ((8 * v1) + v4).toNatClampNeg).toNatClampNeg)) fun r9 σ10 =>
      ul (v3 + r9) fun x11 =>
      ul (v4 + 1) fun x12 =>
      f_X10_tells_5 fuel σ10 v1 v2 x11 x12
def f_X10_tells (σ : St) (v1 : Int32) (v2 : Int32) : Option (Int32 × St) :=
  f_X10_tells_5 fu σ v1 v2 0 0
theorem fi_X10_tells_10 : ∀ w ∈ u_ws RX10 TX10 44, w ∈ wsX10_tells := by decide +kernel
set_option maxHeartbeats 4000000 in
set_option maxRecDepth 100000 in
theorem w_X10_tells_5 {p : Program} {l : Launch} {e : Env} {s : State} {m : MethodId} {args : Array Value} {below : List Frame} {meth : Method} {c : Code} {D : va_G} {ad : Nat → Nat} {cs : Nat → ClassId} (C : uC p { frames := 1, cells := 0, slots := 0, locals := 22 } s m args c cX10_tells 5 wsX10_tells RX10 D vwCl (tyM cs) 34 ad (uAd 34 ad s.heap.size) 0 0) (hr : meth.sig.returnType = (some .int)) (hlk : meth.locks = false) {r : Int32} {σ' : St} :
    ∀ (n : Nat) (σ : St) (v1 : Int32) (v2 : Int32) (v3 : Int32) (v4 : Int32), f_X10_tells_5 n σ v1 v2 v3 v4 = some (r, σ') → ∀ (H : Heap) (locs : List Loc) (ls : Array Slot), uG D vwCl 34 ad (enM ad cs) (uAd 34 ad s.heap.size) s σ H locs → lv_has ls 5 [(0, .ref (ad 0)), (1, .int v1), (2, .int v2), (3, .int v3), (4, .int v4)] → W p l e { frames := 1, cells := 0, slots := 0, locals := 22 } s m args below meth c H locs 0 0 (MQ below (uQi D vwCl 34 ad (enM ad cs) r σ' s.heap.size) args s 0 0 (uAd 34 ad s.heap.size)) (F0 m 5 ls []) := by
  have hx := C.1.1
  have hb := C.1.2.1
  intro n
  induction n with
  | zero => intro σ v1 v2 v3 v4  h; exact absurd h (by simp [f_X10_tells_5])
  | succ fuel ih =>
    intro σ v1 v2 v3 v4  h H locs ls G hl
    rw [f_X10_tells_5] at h
    refine lv_iload hx hb dX10_tells_5 (lv_at hl 4 rfl) ?_
    refine lv_aload_n hx hb dX10_tells_7 rfl (lv_at hl 0 rfl) ?_
    refine u_get (v := .ref (ad 7)) C G obM_0 (ci := 10) (N := 44) (Cn := RX10) (T := TX10) rfl fi_X10_tells_10 9 (by decide) (by decide +kernel) rfl dX10_tells_8 ?_
    refine lv_iload_n hx hb dX10_tells_11 rfl (lv_at hl 1 rfl) ?_
    obtain ⟨g1, h⟩ := ui_of h
    refine u_iald C G arM_7 (t0 := 0) rfl g1 dX10_tells_12 ?_
    refine lv_icmp_ge (tgt := 45) hx hb dX10_tells_13 (by decide) (fun q => ?_) (fun q => ?_)
    · have h := u_pos q h
      refine lv_iload_n hx hb dX10_tells_45 rfl (lv_at hl 2 rfl) ?_
      by_cases q0 : v2 = 0
      · have h := u_pos q0 h
        refine lv_tableIn (off := 34) (tgt := 80) hx hb dX10_tells_46 (by rw [q0]; decide) (by rw [q0]; decide) (by rw [q0]; decide) (by decide) ?_
        refine lv_aload_n hx hb dX10_tells_80 rfl (lv_at hl 0 rfl) ?_
        refine u_get (v := .ref (ad 6)) C G obM_0 (ci := 10) (N := 44) (Cn := RX10) (T := TX10) rfl fi_X10_tells_10 8 (by decide) (by decide +kernel) rfl dX10_tells_81 ?_
        refine lv_iload_n hx hb dX10_tells_84 rfl (lv_at hl 1 rfl) ?_
        obtain ⟨g2, h⟩ := ui_of h
        refine u_iald C G arM_6 (t0 := 0) rfl g2 dX10_tells_85 ?_
        obtain ⟨rfl, rfl⟩ := u_end h
        exact u_iret hx hb hr hlk G dX10_tells_86
      · have h := u_neg q0 h
        by_cases q1 : v2 = 1
        · have h := u_pos q1 h
          refine lv_tableIn (off := 41) (tgt := 87) hx hb dX10_tells_46 (by rw [q1]; decide) (by rw [q1]; decide) (by rw [q1]; decide) (by decide) ?_
          refine lv_aload_n hx hb dX10_tells_87 rfl (lv_at hl 0 rfl) ?_
          refine u_get (v := .ref (ad 7)) C G obM_0 (ci := 10) (N := 44) (Cn := RX10) (T := TX10) rfl fi_X10_tells_10 9 (by decide) (by decide +kernel) rfl dX10_tells_88 ?_
          refine lv_iload_n hx hb dX10_tells_91 rfl (lv_at hl 1 rfl) ?_
          obtain ⟨g3, h⟩ := ui_of h
          refine u_iald C G arM_7 (t0 := 0) rfl g3 dX10_tells_92 ?_
          obtain ⟨rfl, rfl⟩ := u_end h
          exact u_iret hx hb hr hlk G dX10_tells_93
        · have h := u_neg q1 h
          by_cases q2 : v2 = 2
          · have h := u_pos q2 h
            refine lv_tableIn (off := 48) (tgt := 94) hx hb dX10_tells_46 (by rw [q2]; decide) (by rw [q2]; decide) (by rw [q2]; decide) (by decide) ?_
            refine lv_iload_n hx hb dX10_tells_94 rfl (lv_at hl 3 rfl) ?_
            obtain ⟨rfl, rfl⟩ := u_end h
            exact u_iret hx hb hr hlk G dX10_tells_95
          · have h := u_neg q2 h
            by_cases q3 : v2 = 3
            · have h := u_pos q3 h
              refine lv_tableIn (off := 50) (tgt := 96) hx hb dX10_tells_46 (by rw [q3]; decide) (by rw [q3]; decide) (by rw [q3]; decide) (by decide) ?_
              refine lv_aload_n hx hb dX10_tells_96 rfl (lv_at hl 0 rfl) ?_
              refine u_get (v := .ref (ad 11)) C G obM_0 (ci := 10) (N := 44) (Cn := RX10) (T := TX10) rfl fi_X10_tells_10 13 (by decide) (by decide +kernel) rfl dX10_tells_97 ?_
              refine lv_iload_n hx hb dX10_tells_100 rfl (lv_at hl 1 rfl) ?_
              obtain ⟨g4, h⟩ := ui_of h
              refine u_iald C G arM_11 (t0 := 0) rfl g4 dX10_tells_101 ?_
              obtain ⟨rfl, rfl⟩ := u_end h
              exact u_iret hx hb hr hlk G dX10_tells_102
            · have h := u_neg q3 h
              by_cases q4 : v2 = 4
              · have h := u_pos q4 h
                refine lv_tableIn (off := 57) (tgt := 103) hx hb dX10_tells_46 (by rw [q4]; decide) (by rw [q4]; decide) (by rw [q4]; decide) (by decide) ?_
                refine lv_aload_n hx hb dX10_tells_103 rfl (lv_at hl 0 rfl) ?_
                refine u_get (v := .ref (ad 12)) C G obM_0 (ci := 10) (N := 44) (Cn := RX10) (T := TX10) rfl fi_X10_tells_10 14 (by decide) (by decide +kernel) rfl dX10_tells_104 ?_
                refine lv_iload_n hx hb dX10_tells_107 rfl (lv_at hl 1 rfl) ?_
                obtain ⟨g5, h⟩ := ui_of h
                refine u_iald C G arM_12 (t0 := 0) rfl g5 dX10_tells_108 ?_
                obtain ⟨rfl, rfl⟩ := u_end h
                exact u_iret hx hb hr hlk G dX10_tells_109
              · have h := u_neg q4 h
                refine lv_tableOut (tgt := 110) hx hb dX10_tells_46 (by have := (trivial : True); have n0 := lv_neT q0 (a := 0) (by decide); have n1 := lv_neT q1 (a := 1) (by decide); have n2 := lv_neT q2 (a := 2) (by decide); have n3 := lv_neT q3 (a := 3) (by decide); have n4 := lv_neT q4 (a := 4) (by decide); omega) (by decide) ?_
                refine lv_aload_n hx hb dX10_tells_110 rfl (lv_at hl 0 rfl) ?_
                refine u_get (v := .ref (ad 10)) C G obM_0 (ci := 10) (N := 44) (Cn := RX10) (T := TX10) rfl fi_X10_tells_10 12 (by decide) (by decide +kernel) rfl dX10_tells_111 ?_
                refine lv_iload_n hx hb dX10_tells_114 rfl (lv_at hl 1 rfl) ?_
                obtain ⟨g6, h⟩ := ui_of h
                refine u_iald C G arM_10 (t0 := 0) rfl g6 dX10_tells_115 ?_
                obtain ⟨rfl, rfl⟩ := u_end h
                exact u_iret hx hb hr hlk G dX10_tells_116
    · have h := u_neg q h
      refine lv_iload_n hx hb dX10_tells_16 rfl (lv_at hl 3 rfl) ?_
      refine lv_aload_n hx hb dX10_tells_17 rfl (lv_at hl 0 rfl) ?_
      refine u_get (v := .ref (ad 2)) C G obM_0 (ci := 10) (N := 44) (Cn := RX10) (T := TX10) rfl fi_X10_tells_10 3 (by decide) (by decide +kernel) rfl dX10_tells_18 ?_
      refine lv_aload_n hx hb dX10_tells_21 rfl (lv_at hl 0 rfl) ?_
      refine u_get (v := .ref (ad 8)) C G obM_0 (ci := 10) (N := 44) (Cn := RX10) (T := TX10) rfl fi_X10_tells_10 10 (by decide) (by decide +kernel) rfl dX10_tells_22 ?_
      refine lv_bipush (v := 8) hx hb dX10_tells_25 (by decide) ?_
      refine lv_iload_n hx hb dX10_tells_27 rfl (lv_at hl 1 rfl) ?_
      refine lv_imul hx hb dX10_tells_28 ?_
      refine lv_iload hx hb dX10_tells_29 (lv_at hl 4 rfl) ?_
      refine lv_iadd hx hb dX10_tells_31 ?_
      obtain ⟨g7, h⟩ := ui_of h
      refine u_iald C G arM_8 (t0 := 0) rfl g7 dX10_tells_32 ?_
      obtain ⟨g8, h⟩ := ui_of h
      refine u_iald C G arM_2 (t0 := 0) rfl g8 dX10_tells_33 ?_
      obtain ⟨r9, σ10, er9, h⟩ := ub_of h
      refine u_callSi (As := [.int (σ 2 (σ 8 ((8 * v1) + v4).toNatClampNeg).toNatClampNeg)]) (rest := [.int v3]) C G (c_X10_bits l D ad cs C.2.2.1 σ (σ 2 (σ 8 ((8 * v1) + v4).toNatClampNeg).toNatClampNeg) r9 σ10 er9) (va_cwS 1 C.1.2.2.2.2 gX10_tells_X10_bits rfl rfl rfl (by decide +kernel) ⟨Nat.le_of_ble_eq_true rfl, Nat.le_of_ble_eq_true rfl⟩) rfl hl rfl (Nat.le_of_ble_eq_true rfl) dX10_tells_34 (fun H locs G => ?_)
      refine lv_iadd hx hb dX10_tells_37 ?_
      obtain ⟨x11, ex11, h⟩ := ul_of h
      refine u_nmi ex11 ?_
      refine lv_istore_n (lv' := [(3, .int x11), (0, .ref (ad 0)), (1, .int v1), (2, .int v2), (4, .int v4)]) hx hb dX10_tells_38 rfl hl (by decide) rfl (fun ls hl => ?_)
      obtain ⟨x12, ex12, h⟩ := ul_of h
      refine lv_iinc (v := x12) (lv' := [(4, .int x12), (3, .int x11), (0, .ref (ad 0)), (1, .int v1), (2, .int v2)]) hx hb dX10_tells_39 hl (k := 4) rfl (by rw [ex12]; rfl) (by decide) rfl (fun ls hl => ?_)
      refine lv_goto (tgt := 5) hx hb dX10_tells_42 (by decide) ?_
      exact ih σ10 v1 v2 x11 x12 h H locs ls G (lv_sub hl [2, 3, 4, 1, 0] rfl)
set_option maxHeartbeats 4000000 in
set_option maxRecDepth 100000 in
theorem c_X10_tells (l : Launch) (D : va_G) (ad : Nat → Nat) (cs : Nat → ClassId) (J : uJ 34 ad) (σ : St) (v1 : Int32) (v2 : Int32) (r : Int32) (σ' : St) (h : f_X10_tells σ v1 v2 = some (r, σ')) : uMi l yX10_tells wsX10_tells { frames := 1, cells := 0, slots := 0, locals := 22 } D vwCl (tyM cs) 34 ad (enM ad cs) [.ref (ad 0), .int v1, .int v2] σ r σ' := by
  refine u_met (Qf := uQi D vwCl 34 ad (enM ad cs) r σ') (cc := cX10_tells) (maxL := 5) (ret := (some .int)) (lv := [(0, .ref (ad 0)), (1, .int v1), (2, .int v2)]) J (by decide) rfl (Nat.le_of_ble_eq_true rfl) rfl rfl rfl ?_
  intro p e s m args below meth c ls hx hb C hr hlk G hl
  unfold f_X10_tells at h
  obtain ⟨H, eH⟩ : ∃ H, H = s.heap := ⟨_, rfl⟩
  obtain ⟨locs, eL⟩ : ∃ locs : List Loc, locs = [] := ⟨_, rfl⟩
  refine u_start eH eL G ?_
  clear G eH eL
  intro G
  refine lv_iconst (v := 0) hx hb dX10_tells_0 (by decide) ?_
  refine lv_istore_n (lv' := [(3, .int 0), (0, .ref (ad 0)), (1, .int v1), (2, .int v2)]) hx hb dX10_tells_1 rfl hl (by decide) rfl (fun ls hl => ?_)
  refine lv_iconst (v := 0) hx hb dX10_tells_2 (by decide) ?_
  refine lv_istore (lv' := [(4, .int 0), (3, .int 0), (0, .ref (ad 0)), (1, .int v1), (2, .int v2)]) hx hb dX10_tells_3 hl (by decide) rfl (fun ls hl => ?_)
  exact w_X10_tells_5 C hr hlk fu σ v1 v2 0 0 h H locs ls G (lv_sub hl [2, 3, 4, 1, 0] rfl)
/-! X10_told -/
def f_X10_told (σ : St) (v1 : Int32) (v2 : Int32) : Option (Int32 × St) :=
  ub (f_X10_in σ v2 (0 : Int32) (5 : Int32)) fun r1 σ2 =>
  if r1 = 0 then
    some (((-1) : Int32), σ2)
  else
    ub (f_X10_askedFor σ2 v1) fun r3 σ4 =>
    if 0 ≤ r3 then
      ub (f_X10_tells σ4 v1 v2) fun r5 σ6 =>
      some (r5, σ6)
    else
      some (r3, σ4)
set_option maxHeartbeats 4000000 in
set_option maxRecDepth 100000 in
theorem c_X10_told (l : Launch) (D : va_G) (ad : Nat → Nat) (cs : Nat → ClassId) (J : uJ 34 ad) (σ : St) (v1 : Int32) (v2 : Int32) (r : Int32) (σ' : St) (h : f_X10_told σ v1 v2 = some (r, σ')) : uMi l yX10_told wsX10_told { frames := 3, cells := 0, slots := 0, locals := 64 } D vwCl (tyM cs) 34 ad (enM ad cs) [.ref (ad 0), .int v1, .int v2] σ r σ' := by
  refine u_met (Qf := uQi D vwCl 34 ad (enM ad cs) r σ') (cc := cX10_told) (maxL := 4) (ret := (some .int)) (lv := [(0, .ref (ad 0)), (1, .int v1), (2, .int v2)]) J (by decide) rfl (Nat.le_of_ble_eq_true rfl) rfl rfl rfl ?_
  intro p e s m args below meth c ls hx hb C hr hlk G hl
  unfold f_X10_told at h
  obtain ⟨H, eH⟩ : ∃ H, H = s.heap := ⟨_, rfl⟩
  obtain ⟨locs, eL⟩ : ∃ locs : List Loc, locs = [] := ⟨_, rfl⟩
  refine u_start eH eL G ?_
  clear G eH eL
  intro G
  refine lv_iload_n hx hb dX10_told_0 rfl (lv_at hl 2 rfl) ?_
  refine lv_iconst (v := 0) hx hb dX10_told_1 (by decide) ?_
  refine lv_iconst (v := 5) hx hb dX10_told_2 (by decide) ?_
  obtain ⟨r1, σ2, er1, h⟩ := ub_of h
  refine u_callSi (As := [.int v2, .int 0, .int 5]) (rest := []) C G (c_X10_in l D ad cs C.2.2.1 σ v2 (0 : Int32) (5 : Int32) r1 σ2 er1) (va_cwS 3 C.1.2.2.2.2 gX10_told_X10_in rfl rfl rfl (by decide +kernel) ⟨Nat.le_of_ble_eq_true rfl, Nat.le_of_ble_eq_true rfl⟩) rfl hl rfl (Nat.le_of_ble_eq_true rfl) dX10_told_3 (fun H locs G => ?_)
  refine lv_if_ne (tgt := 11) hx hb dX10_told_6 (by decide) (fun q => ?_) (fun q => ?_)
  · have h := u_neg q h
    refine lv_aload_n hx hb dX10_told_11 rfl (lv_at hl 0 rfl) ?_
    refine lv_iload_n hx hb dX10_told_12 rfl (lv_at hl 1 rfl) ?_
    obtain ⟨r3, σ4, er3, h⟩ := ub_of h
    refine u_callVi (As := [.int v1]) (rest := []) C G (c_X10_askedFor l D ad cs C.2.2.1 σ2 v1 r3 σ4 er3) (cwV 1 C.1.2.2.2.2 gX10_told_X10_askedFor rfl rfl rfl (by decide +kernel) ⟨Nat.le_of_ble_eq_true rfl, Nat.le_of_ble_eq_true rfl⟩) obM_0 (ci := 10) (T := TX10) rfl rfl hl rfl (Nat.le_of_ble_eq_true rfl) dX10_told_13 (fun H locs G => ?_)
    refine lv_istore_n (lv' := [(3, .int r3), (0, .ref (ad 0)), (1, .int v1), (2, .int v2)]) hx hb dX10_told_16 rfl hl (by decide) rfl (fun ls hl => ?_)
    refine lv_iload_n hx hb dX10_told_17 rfl (lv_at hl 0 rfl) ?_
    refine lv_if_ge (tgt := 25) hx hb dX10_told_18 (by decide) (fun q => ?_) (fun q => ?_)
    · have h := u_pos q h
      refine lv_aload_n hx hb dX10_told_25 rfl (lv_at hl 1 rfl) ?_
      refine lv_iload_n hx hb dX10_told_26 rfl (lv_at hl 2 rfl) ?_
      refine lv_iload_n hx hb dX10_told_27 rfl (lv_at hl 3 rfl) ?_
      obtain ⟨r5, σ6, er5, h⟩ := ub_of h
      refine u_callVi (As := [.int v1, .int v2]) (rest := []) C G (c_X10_tells l D ad cs C.2.2.1 σ4 v1 v2 r5 σ6 er5) (cwV 2 C.1.2.2.2.2 gX10_told_X10_tells rfl rfl rfl (by decide +kernel) ⟨Nat.le_of_ble_eq_true rfl, Nat.le_of_ble_eq_true rfl⟩) obM_0 (ci := 10) (T := TX10) rfl rfl hl rfl (Nat.le_of_ble_eq_true rfl) dX10_told_28 (fun H locs G => ?_)
      obtain ⟨rfl, rfl⟩ := u_end h
      exact u_iret hx hb hr hlk G dX10_told_31
    · have h := u_neg q h
      refine lv_iload_n hx hb dX10_told_21 rfl (lv_at hl 0 rfl) ?_
      refine lv_goto (tgt := 31) hx hb dX10_told_22 (by decide) ?_
      obtain ⟨rfl, rfl⟩ := u_end h
      exact u_iret hx hb hr hlk G dX10_told_31
  · have h := u_pos q h
    refine lv_iconst (v := (-1)) hx hb dX10_told_9 (by decide) ?_
    obtain ⟨rfl, rfl⟩ := u_end h
    exact u_iret hx hb hr hlk G dX10_told_10
/-! X10_mark -/
def f_X10_mark_57 : Nat → St → Int32 → Int32 → Int32 → Option (Int32 × St)
  | 0, _, _, _, _ => none
  | fuel + 1, σ, v1, v2, v4 =>
    if v2 = 2 then
      ui v4 16 <|
      if (σ 13 v4.toNatClampNeg) = (-9) then
        if v2 = 1 then
          ub (f_X10_children σ v1) fun r16 σ17 =>
          some (r16, σ17)
        else
          if v2 = 2 then
            some (v4, σ)
          else
            ui v1 16 <|
            some ((σ 13 v1.toNatClampNeg), σ)
      else
        ui v4 16 <|
        ul (σ 13 v4.toNatClampNeg) fun x19 =>
        f_X10_mark_57 fuel σ v1 v2 x19
    else
      if v2 = 1 then
        ub (f_X10_children σ v1) fun r12 σ13 =>
        some (r12, σ13)
      else
        if v2 = 2 then
          some (v4, σ)
        else
          ui v1 16 <|
          some ((σ 13 v1.toNatClampNeg), σ)
def f_X10_mark (σ : St) (v1 : Int32) (v2 : Int32) : Option (Int32 × St) :=
  ub (f_X10_in σ v2 (1 : Int32) (3 : Int32)) fun r1 σ2 =>
  if r1 = 0 then
    some (((-1) : Int32), σ2)
  else
    ub (f_X10_askedFor σ2 v1) fun r3 σ4 =>
    if 0 ≤ r3 then
      ui v1 16 <|
      if (σ4 6 v1.toNatClampNeg) = v2 then
        f_X10_mark_57 fu σ4 v1 v2 v1
      else
        if v2 = 1 then
          ui v1 16 <|
          if (σ4 6 v1.toNatClampNeg) = 2 then
            f_X10_mark_57 fu σ4 v1 v2 v1
          else
            ub (f_X10_meets σ4 (3 : Int32)) fun r9 σ10 =>
            some (r9, σ10)
        else
          ub (f_X10_meets σ4 (3 : Int32)) fun r6 σ7 =>
          some (r6, σ7)
    else
      some (r3, σ4)
theorem fi_X10_mark_10 : ∀ w ∈ u_ws RX10 TX10 44, w ∈ wsX10_mark := by decide +kernel
set_option maxHeartbeats 4000000 in
set_option maxRecDepth 100000 in
theorem w_X10_mark_57 {p : Program} {l : Launch} {e : Env} {s : State} {m : MethodId} {args : Array Value} {below : List Frame} {meth : Method} {c : Code} {D : va_G} {ad : Nat → Nat} {cs : Nat → ClassId} (C : uC p { frames := 3, cells := 0, slots := 0, locals := 64 } s m args c cX10_mark 5 wsX10_mark RX10 D vwCl (tyM cs) 34 ad (uAd 34 ad s.heap.size) 0 0) (hr : meth.sig.returnType = (some .int)) (hlk : meth.locks = false) {r : Int32} {σ' : St} :
    ∀ (n : Nat) (σ : St) (v1 : Int32) (v2 : Int32) (v4 : Int32), f_X10_mark_57 n σ v1 v2 v4 = some (r, σ') → ∀ (H : Heap) (locs : List Loc) (ls : Array Slot), uG D vwCl 34 ad (enM ad cs) (uAd 34 ad s.heap.size) s σ H locs → lv_has ls 5 [(0, .ref (ad 0)), (1, .int v1), (2, .int v2), (4, .int v4)] → W p l e { frames := 3, cells := 0, slots := 0, locals := 64 } s m args below meth c H locs 0 0 (MQ below (uQi D vwCl 34 ad (enM ad cs) r σ' s.heap.size) args s 0 0 (uAd 34 ad s.heap.size)) (F0 m 57 ls []) := by
  have hx := C.1.1
  have hb := C.1.2.1
  intro n
  induction n with
  | zero => intro σ v1 v2 v4  h; exact absurd h (by simp [f_X10_mark_57])
  | succ fuel ih =>
    intro σ v1 v2 v4  h H locs ls G hl
    rw [f_X10_mark_57] at h
    refine lv_iload_n hx hb dX10_mark_57 rfl (lv_at hl 2 rfl) ?_
    refine lv_iconst (v := 2) hx hb dX10_mark_58 (by decide) ?_
    refine lv_icmp_ne (tgt := 86) hx hb dX10_mark_59 (by decide) (fun q => ?_) (fun q => ?_)
    · have h := u_neg q h
      refine lv_iload_n hx hb dX10_mark_86 rfl (lv_at hl 2 rfl) ?_
      refine lv_iconst (v := 1) hx hb dX10_mark_87 (by decide) ?_
      refine lv_icmp_ne (tgt := 99) hx hb dX10_mark_88 (by decide) (fun q => ?_) (fun q => ?_)
      · have h := u_neg q h
        refine lv_iload_n hx hb dX10_mark_99 rfl (lv_at hl 2 rfl) ?_
        refine lv_iconst (v := 2) hx hb dX10_mark_100 (by decide) ?_
        refine lv_icmp_ne (tgt := 109) hx hb dX10_mark_101 (by decide) (fun q => ?_) (fun q => ?_)
        · have h := u_neg q h
          refine lv_aload_n hx hb dX10_mark_109 rfl (lv_at hl 0 rfl) ?_
          refine u_get (v := .ref (ad 13)) C G obM_0 (ci := 10) (N := 44) (Cn := RX10) (T := TX10) rfl fi_X10_mark_10 15 (by decide) (by decide +kernel) rfl dX10_mark_110 ?_
          refine lv_iload_n hx hb dX10_mark_113 rfl (lv_at hl 1 rfl) ?_
          obtain ⟨g11, h⟩ := ui_of h
          refine u_iald C G arM_13 (t0 := 0) rfl g11 dX10_mark_114 ?_
          obtain ⟨rfl, rfl⟩ := u_end h
          exact u_iret hx hb hr hlk G dX10_mark_115
        · have h := u_pos q h
          refine lv_iload hx hb dX10_mark_104 (lv_at hl 3 rfl) ?_
          refine lv_goto (tgt := 115) hx hb dX10_mark_106 (by decide) ?_
          obtain ⟨rfl, rfl⟩ := u_end h
          exact u_iret hx hb hr hlk G dX10_mark_115
      · have h := u_pos q h
        refine lv_aload_n hx hb dX10_mark_91 rfl (lv_at hl 0 rfl) ?_
        refine lv_iload_n hx hb dX10_mark_92 rfl (lv_at hl 1 rfl) ?_
        obtain ⟨r12, σ13, er12, h⟩ := ub_of h
        refine u_callVi (As := [.int v1]) (rest := []) C G (c_X10_children l D ad cs C.2.2.1 σ v1 r12 σ13 er12) (cwV 1 C.1.2.2.2.2 gX10_mark_X10_children rfl rfl rfl (by decide +kernel) ⟨Nat.le_of_ble_eq_true rfl, Nat.le_of_ble_eq_true rfl⟩) obM_0 (ci := 10) (T := TX10) rfl rfl hl rfl (Nat.le_of_ble_eq_true rfl) dX10_mark_93 (fun H locs G => ?_)
        refine lv_goto (tgt := 115) hx hb dX10_mark_96 (by decide) ?_
        obtain ⟨rfl, rfl⟩ := u_end h
        exact u_iret hx hb hr hlk G dX10_mark_115
    · have h := u_pos q h
      refine lv_aload_n hx hb dX10_mark_62 rfl (lv_at hl 0 rfl) ?_
      refine u_get (v := .ref (ad 13)) C G obM_0 (ci := 10) (N := 44) (Cn := RX10) (T := TX10) rfl fi_X10_mark_10 15 (by decide) (by decide +kernel) rfl dX10_mark_63 ?_
      refine lv_iload hx hb dX10_mark_66 (lv_at hl 3 rfl) ?_
      obtain ⟨g14, h⟩ := ui_of h
      refine u_iald C G arM_13 (t0 := 0) rfl g14 dX10_mark_68 ?_
      refine lv_bipush (v := (-9)) hx hb dX10_mark_69 (by decide) ?_
      refine lv_icmp_eq (tgt := 86) hx hb dX10_mark_71 (by decide) (fun q => ?_) (fun q => ?_)
      · have h := u_pos q h
        refine lv_iload_n hx hb dX10_mark_86 rfl (lv_at hl 2 rfl) ?_
        refine lv_iconst (v := 1) hx hb dX10_mark_87 (by decide) ?_
        refine lv_icmp_ne (tgt := 99) hx hb dX10_mark_88 (by decide) (fun q => ?_) (fun q => ?_)
        · have h := u_neg q h
          refine lv_iload_n hx hb dX10_mark_99 rfl (lv_at hl 2 rfl) ?_
          refine lv_iconst (v := 2) hx hb dX10_mark_100 (by decide) ?_
          refine lv_icmp_ne (tgt := 109) hx hb dX10_mark_101 (by decide) (fun q => ?_) (fun q => ?_)
          · have h := u_neg q h
            refine lv_aload_n hx hb dX10_mark_109 rfl (lv_at hl 0 rfl) ?_
            refine u_get (v := .ref (ad 13)) C G obM_0 (ci := 10) (N := 44) (Cn := RX10) (T := TX10) rfl fi_X10_mark_10 15 (by decide) (by decide +kernel) rfl dX10_mark_110 ?_
            refine lv_iload_n hx hb dX10_mark_113 rfl (lv_at hl 1 rfl) ?_
            obtain ⟨g15, h⟩ := ui_of h
            refine u_iald C G arM_13 (t0 := 0) rfl g15 dX10_mark_114 ?_
            obtain ⟨rfl, rfl⟩ := u_end h
            exact u_iret hx hb hr hlk G dX10_mark_115
          · have h := u_pos q h
            refine lv_iload hx hb dX10_mark_104 (lv_at hl 3 rfl) ?_
            refine lv_goto (tgt := 115) hx hb dX10_mark_106 (by decide) ?_
            obtain ⟨rfl, rfl⟩ := u_end h
            exact u_iret hx hb hr hlk G dX10_mark_115
        · have h := u_pos q h
          refine lv_aload_n hx hb dX10_mark_91 rfl (lv_at hl 0 rfl) ?_
          refine lv_iload_n hx hb dX10_mark_92 rfl (lv_at hl 1 rfl) ?_
          obtain ⟨r16, σ17, er16, h⟩ := ub_of h
          refine u_callVi (As := [.int v1]) (rest := []) C G (c_X10_children l D ad cs C.2.2.1 σ v1 r16 σ17 er16) (cwV 1 C.1.2.2.2.2 gX10_mark_X10_children rfl rfl rfl (by decide +kernel) ⟨Nat.le_of_ble_eq_true rfl, Nat.le_of_ble_eq_true rfl⟩) obM_0 (ci := 10) (T := TX10) rfl rfl hl rfl (Nat.le_of_ble_eq_true rfl) dX10_mark_93 (fun H locs G => ?_)
          refine lv_goto (tgt := 115) hx hb dX10_mark_96 (by decide) ?_
          obtain ⟨rfl, rfl⟩ := u_end h
          exact u_iret hx hb hr hlk G dX10_mark_115
      · have h := u_neg q h
        refine lv_aload_n hx hb dX10_mark_74 rfl (lv_at hl 0 rfl) ?_
        refine u_get (v := .ref (ad 13)) C G obM_0 (ci := 10) (N := 44) (Cn := RX10) (T := TX10) rfl fi_X10_mark_10 15 (by decide) (by decide +kernel) rfl dX10_mark_75 ?_
        refine lv_iload hx hb dX10_mark_78 (lv_at hl 3 rfl) ?_
        obtain ⟨g18, h⟩ := ui_of h
        refine u_iald C G arM_13 (t0 := 0) rfl g18 dX10_mark_80 ?_
        obtain ⟨x19, ex19, h⟩ := ul_of h
        refine u_nmi ex19 ?_
        refine lv_istore (lv' := [(4, .int x19), (0, .ref (ad 0)), (1, .int v1), (2, .int v2)]) hx hb dX10_mark_81 hl (by decide) rfl (fun ls hl => ?_)
        refine lv_goto (tgt := 57) hx hb dX10_mark_83 (by decide) ?_
        exact ih σ v1 v2 x19 h H locs ls G (lv_sub hl [1, 2, 3, 0] rfl)
set_option maxHeartbeats 4000000 in
set_option maxRecDepth 100000 in
theorem c_X10_mark (l : Launch) (D : va_G) (ad : Nat → Nat) (cs : Nat → ClassId) (J : uJ 34 ad) (σ : St) (v1 : Int32) (v2 : Int32) (r : Int32) (σ' : St) (h : f_X10_mark σ v1 v2 = some (r, σ')) : uMi l yX10_mark wsX10_mark { frames := 3, cells := 0, slots := 0, locals := 64 } D vwCl (tyM cs) 34 ad (enM ad cs) [.ref (ad 0), .int v1, .int v2] σ r σ' := by
  refine u_met (Qf := uQi D vwCl 34 ad (enM ad cs) r σ') (cc := cX10_mark) (maxL := 5) (ret := (some .int)) (lv := [(0, .ref (ad 0)), (1, .int v1), (2, .int v2)]) J (by decide) rfl (Nat.le_of_ble_eq_true rfl) rfl rfl rfl ?_
  intro p e s m args below meth c ls hx hb C hr hlk G hl
  unfold f_X10_mark at h
  obtain ⟨H, eH⟩ : ∃ H, H = s.heap := ⟨_, rfl⟩
  obtain ⟨locs, eL⟩ : ∃ locs : List Loc, locs = [] := ⟨_, rfl⟩
  refine u_start eH eL G ?_
  clear G eH eL
  intro G
  refine lv_iload_n hx hb dX10_mark_0 rfl (lv_at hl 2 rfl) ?_
  refine lv_iconst (v := 1) hx hb dX10_mark_1 (by decide) ?_
  refine lv_iconst (v := 3) hx hb dX10_mark_2 (by decide) ?_
  obtain ⟨r1, σ2, er1, h⟩ := ub_of h
  refine u_callSi (As := [.int v2, .int 1, .int 3]) (rest := []) C G (c_X10_in l D ad cs C.2.2.1 σ v2 (1 : Int32) (3 : Int32) r1 σ2 er1) (va_cwS 3 C.1.2.2.2.2 gX10_mark_X10_in rfl rfl rfl (by decide +kernel) ⟨Nat.le_of_ble_eq_true rfl, Nat.le_of_ble_eq_true rfl⟩) rfl hl rfl (Nat.le_of_ble_eq_true rfl) dX10_mark_3 (fun H locs G => ?_)
  refine lv_if_ne (tgt := 11) hx hb dX10_mark_6 (by decide) (fun q => ?_) (fun q => ?_)
  · have h := u_neg q h
    refine lv_aload_n hx hb dX10_mark_11 rfl (lv_at hl 0 rfl) ?_
    refine lv_iload_n hx hb dX10_mark_12 rfl (lv_at hl 1 rfl) ?_
    obtain ⟨r3, σ4, er3, h⟩ := ub_of h
    refine u_callVi (As := [.int v1]) (rest := []) C G (c_X10_askedFor l D ad cs C.2.2.1 σ2 v1 r3 σ4 er3) (cwV 1 C.1.2.2.2.2 gX10_mark_X10_askedFor rfl rfl rfl (by decide +kernel) ⟨Nat.le_of_ble_eq_true rfl, Nat.le_of_ble_eq_true rfl⟩) obM_0 (ci := 10) (T := TX10) rfl rfl hl rfl (Nat.le_of_ble_eq_true rfl) dX10_mark_13 (fun H locs G => ?_)
    refine lv_istore_n (lv' := [(3, .int r3), (0, .ref (ad 0)), (1, .int v1), (2, .int v2)]) hx hb dX10_mark_16 rfl hl (by decide) rfl (fun ls hl => ?_)
    refine lv_iload_n hx hb dX10_mark_17 rfl (lv_at hl 0 rfl) ?_
    refine lv_if_ge (tgt := 23) hx hb dX10_mark_18 (by decide) (fun q => ?_) (fun q => ?_)
    · have h := u_pos q h
      refine lv_aload_n hx hb dX10_mark_23 rfl (lv_at hl 1 rfl) ?_
      refine u_get (v := .ref (ad 6)) C G obM_0 (ci := 10) (N := 44) (Cn := RX10) (T := TX10) rfl fi_X10_mark_10 8 (by decide) (by decide +kernel) rfl dX10_mark_24 ?_
      refine lv_iload_n hx hb dX10_mark_27 rfl (lv_at hl 2 rfl) ?_
      obtain ⟨g5, h⟩ := ui_of h
      refine u_iald C G arM_6 (t0 := 0) rfl g5 dX10_mark_28 ?_
      refine lv_iload_n hx hb dX10_mark_29 rfl (lv_at hl 3 rfl) ?_
      refine lv_icmp_eq (tgt := 54) hx hb dX10_mark_30 (by decide) (fun q => ?_) (fun q => ?_)
      · have h := u_pos q h
        refine lv_iload_n hx hb dX10_mark_54 rfl (lv_at hl 2 rfl) ?_
        refine lv_istore (lv' := [(4, .int v1), (3, .int r3), (0, .ref (ad 0)), (1, .int v1), (2, .int v2)]) hx hb dX10_mark_55 hl (by decide) rfl (fun ls hl => ?_)
        exact w_X10_mark_57 C hr hlk fu σ4 v1 v2 v1 h H locs ls G (lv_sub hl [2, 3, 4, 0] rfl)
      · have h := u_neg q h
        refine lv_iload_n hx hb dX10_mark_33 rfl (lv_at hl 3 rfl) ?_
        refine lv_iconst (v := 1) hx hb dX10_mark_34 (by decide) ?_
        refine lv_icmp_ne (tgt := 48) hx hb dX10_mark_35 (by decide) (fun q => ?_) (fun q => ?_)
        · have h := u_neg q h
          refine lv_aload_n hx hb dX10_mark_48 rfl (lv_at hl 1 rfl) ?_
          refine lv_iconst (v := 3) hx hb dX10_mark_49 (by decide) ?_
          obtain ⟨r6, σ7, er6, h⟩ := ub_of h
          refine u_callVi (As := [.int 3]) (rest := []) C G (c_X10_meets l D ad cs C.2.2.1 σ4 (3 : Int32) r6 σ7 er6) (cwV 1 C.1.2.2.2.2 gX10_mark_X10_meets rfl rfl rfl (by decide +kernel) ⟨Nat.le_of_ble_eq_true rfl, Nat.le_of_ble_eq_true rfl⟩) obM_0 (ci := 10) (T := TX10) rfl rfl hl rfl (Nat.le_of_ble_eq_true rfl) dX10_mark_50 (fun H locs G => ?_)
          obtain ⟨rfl, rfl⟩ := u_end h
          exact u_iret hx hb hr hlk G dX10_mark_53
        · have h := u_pos q h
          refine lv_aload_n hx hb dX10_mark_38 rfl (lv_at hl 1 rfl) ?_
          refine u_get (v := .ref (ad 6)) C G obM_0 (ci := 10) (N := 44) (Cn := RX10) (T := TX10) rfl fi_X10_mark_10 8 (by decide) (by decide +kernel) rfl dX10_mark_39 ?_
          refine lv_iload_n hx hb dX10_mark_42 rfl (lv_at hl 2 rfl) ?_
          obtain ⟨g8, h⟩ := ui_of h
          refine u_iald C G arM_6 (t0 := 0) rfl g8 dX10_mark_43 ?_
          refine lv_iconst (v := 2) hx hb dX10_mark_44 (by decide) ?_
          refine lv_icmp_eq (tgt := 54) hx hb dX10_mark_45 (by decide) (fun q => ?_) (fun q => ?_)
          · have h := u_pos q h
            refine lv_iload_n hx hb dX10_mark_54 rfl (lv_at hl 2 rfl) ?_
            refine lv_istore (lv' := [(4, .int v1), (3, .int r3), (0, .ref (ad 0)), (1, .int v1), (2, .int v2)]) hx hb dX10_mark_55 hl (by decide) rfl (fun ls hl => ?_)
            exact w_X10_mark_57 C hr hlk fu σ4 v1 v2 v1 h H locs ls G (lv_sub hl [2, 3, 4, 0] rfl)
          · have h := u_neg q h
            refine lv_aload_n hx hb dX10_mark_48 rfl (lv_at hl 1 rfl) ?_
            refine lv_iconst (v := 3) hx hb dX10_mark_49 (by decide) ?_
            obtain ⟨r9, σ10, er9, h⟩ := ub_of h
            refine u_callVi (As := [.int 3]) (rest := []) C G (c_X10_meets l D ad cs C.2.2.1 σ4 (3 : Int32) r9 σ10 er9) (cwV 1 C.1.2.2.2.2 gX10_mark_X10_meets rfl rfl rfl (by decide +kernel) ⟨Nat.le_of_ble_eq_true rfl, Nat.le_of_ble_eq_true rfl⟩) obM_0 (ci := 10) (T := TX10) rfl rfl hl rfl (Nat.le_of_ble_eq_true rfl) dX10_mark_50 (fun H locs G => ?_)
            obtain ⟨rfl, rfl⟩ := u_end h
            exact u_iret hx hb hr hlk G dX10_mark_53
    · have h := u_neg q h
      refine lv_iload_n hx hb dX10_mark_21 rfl (lv_at hl 0 rfl) ?_
      obtain ⟨rfl, rfl⟩ := u_end h
      exact u_iret hx hb hr hlk G dX10_mark_22
  · have h := u_pos q h
    refine lv_iconst (v := (-1)) hx hb dX10_mark_9 (by decide) ?_
    obtain ⟨rfl, rfl⟩ := u_end h
    exact u_iret hx hb hr hlk G dX10_mark_10
