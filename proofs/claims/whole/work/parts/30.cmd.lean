/-! X10_lays -/
def f_X10_lays (σ : St) (v1 : Int32) (v2 : Int32) (v3 : Int32) (v4 : Int32) : Option (Unit × St) :=
  ui v1 4 <|
  ul ((3 * v1) + (σ 16 v1.toNatClampNeg)) fun x2 =>
  ui x2 12 <|
  ul (us σ 17 x2.toNatClampNeg v2) fun σ4 =>
  ui x2 12 <|
  ul (us σ4 18 x2.toNatClampNeg v3) fun σ6 =>
  ui x2 12 <|
  ul (us σ6 19 x2.toNatClampNeg v4) fun σ8 =>
  ui v1 4 <|
  ui v1 4 <|
  ul (us σ8 16 v1.toNatClampNeg ((σ8 16 v1.toNatClampNeg) + 1)) fun σ11 =>
  some ((), σ11)
theorem fi_X10_lays_10 : ∀ w ∈ u_ws RX10 TX10 44, w ∈ wsX10_lays := by decide +kernel
set_option maxHeartbeats 4000000 in
set_option maxRecDepth 100000 in
theorem c_X10_lays (l : Launch) (D : va_G) (ad : Nat → Nat) (cs : Nat → ClassId) (J : uJ 34 ad) (σ : St) (v1 : Int32) (v2 : Int32) (v3 : Int32) (v4 : Int32) (r : Unit) (σ' : St) (h : f_X10_lays σ v1 v2 v3 v4 = some (r, σ')) : uMv l yX10_lays wsX10_lays { frames := 0, cells := 0, slots := 0, locals := 0 } D vwCl (tyM cs) 34 ad (enM ad cs) [.ref (ad 0), .int v1, .int v2, .int v3, .int v4] σ σ' := by
  refine u_met (Qf := uQv D vwCl 34 ad (enM ad cs) σ') (cc := cX10_lays) (maxL := 6) (ret := none) (lv := [(0, .ref (ad 0)), (1, .int v1), (2, .int v2), (3, .int v3), (4, .int v4)]) J (by decide) rfl (Nat.le_of_ble_eq_true rfl) rfl rfl rfl ?_
  intro p e s m args below meth c ls hx hb C hr hlk G hl
  unfold f_X10_lays at h
  obtain ⟨H, eH⟩ : ∃ H, H = s.heap := ⟨_, rfl⟩
  obtain ⟨locs, eL⟩ : ∃ locs : List Loc, locs = [] := ⟨_, rfl⟩
  refine u_start eH eL G ?_
  clear G eH eL
  intro G
  refine lv_iconst (v := 3) hx hb dX10_lays_0 (by decide) ?_
  refine lv_iload_n hx hb dX10_lays_1 rfl (lv_at hl 1 rfl) ?_
  refine lv_imul hx hb dX10_lays_2 ?_
  refine lv_aload_n hx hb dX10_lays_3 rfl (lv_at hl 0 rfl) ?_
  refine u_get (v := .ref (ad 16)) C G obM_0 (ci := 10) (N := 44) (Cn := RX10) (T := TX10) rfl fi_X10_lays_10 19 (by decide) (by decide +kernel) rfl dX10_lays_4 ?_
  refine lv_iload_n hx hb dX10_lays_7 rfl (lv_at hl 1 rfl) ?_
  obtain ⟨g1, h⟩ := ui_of h
  refine u_iald C G arM_16 (t0 := 0) rfl g1 dX10_lays_8 ?_
  refine lv_iadd hx hb dX10_lays_9 ?_
  obtain ⟨x2, ex2, h⟩ := ul_of h
  refine u_nmi ex2 ?_
  refine lv_istore (lv' := [(5, .int x2), (0, .ref (ad 0)), (1, .int v1), (2, .int v2), (3, .int v3), (4, .int v4)]) hx hb dX10_lays_10 hl (by decide) rfl (fun ls hl => ?_)
  refine lv_aload_n hx hb dX10_lays_12 rfl (lv_at hl 1 rfl) ?_
  refine u_get (v := .ref (ad 17)) C G obM_0 (ci := 10) (N := 44) (Cn := RX10) (T := TX10) rfl fi_X10_lays_10 20 (by decide) (by decide +kernel) rfl dX10_lays_13 ?_
  refine lv_iload hx hb dX10_lays_16 (lv_at hl 0 rfl) ?_
  refine lv_iload_n hx hb dX10_lays_18 rfl (lv_at hl 3 rfl) ?_
  obtain ⟨g3, h⟩ := ui_of h
  refine u_iast C G arM_17 (t0 := 0) rfl g3 dX10_lays_19 (fun H locs G => ?_)
  obtain ⟨σ4, eσ4, h⟩ := ul_of h
  replace G := uG_eq eσ4 G
  refine lv_aload_n hx hb dX10_lays_20 rfl (lv_at hl 1 rfl) ?_
  refine u_get (v := .ref (ad 18)) C G obM_0 (ci := 10) (N := 44) (Cn := RX10) (T := TX10) rfl fi_X10_lays_10 21 (by decide) (by decide +kernel) rfl dX10_lays_21 ?_
  refine lv_iload hx hb dX10_lays_24 (lv_at hl 0 rfl) ?_
  refine lv_iload_n hx hb dX10_lays_26 rfl (lv_at hl 4 rfl) ?_
  obtain ⟨g5, h⟩ := ui_of h
  refine u_iast C G arM_18 (t0 := 0) rfl g5 dX10_lays_27 (fun H locs G => ?_)
  obtain ⟨σ6, eσ6, h⟩ := ul_of h
  replace G := uG_eq eσ6 G
  refine lv_aload_n hx hb dX10_lays_28 rfl (lv_at hl 1 rfl) ?_
  refine u_get (v := .ref (ad 19)) C G obM_0 (ci := 10) (N := 44) (Cn := RX10) (T := TX10) rfl fi_X10_lays_10 22 (by decide) (by decide +kernel) rfl dX10_lays_29 ?_
  refine lv_iload hx hb dX10_lays_32 (lv_at hl 0 rfl) ?_
  refine lv_iload hx hb dX10_lays_34 (lv_at hl 5 rfl) ?_
  obtain ⟨g7, h⟩ := ui_of h
  refine u_iast C G arM_19 (t0 := 0) rfl g7 dX10_lays_36 (fun H locs G => ?_)
  obtain ⟨σ8, eσ8, h⟩ := ul_of h
  replace G := uG_eq eσ8 G
  refine lv_aload_n hx hb dX10_lays_37 rfl (lv_at hl 1 rfl) ?_
  refine u_get (v := .ref (ad 16)) C G obM_0 (ci := 10) (N := 44) (Cn := RX10) (T := TX10) rfl fi_X10_lays_10 19 (by decide) (by decide +kernel) rfl dX10_lays_38 ?_
  refine lv_iload_n hx hb dX10_lays_41 rfl (lv_at hl 2 rfl) ?_
  refine lv_dup2_11 hx hb dX10_lays_42 rfl rfl ?_
  obtain ⟨g9, h⟩ := ui_of h
  refine u_iald C G arM_16 (t0 := 0) rfl g9 dX10_lays_43 ?_
  refine lv_iconst (v := 1) hx hb dX10_lays_44 (by decide) ?_
  refine lv_iadd hx hb dX10_lays_45 ?_
  obtain ⟨g10, h⟩ := ui_of h
  refine u_iast C G arM_16 (t0 := 0) rfl g10 dX10_lays_46 (fun H locs G => ?_)
  obtain ⟨σ11, eσ11, h⟩ := ul_of h
  replace G := uG_eq eσ11 G
  obtain ⟨-, rfl⟩ := u_end h
  exact u_vret hx hb hr hlk G dX10_lays_47
/-! X10_layer -/
def f_X10_layer_41 : Nat → St → Int32 → Int32 → Int32 → Int32 → Int32 → Option (Int32 × St)
  | 0, _, _, _, _, _, _ => none
  | fuel + 1, σ, v1, v2, v3, v4, v5 =>
    ui v1 4 <|
    if (σ 16 v1.toNatClampNeg) ≤ v5 then
      ui v2 16 <|
      if (σ 9 v2.toNatClampNeg) = 0 then
        ub (f_X10_isOn σ v2 v3) fun r10 σ11 =>
        if r10 = 0 then
          ub (f_X10_meets σ11 (2 : Int32)) fun r15 σ16 =>
          some (r15, σ16)
        else
          ub (f_X10_lays σ11 v1 v2 v3 v4) fun r12 σ13 =>
          ui v1 4 <|
          some ((σ13 16 v1.toNatClampNeg), σ13)
      else
        ub (f_X10_meets σ (1 : Int32)) fun r17 σ18 =>
        some (r17, σ18)
    else
      ui ((3 * v1) + v5) 12 <|
      if (σ 19 ((3 * v1) + v5).toNatClampNeg) = v4 then
        some (((-4) : Int32), σ)
      else
        ul (v5 + 1) fun x20 =>
        f_X10_layer_41 fuel σ v1 v2 v3 v4 x20
def f_X10_layer (σ : St) (v1 : Int32) (v2 : Int32) (v3 : Int32) (v4 : Int32) : Option (Int32 × St) :=
  ub (f_X10_isLine σ v1) fun r1 σ2 =>
  if r1 = 0 then
    some (((-1) : Int32), σ2)
  else
    ub (f_X10_isColour σ2 v4) fun r3 σ4 =>
    if r3 = 0 then
      some (((-1) : Int32), σ4)
    else
      ub (f_X10_isWord σ4 v2) fun r5 σ6 =>
      if r5 = 0 then
        some (((-1) : Int32), σ6)
      else
        ui v1 4 <|
        if (σ6 16 v1.toNatClampNeg) = 3 then
          some (((-2) : Int32), σ6)
        else
          f_X10_layer_41 fu σ6 v1 v2 v3 v4 0
theorem fi_X10_layer_10 : ∀ w ∈ u_ws RX10 TX10 44, w ∈ wsX10_layer := by decide +kernel
set_option maxHeartbeats 4000000 in
set_option maxRecDepth 100000 in
theorem w_X10_layer_41 {p : Program} {l : Launch} {e : Env} {s : State} {m : MethodId} {args : Array Value} {below : List Frame} {meth : Method} {c : Code} {D : va_G} {ad : Nat → Nat} {cs : Nat → ClassId} (C : uC p { frames := 2, cells := 0, slots := 0, locals := 43 } s m args c cX10_layer 6 wsX10_layer RX10 D vwCl (tyM cs) 34 ad (uAd 34 ad s.heap.size) 0 0) (hr : meth.sig.returnType = (some .int)) (hlk : meth.locks = false) {r : Int32} {σ' : St} :
    ∀ (n : Nat) (σ : St) (v1 : Int32) (v2 : Int32) (v3 : Int32) (v4 : Int32) (v5 : Int32), f_X10_layer_41 n σ v1 v2 v3 v4 v5 = some (r, σ') → ∀ (H : Heap) (locs : List Loc) (ls : Array Slot), uG D vwCl 34 ad (enM ad cs) (uAd 34 ad s.heap.size) s σ H locs → lv_has ls 6 [(0, .ref (ad 0)), (1, .int v1), (2, .int v2), (3, .int v3), (4, .int v4), (5, .int v5)] → W p l e { frames := 2, cells := 0, slots := 0, locals := 43 } s m args below meth c H locs 0 0 (MQ below (uQi D vwCl 34 ad (enM ad cs) r σ' s.heap.size) args s 0 0 (uAd 34 ad s.heap.size)) (F0 m 41 ls []) := by
  have hx := C.1.1
  have hb := C.1.2.1
  intro n
  induction n with
  | zero => intro σ v1 v2 v3 v4 v5  h; exact absurd h (by simp [f_X10_layer_41])
  | succ fuel ih =>
    intro σ v1 v2 v3 v4 v5  h H locs ls G hl
    rw [f_X10_layer_41] at h
    refine lv_iload hx hb dX10_layer_41 (lv_at hl 5 rfl) ?_
    refine lv_aload_n hx hb dX10_layer_43 rfl (lv_at hl 0 rfl) ?_
    refine u_get (v := .ref (ad 16)) C G obM_0 (ci := 10) (N := 44) (Cn := RX10) (T := TX10) rfl fi_X10_layer_10 19 (by decide) (by decide +kernel) rfl dX10_layer_44 ?_
    refine lv_iload_n hx hb dX10_layer_47 rfl (lv_at hl 1 rfl) ?_
    obtain ⟨g8, h⟩ := ui_of h
    refine u_iald C G arM_16 (t0 := 0) rfl g8 dX10_layer_48 ?_
    refine lv_icmp_ge (tgt := 77) hx hb dX10_layer_49 (by decide) (fun q => ?_) (fun q => ?_)
    · have h := u_pos q h
      refine lv_aload_n hx hb dX10_layer_77 rfl (lv_at hl 0 rfl) ?_
      refine u_get (v := .ref (ad 9)) C G obM_0 (ci := 10) (N := 44) (Cn := RX10) (T := TX10) rfl fi_X10_layer_10 11 (by decide) (by decide +kernel) rfl dX10_layer_78 ?_
      refine lv_iload_n hx hb dX10_layer_81 rfl (lv_at hl 2 rfl) ?_
      obtain ⟨g9, h⟩ := ui_of h
      refine u_zald C G arM_9 (t0 := 2) rfl g9 dX10_layer_82 ?_
      refine lv_if_eq (tgt := 92) hx hb dX10_layer_83 (by decide) (fun q => ?_) (fun q => ?_)
      · have h := u_pos q h
        refine lv_aload_n hx hb dX10_layer_92 rfl (lv_at hl 0 rfl) ?_
        refine lv_iload_n hx hb dX10_layer_93 rfl (lv_at hl 2 rfl) ?_
        refine lv_iload_n hx hb dX10_layer_94 rfl (lv_at hl 3 rfl) ?_
        obtain ⟨r10, σ11, er10, h⟩ := ub_of h
        refine u_callVi (As := [.int v2, .int v3]) (rest := []) C G (c_X10_isOn l D ad cs C.2.2.1 σ v2 v3 r10 σ11 er10) (cwV 2 C.1.2.2.2.2 gX10_layer_X10_isOn rfl rfl rfl (by decide +kernel) ⟨Nat.le_of_ble_eq_true rfl, Nat.le_of_ble_eq_true rfl⟩) obM_0 (ci := 10) (T := TX10) rfl rfl hl rfl (Nat.le_of_ble_eq_true rfl) dX10_layer_95 (fun H locs G => ?_)
        refine lv_if_ne (tgt := 107) hx hb dX10_layer_98 (by decide) (fun q => ?_) (fun q => ?_)
        · have h := u_neg q h
          refine lv_aload_n hx hb dX10_layer_107 rfl (lv_at hl 0 rfl) ?_
          refine lv_iload_n hx hb dX10_layer_108 rfl (lv_at hl 1 rfl) ?_
          refine lv_iload_n hx hb dX10_layer_109 rfl (lv_at hl 2 rfl) ?_
          refine lv_iload_n hx hb dX10_layer_110 rfl (lv_at hl 3 rfl) ?_
          refine lv_iload hx hb dX10_layer_111 (lv_at hl 4 rfl) ?_
          obtain ⟨r12, σ13, er12, h⟩ := ub_of h
          refine u_callVv (As := [.int v1, .int v2, .int v3, .int v4]) (rest := []) C G (c_X10_lays l D ad cs C.2.2.1 σ11 v1 v2 v3 v4 r12 σ13 er12) (cwV 4 C.1.2.2.2.2 gX10_layer_X10_lays rfl rfl rfl (by decide +kernel) ⟨Nat.le_of_ble_eq_true rfl, Nat.le_of_ble_eq_true rfl⟩) obM_0 (ci := 10) (T := TX10) rfl rfl hl rfl (Nat.le_of_ble_eq_true rfl) dX10_layer_113 (fun H locs G => ?_)
          refine lv_aload_n hx hb dX10_layer_116 rfl (lv_at hl 0 rfl) ?_
          refine u_get (v := .ref (ad 16)) C G obM_0 (ci := 10) (N := 44) (Cn := RX10) (T := TX10) rfl fi_X10_layer_10 19 (by decide) (by decide +kernel) rfl dX10_layer_117 ?_
          refine lv_iload_n hx hb dX10_layer_120 rfl (lv_at hl 1 rfl) ?_
          obtain ⟨g14, h⟩ := ui_of h
          refine u_iald C G arM_16 (t0 := 0) rfl g14 dX10_layer_121 ?_
          obtain ⟨rfl, rfl⟩ := u_end h
          exact u_iret hx hb hr hlk G dX10_layer_122
        · have h := u_pos q h
          refine lv_aload_n hx hb dX10_layer_101 rfl (lv_at hl 0 rfl) ?_
          refine lv_iconst (v := 2) hx hb dX10_layer_102 (by decide) ?_
          obtain ⟨r15, σ16, er15, h⟩ := ub_of h
          refine u_callVi (As := [.int 2]) (rest := []) C G (c_X10_meets l D ad cs C.2.2.1 σ11 (2 : Int32) r15 σ16 er15) (cwV 1 C.1.2.2.2.2 gX10_layer_X10_meets rfl rfl rfl (by decide +kernel) ⟨Nat.le_of_ble_eq_true rfl, Nat.le_of_ble_eq_true rfl⟩) obM_0 (ci := 10) (T := TX10) rfl rfl hl rfl (Nat.le_of_ble_eq_true rfl) dX10_layer_103 (fun H locs G => ?_)
          obtain ⟨rfl, rfl⟩ := u_end h
          exact u_iret hx hb hr hlk G dX10_layer_106
      · have h := u_neg q h
        refine lv_aload_n hx hb dX10_layer_86 rfl (lv_at hl 0 rfl) ?_
        refine lv_iconst (v := 1) hx hb dX10_layer_87 (by decide) ?_
        obtain ⟨r17, σ18, er17, h⟩ := ub_of h
        refine u_callVi (As := [.int 1]) (rest := []) C G (c_X10_meets l D ad cs C.2.2.1 σ (1 : Int32) r17 σ18 er17) (cwV 1 C.1.2.2.2.2 gX10_layer_X10_meets rfl rfl rfl (by decide +kernel) ⟨Nat.le_of_ble_eq_true rfl, Nat.le_of_ble_eq_true rfl⟩) obM_0 (ci := 10) (T := TX10) rfl rfl hl rfl (Nat.le_of_ble_eq_true rfl) dX10_layer_88 (fun H locs G => ?_)
        obtain ⟨rfl, rfl⟩ := u_end h
        exact u_iret hx hb hr hlk G dX10_layer_91
    · have h := u_neg q h
      refine lv_aload_n hx hb dX10_layer_52 rfl (lv_at hl 0 rfl) ?_
      refine u_get (v := .ref (ad 19)) C G obM_0 (ci := 10) (N := 44) (Cn := RX10) (T := TX10) rfl fi_X10_layer_10 22 (by decide) (by decide +kernel) rfl dX10_layer_53 ?_
      refine lv_iconst (v := 3) hx hb dX10_layer_56 (by decide) ?_
      refine lv_iload_n hx hb dX10_layer_57 rfl (lv_at hl 1 rfl) ?_
      refine lv_imul hx hb dX10_layer_58 ?_
      refine lv_iload hx hb dX10_layer_59 (lv_at hl 5 rfl) ?_
      refine lv_iadd hx hb dX10_layer_61 ?_
      obtain ⟨g19, h⟩ := ui_of h
      refine u_iald C G arM_19 (t0 := 0) rfl g19 dX10_layer_62 ?_
      refine lv_iload hx hb dX10_layer_63 (lv_at hl 4 rfl) ?_
      refine lv_icmp_ne (tgt := 71) hx hb dX10_layer_65 (by decide) (fun q => ?_) (fun q => ?_)
      · have h := u_neg q h
        obtain ⟨x20, ex20, h⟩ := ul_of h
        refine lv_iinc (v := x20) (lv' := [(5, .int x20), (0, .ref (ad 0)), (1, .int v1), (2, .int v2), (3, .int v3), (4, .int v4)]) hx hb dX10_layer_71 hl (k := 5) rfl (by rw [ex20]; rfl) (by decide) rfl (fun ls hl => ?_)
        refine lv_goto (tgt := 41) hx hb dX10_layer_74 (by decide) ?_
        exact ih σ v1 v2 v3 v4 x20 h H locs ls G (lv_sub hl [1, 2, 3, 4, 5, 0] rfl)
      · have h := u_pos q h
        refine lv_bipush (v := (-4)) hx hb dX10_layer_68 (by decide) ?_
        obtain ⟨rfl, rfl⟩ := u_end h
        exact u_iret hx hb hr hlk G dX10_layer_70
set_option maxHeartbeats 4000000 in
set_option maxRecDepth 100000 in
theorem c_X10_layer (l : Launch) (D : va_G) (ad : Nat → Nat) (cs : Nat → ClassId) (J : uJ 34 ad) (σ : St) (v1 : Int32) (v2 : Int32) (v3 : Int32) (v4 : Int32) (r : Int32) (σ' : St) (h : f_X10_layer σ v1 v2 v3 v4 = some (r, σ')) : uMi l yX10_layer wsX10_layer { frames := 2, cells := 0, slots := 0, locals := 43 } D vwCl (tyM cs) 34 ad (enM ad cs) [.ref (ad 0), .int v1, .int v2, .int v3, .int v4] σ r σ' := by
  refine u_met (Qf := uQi D vwCl 34 ad (enM ad cs) r σ') (cc := cX10_layer) (maxL := 6) (ret := (some .int)) (lv := [(0, .ref (ad 0)), (1, .int v1), (2, .int v2), (3, .int v3), (4, .int v4)]) J (by decide) rfl (Nat.le_of_ble_eq_true rfl) rfl rfl rfl ?_
  intro p e s m args below meth c ls hx hb C hr hlk G hl
  unfold f_X10_layer at h
  obtain ⟨H, eH⟩ : ∃ H, H = s.heap := ⟨_, rfl⟩
  obtain ⟨locs, eL⟩ : ∃ locs : List Loc, locs = [] := ⟨_, rfl⟩
  refine u_start eH eL G ?_
  clear G eH eL
  intro G
  refine lv_iload_n hx hb dX10_layer_0 rfl (lv_at hl 1 rfl) ?_
  obtain ⟨r1, σ2, er1, h⟩ := ub_of h
  refine u_callSi (As := [.int v1]) (rest := []) C G (c_X10_isLine l D ad cs C.2.2.1 σ v1 r1 σ2 er1) (va_cwS 1 C.1.2.2.2.2 gX10_layer_X10_isLine rfl rfl rfl (by decide +kernel) ⟨Nat.le_of_ble_eq_true rfl, Nat.le_of_ble_eq_true rfl⟩) rfl hl rfl (Nat.le_of_ble_eq_true rfl) dX10_layer_1 (fun H locs G => ?_)
  refine lv_if_eq (tgt := 23) hx hb dX10_layer_4 (by decide) (fun q => ?_) (fun q => ?_)
  · have h := u_pos q h
    refine lv_iconst (v := (-1)) hx hb dX10_layer_23 (by decide) ?_
    obtain ⟨rfl, rfl⟩ := u_end h
    exact u_iret hx hb hr hlk G dX10_layer_24
  · have h := u_neg q h
    refine lv_iload hx hb dX10_layer_7 (lv_at hl 4 rfl) ?_
    obtain ⟨r3, σ4, er3, h⟩ := ub_of h
    refine u_callSi (As := [.int v4]) (rest := []) C G (c_X10_isColour l D ad cs C.2.2.1 σ2 v4 r3 σ4 er3) (va_cwS 1 C.1.2.2.2.2 gX10_layer_X10_isColour rfl rfl rfl (by decide +kernel) ⟨Nat.le_of_ble_eq_true rfl, Nat.le_of_ble_eq_true rfl⟩) rfl hl rfl (Nat.le_of_ble_eq_true rfl) dX10_layer_9 (fun H locs G => ?_)
    refine lv_if_eq (tgt := 23) hx hb dX10_layer_12 (by decide) (fun q => ?_) (fun q => ?_)
    · have h := u_pos q h
      refine lv_iconst (v := (-1)) hx hb dX10_layer_23 (by decide) ?_
      obtain ⟨rfl, rfl⟩ := u_end h
      exact u_iret hx hb hr hlk G dX10_layer_24
    · have h := u_neg q h
      refine lv_aload_n hx hb dX10_layer_15 rfl (lv_at hl 0 rfl) ?_
      refine lv_iload_n hx hb dX10_layer_16 rfl (lv_at hl 2 rfl) ?_
      obtain ⟨r5, σ6, er5, h⟩ := ub_of h
      refine u_callVi (As := [.int v2]) (rest := []) C G (c_X10_isWord l D ad cs C.2.2.1 σ4 v2 r5 σ6 er5) (cwV 1 C.1.2.2.2.2 gX10_layer_X10_isWord rfl rfl rfl (by decide +kernel) ⟨Nat.le_of_ble_eq_true rfl, Nat.le_of_ble_eq_true rfl⟩) obM_0 (ci := 10) (T := TX10) rfl rfl hl rfl (Nat.le_of_ble_eq_true rfl) dX10_layer_17 (fun H locs G => ?_)
      refine lv_if_ne (tgt := 25) hx hb dX10_layer_20 (by decide) (fun q => ?_) (fun q => ?_)
      · have h := u_neg q h
        refine lv_aload_n hx hb dX10_layer_25 rfl (lv_at hl 0 rfl) ?_
        refine u_get (v := .ref (ad 16)) C G obM_0 (ci := 10) (N := 44) (Cn := RX10) (T := TX10) rfl fi_X10_layer_10 19 (by decide) (by decide +kernel) rfl dX10_layer_26 ?_
        refine lv_iload_n hx hb dX10_layer_29 rfl (lv_at hl 1 rfl) ?_
        obtain ⟨g7, h⟩ := ui_of h
        refine u_iald C G arM_16 (t0 := 0) rfl g7 dX10_layer_30 ?_
        refine lv_iconst (v := 3) hx hb dX10_layer_31 (by decide) ?_
        refine lv_icmp_ne (tgt := 38) hx hb dX10_layer_32 (by decide) (fun q => ?_) (fun q => ?_)
        · have h := u_neg q h
          refine lv_iconst (v := 0) hx hb dX10_layer_38 (by decide) ?_
          refine lv_istore (lv' := [(5, .int 0), (0, .ref (ad 0)), (1, .int v1), (2, .int v2), (3, .int v3), (4, .int v4)]) hx hb dX10_layer_39 hl (by decide) rfl (fun ls hl => ?_)
          exact w_X10_layer_41 C hr hlk fu σ6 v1 v2 v3 v4 0 h H locs ls G (lv_sub hl [1, 2, 3, 4, 5, 0] rfl)
        · have h := u_pos q h
          refine lv_bipush (v := (-2)) hx hb dX10_layer_35 (by decide) ?_
          obtain ⟨rfl, rfl⟩ := u_end h
          exact u_iret hx hb hr hlk G dX10_layer_37
      · have h := u_pos q h
        refine lv_iconst (v := (-1)) hx hb dX10_layer_23 (by decide) ?_
        obtain ⟨rfl, rfl⟩ := u_end h
        exact u_iret hx hb hr hlk G dX10_layer_24
/-! X10_bare -/
def f_X10_bare (σ : St) (v1 : Int32) : Option (Int32 × St) :=
  ub (f_X10_isLine σ v1) fun r1 σ2 =>
  if r1 = 0 then
    some (((-1) : Int32), σ2)
  else
    ui v1 4 <|
    ul (σ2 16 v1.toNatClampNeg) fun x4 =>
    ui v1 4 <|
    ul (us σ2 16 v1.toNatClampNeg 0) fun σ6 =>
    some (x4, σ6)
theorem fi_X10_bare_10 : ∀ w ∈ u_ws RX10 TX10 44, w ∈ wsX10_bare := by decide +kernel
set_option maxHeartbeats 4000000 in
set_option maxRecDepth 100000 in
theorem c_X10_bare (l : Launch) (D : va_G) (ad : Nat → Nat) (cs : Nat → ClassId) (J : uJ 34 ad) (σ : St) (v1 : Int32) (r : Int32) (σ' : St) (h : f_X10_bare σ v1 = some (r, σ')) : uMi l yX10_bare wsX10_bare { frames := 2, cells := 0, slots := 0, locals := 42 } D vwCl (tyM cs) 34 ad (enM ad cs) [.ref (ad 0), .int v1] σ r σ' := by
  refine u_met (Qf := uQi D vwCl 34 ad (enM ad cs) r σ') (cc := cX10_bare) (maxL := 3) (ret := (some .int)) (lv := [(0, .ref (ad 0)), (1, .int v1)]) J (by decide) rfl (Nat.le_of_ble_eq_true rfl) rfl rfl rfl ?_
  intro p e s m args below meth c ls hx hb C hr hlk G hl
  unfold f_X10_bare at h
  obtain ⟨H, eH⟩ : ∃ H, H = s.heap := ⟨_, rfl⟩
  obtain ⟨locs, eL⟩ : ∃ locs : List Loc, locs = [] := ⟨_, rfl⟩
  refine u_start eH eL G ?_
  clear G eH eL
  intro G
  refine lv_iload_n hx hb dX10_bare_0 rfl (lv_at hl 1 rfl) ?_
  obtain ⟨r1, σ2, er1, h⟩ := ub_of h
  refine u_callSi (As := [.int v1]) (rest := []) C G (c_X10_isLine l D ad cs C.2.2.1 σ v1 r1 σ2 er1) (va_cwS 1 C.1.2.2.2.2 gX10_bare_X10_isLine rfl rfl rfl (by decide +kernel) ⟨Nat.le_of_ble_eq_true rfl, Nat.le_of_ble_eq_true rfl⟩) rfl hl rfl (Nat.le_of_ble_eq_true rfl) dX10_bare_1 (fun H locs G => ?_)
  refine lv_if_ne (tgt := 9) hx hb dX10_bare_4 (by decide) (fun q => ?_) (fun q => ?_)
  · have h := u_neg q h
    refine lv_aload_n hx hb dX10_bare_9 rfl (lv_at hl 0 rfl) ?_
    refine u_get (v := .ref (ad 16)) C G obM_0 (ci := 10) (N := 44) (Cn := RX10) (T := TX10) rfl fi_X10_bare_10 19 (by decide) (by decide +kernel) rfl dX10_bare_10 ?_
    refine lv_iload_n hx hb dX10_bare_13 rfl (lv_at hl 1 rfl) ?_
    obtain ⟨g3, h⟩ := ui_of h
    refine u_iald C G arM_16 (t0 := 0) rfl g3 dX10_bare_14 ?_
    obtain ⟨x4, ex4, h⟩ := ul_of h
    refine u_nmi ex4 ?_
    refine lv_istore_n (lv' := [(2, .int x4), (0, .ref (ad 0)), (1, .int v1)]) hx hb dX10_bare_15 rfl hl (by decide) rfl (fun ls hl => ?_)
    refine lv_aload_n hx hb dX10_bare_16 rfl (lv_at hl 1 rfl) ?_
    refine u_get (v := .ref (ad 16)) C G obM_0 (ci := 10) (N := 44) (Cn := RX10) (T := TX10) rfl fi_X10_bare_10 19 (by decide) (by decide +kernel) rfl dX10_bare_17 ?_
    refine lv_iload_n hx hb dX10_bare_20 rfl (lv_at hl 2 rfl) ?_
    refine lv_iconst (v := 0) hx hb dX10_bare_21 (by decide) ?_
    obtain ⟨g5, h⟩ := ui_of h
    refine u_iast C G arM_16 (t0 := 0) rfl g5 dX10_bare_22 (fun H locs G => ?_)
    obtain ⟨σ6, eσ6, h⟩ := ul_of h
    replace G := uG_eq eσ6 G
    refine lv_iload_n hx hb dX10_bare_23 rfl (lv_at hl 0 rfl) ?_
    obtain ⟨rfl, rfl⟩ := u_end h
    exact u_iret hx hb hr hlk G dX10_bare_24
  · have h := u_pos q h
    refine lv_iconst (v := (-1)) hx hb dX10_bare_7 (by decide) ?_
    obtain ⟨rfl, rfl⟩ := u_end h
    exact u_iret hx hb hr hlk G dX10_bare_8
/-! X10_layerTold -/
def f_X10_layerTold (σ : St) (v1 : Int32) (v2 : Int32) (v3 : Int32) : Option (Int32 × St) :=
  ub (f_X10_isLine σ v1) fun r1 σ2 =>
  if r1 = 0 then
    some (((-1) : Int32), σ2)
  else
    ub (f_X10_in σ2 v3 (0 : Int32) (2 : Int32)) fun r3 σ4 =>
    if r3 = 0 then
      some (((-1) : Int32), σ4)
    else
      ul ((3 * v1) + v2) fun x5 =>
      ui v1 4 <|
      ub (f_X10_in σ4 v2 (0 : Int32) ((σ4 16 v1.toNatClampNeg) - 1)) fun r7 σ8 =>
      if r7 = 0 then
        some (((-9) : Int32), σ8)
      else
        if v3 = 0 then
          ui x5 12 <|
          some ((σ8 17 x5.toNatClampNeg), σ8)
        else
          if v3 = 1 then
            ui x5 12 <|
            some ((σ8 18 x5.toNatClampNeg), σ8)
          else
            ui x5 12 <|
            some ((σ8 19 x5.toNatClampNeg), σ8)
theorem fi_X10_layerTold_10 : ∀ w ∈ u_ws RX10 TX10 44, w ∈ wsX10_layerTold := by decide +kernel
set_option maxHeartbeats 4000000 in
set_option maxRecDepth 100000 in
theorem c_X10_layerTold (l : Launch) (D : va_G) (ad : Nat → Nat) (cs : Nat → ClassId) (J : uJ 34 ad) (σ : St) (v1 : Int32) (v2 : Int32) (v3 : Int32) (r : Int32) (σ' : St) (h : f_X10_layerTold σ v1 v2 v3 = some (r, σ')) : uMi l yX10_layerTold wsX10_layerTold { frames := 2, cells := 0, slots := 0, locals := 42 } D vwCl (tyM cs) 34 ad (enM ad cs) [.ref (ad 0), .int v1, .int v2, .int v3] σ r σ' := by
  refine u_met (Qf := uQi D vwCl 34 ad (enM ad cs) r σ') (cc := cX10_layerTold) (maxL := 5) (ret := (some .int)) (lv := [(0, .ref (ad 0)), (1, .int v1), (2, .int v2), (3, .int v3)]) J (by decide) rfl (Nat.le_of_ble_eq_true rfl) rfl rfl rfl ?_
  intro p e s m args below meth c ls hx hb C hr hlk G hl
  unfold f_X10_layerTold at h
  obtain ⟨H, eH⟩ : ∃ H, H = s.heap := ⟨_, rfl⟩
  obtain ⟨locs, eL⟩ : ∃ locs : List Loc, locs = [] := ⟨_, rfl⟩
  refine u_start eH eL G ?_
  clear G eH eL
  intro G
  refine lv_iload_n hx hb dX10_layerTold_0 rfl (lv_at hl 1 rfl) ?_
  obtain ⟨r1, σ2, er1, h⟩ := ub_of h
  refine u_callSi (As := [.int v1]) (rest := []) C G (c_X10_isLine l D ad cs C.2.2.1 σ v1 r1 σ2 er1) (va_cwS 1 C.1.2.2.2.2 gX10_layerTold_X10_isLine rfl rfl rfl (by decide +kernel) ⟨Nat.le_of_ble_eq_true rfl, Nat.le_of_ble_eq_true rfl⟩) rfl hl rfl (Nat.le_of_ble_eq_true rfl) dX10_layerTold_1 (fun H locs G => ?_)
  refine lv_if_eq (tgt := 16) hx hb dX10_layerTold_4 (by decide) (fun q => ?_) (fun q => ?_)
  · have h := u_pos q h
    refine lv_iconst (v := (-1)) hx hb dX10_layerTold_16 (by decide) ?_
    obtain ⟨rfl, rfl⟩ := u_end h
    exact u_iret hx hb hr hlk G dX10_layerTold_17
  · have h := u_neg q h
    refine lv_iload_n hx hb dX10_layerTold_7 rfl (lv_at hl 3 rfl) ?_
    refine lv_iconst (v := 0) hx hb dX10_layerTold_8 (by decide) ?_
    refine lv_iconst (v := 2) hx hb dX10_layerTold_9 (by decide) ?_
    obtain ⟨r3, σ4, er3, h⟩ := ub_of h
    refine u_callSi (As := [.int v3, .int 0, .int 2]) (rest := []) C G (c_X10_in l D ad cs C.2.2.1 σ2 v3 (0 : Int32) (2 : Int32) r3 σ4 er3) (va_cwS 3 C.1.2.2.2.2 gX10_layerTold_X10_in rfl rfl rfl (by decide +kernel) ⟨Nat.le_of_ble_eq_true rfl, Nat.le_of_ble_eq_true rfl⟩) rfl hl rfl (Nat.le_of_ble_eq_true rfl) dX10_layerTold_10 (fun H locs G => ?_)
    refine lv_if_ne (tgt := 18) hx hb dX10_layerTold_13 (by decide) (fun q => ?_) (fun q => ?_)
    · have h := u_neg q h
      refine lv_iconst (v := 3) hx hb dX10_layerTold_18 (by decide) ?_
      refine lv_iload_n hx hb dX10_layerTold_19 rfl (lv_at hl 1 rfl) ?_
      refine lv_imul hx hb dX10_layerTold_20 ?_
      refine lv_iload_n hx hb dX10_layerTold_21 rfl (lv_at hl 2 rfl) ?_
      refine lv_iadd hx hb dX10_layerTold_22 ?_
      obtain ⟨x5, ex5, h⟩ := ul_of h
      refine u_nmi ex5 ?_
      refine lv_istore (lv' := [(4, .int x5), (0, .ref (ad 0)), (1, .int v1), (2, .int v2), (3, .int v3)]) hx hb dX10_layerTold_23 hl (by decide) rfl (fun ls hl => ?_)
      refine lv_iload_n hx hb dX10_layerTold_25 rfl (lv_at hl 3 rfl) ?_
      refine lv_iconst (v := 0) hx hb dX10_layerTold_26 (by decide) ?_
      refine lv_aload_n hx hb dX10_layerTold_27 rfl (lv_at hl 1 rfl) ?_
      refine u_get (v := .ref (ad 16)) C G obM_0 (ci := 10) (N := 44) (Cn := RX10) (T := TX10) rfl fi_X10_layerTold_10 19 (by decide) (by decide +kernel) rfl dX10_layerTold_28 ?_
      refine lv_iload_n hx hb dX10_layerTold_31 rfl (lv_at hl 2 rfl) ?_
      obtain ⟨g6, h⟩ := ui_of h
      refine u_iald C G arM_16 (t0 := 0) rfl g6 dX10_layerTold_32 ?_
      refine lv_iconst (v := 1) hx hb dX10_layerTold_33 (by decide) ?_
      refine lv_isub hx hb dX10_layerTold_34 ?_
      obtain ⟨r7, σ8, er7, h⟩ := ub_of h
      refine u_callSi (As := [.int v2, .int 0, .int ((σ4 16 v1.toNatClampNeg) - 1)]) (rest := []) C G (c_X10_in l D ad cs C.2.2.1 σ4 v2 (0 : Int32) ((σ4 16 v1.toNatClampNeg) - 1) r7 σ8 er7) (va_cwS 3 C.1.2.2.2.2 gX10_layerTold_X10_in rfl rfl rfl (by decide +kernel) ⟨Nat.le_of_ble_eq_true rfl, Nat.le_of_ble_eq_true rfl⟩) rfl hl rfl (Nat.le_of_ble_eq_true rfl) dX10_layerTold_35 (fun H locs G => ?_)
      refine lv_if_ne (tgt := 46) hx hb dX10_layerTold_38 (by decide) (fun q => ?_) (fun q => ?_)
      · have h := u_neg q h
        refine lv_iload_n hx hb dX10_layerTold_46 rfl (lv_at hl 4 rfl) ?_
        refine lv_if_ne (tgt := 60) hx hb dX10_layerTold_47 (by decide) (fun q => ?_) (fun q => ?_)
        · have h := u_neg q h
          refine lv_iload_n hx hb dX10_layerTold_60 rfl (lv_at hl 4 rfl) ?_
          refine lv_iconst (v := 1) hx hb dX10_layerTold_61 (by decide) ?_
          refine lv_icmp_ne (tgt := 75) hx hb dX10_layerTold_62 (by decide) (fun q => ?_) (fun q => ?_)
          · have h := u_neg q h
            refine lv_aload_n hx hb dX10_layerTold_75 rfl (lv_at hl 1 rfl) ?_
            refine u_get (v := .ref (ad 19)) C G obM_0 (ci := 10) (N := 44) (Cn := RX10) (T := TX10) rfl fi_X10_layerTold_10 22 (by decide) (by decide +kernel) rfl dX10_layerTold_76 ?_
            refine lv_iload hx hb dX10_layerTold_79 (lv_at hl 0 rfl) ?_
            obtain ⟨g9, h⟩ := ui_of h
            refine u_iald C G arM_19 (t0 := 0) rfl g9 dX10_layerTold_81 ?_
            obtain ⟨rfl, rfl⟩ := u_end h
            exact u_iret hx hb hr hlk G dX10_layerTold_82
          · have h := u_pos q h
            refine lv_aload_n hx hb dX10_layerTold_65 rfl (lv_at hl 1 rfl) ?_
            refine u_get (v := .ref (ad 18)) C G obM_0 (ci := 10) (N := 44) (Cn := RX10) (T := TX10) rfl fi_X10_layerTold_10 21 (by decide) (by decide +kernel) rfl dX10_layerTold_66 ?_
            refine lv_iload hx hb dX10_layerTold_69 (lv_at hl 0 rfl) ?_
            obtain ⟨g10, h⟩ := ui_of h
            refine u_iald C G arM_18 (t0 := 0) rfl g10 dX10_layerTold_71 ?_
            refine lv_goto (tgt := 82) hx hb dX10_layerTold_72 (by decide) ?_
            obtain ⟨rfl, rfl⟩ := u_end h
            exact u_iret hx hb hr hlk G dX10_layerTold_82
        · have h := u_pos q h
          refine lv_aload_n hx hb dX10_layerTold_50 rfl (lv_at hl 1 rfl) ?_
          refine u_get (v := .ref (ad 17)) C G obM_0 (ci := 10) (N := 44) (Cn := RX10) (T := TX10) rfl fi_X10_layerTold_10 20 (by decide) (by decide +kernel) rfl dX10_layerTold_51 ?_
          refine lv_iload hx hb dX10_layerTold_54 (lv_at hl 0 rfl) ?_
          obtain ⟨g11, h⟩ := ui_of h
          refine u_iald C G arM_17 (t0 := 0) rfl g11 dX10_layerTold_56 ?_
          refine lv_goto (tgt := 82) hx hb dX10_layerTold_57 (by decide) ?_
          obtain ⟨rfl, rfl⟩ := u_end h
          exact u_iret hx hb hr hlk G dX10_layerTold_82
      · have h := u_pos q h
        refine lv_bipush (v := (-9)) hx hb dX10_layerTold_41 (by decide) ?_
        refine lv_goto (tgt := 82) hx hb dX10_layerTold_43 (by decide) ?_
        obtain ⟨rfl, rfl⟩ := u_end h
        exact u_iret hx hb hr hlk G dX10_layerTold_82
    · have h := u_pos q h
      refine lv_iconst (v := (-1)) hx hb dX10_layerTold_16 (by decide) ?_
      obtain ⟨rfl, rfl⟩ := u_end h
      exact u_iret hx hb hr hlk G dX10_layerTold_17
/-! X10_fadedOf -/
def f_X10_fadedOf_99 (k4 : St → Int32 → Int32 → Int32 → Option (Int32 × St)) (k38 : St → Int32 → Int32 → Int32 → Int32 → Int32 → Int32 → Option (Int32 × St)) (σ : St) (v1 : Int32) (v2 : Int32) (v3 : Int32) (v4 : Int32) (v6 : Int32) (v8 : Int32) (vs0 : Int32) : Option (Int32 × St) :=
  if v8 = 0 then
    ul (v2 + 0) fun x17 =>
    ul (v6 + (-1)) fun x18 =>
    k38 σ v1 x17 v3 v4 vs0 x18
  else
    if v4 = 4 then
      ul (v2 + 0) fun x19 =>
      ul (v6 + (-1)) fun x20 =>
      k38 σ v1 x19 v3 v4 vs0 x20
    else
      if vs0 = 0 then
        ul (v2 + 1) fun x23 =>
        ul (v6 + (-1)) fun x24 =>
        k38 σ v1 x23 v3 v4 vs0 x24
      else
        ul (v2 + 0) fun x21 =>
        ul (v6 + (-1)) fun x22 =>
        k38 σ v1 x21 v3 v4 vs0 x22
def f_X10_fadedOf_38 (k4 : St → Int32 → Int32 → Int32 → Option (Int32 × St)) : Nat → St → Int32 → Int32 → Int32 → Int32 → Int32 → Int32 → Option (Int32 × St)
  | 0, _, _, _, _, _, _, _ => none
  | fuel + 1, σ, v1, v2, v3, v4, v5, v6 =>
    if v6 < 0 then
      if v5 = 0 then
        if v4 = 0 then
          ul (v3 + 1) fun x6 =>
          k4 σ v1 v2 x6
        else
          if v4 = 4 then
            ul (v3 + 1) fun x7 =>
            k4 σ v1 v2 x7
          else
            some (((-9) : Int32), σ)
      else
        ul (v3 + 1) fun x5 =>
        k4 σ v1 v2 x5
    else
      if v5 = 0 then
        ul ((3 * v1) + v6) fun x11 =>
        ui x11 12 <|
        ui x11 12 <|
        ub (f_X10_has σ (σ 17 x11.toNatClampNeg) (σ 18 x11.toNatClampNeg) v3) fun r14 σ15 =>
        if r14 = 0 then
          f_X10_fadedOf_99 k4 (f_X10_fadedOf_38 k4 fuel) σ15 v1 v2 v3 v4 v6 r14 0
        else
          ui x11 12 <|
          if (σ15 19 x11.toNatClampNeg) = v4 then
            f_X10_fadedOf_99 k4 (f_X10_fadedOf_38 k4 fuel) σ15 v1 v2 v3 v4 v6 r14 1
          else
            f_X10_fadedOf_99 k4 (f_X10_fadedOf_38 k4 fuel) σ15 v1 v2 v3 v4 v6 r14 0
      else
        if v5 = 0 then
          if v4 = 0 then
            ul (v3 + 1) fun x9 =>
            k4 σ v1 v2 x9
          else
            if v4 = 4 then
              ul (v3 + 1) fun x10 =>
              k4 σ v1 v2 x10
            else
              some (((-9) : Int32), σ)
        else
          ul (v3 + 1) fun x8 =>
          k4 σ v1 v2 x8
def f_X10_fadedOf_4 : Nat → St → Int32 → Int32 → Int32 → Option (Int32 × St)
  | 0, _, _, _, _ => none
  | fuel + 1, σ, v1, v2, v3 =>
    if 150 ≤ v3 then
      some (v2, σ)
    else
      ui ((150 * v1) + v3) 600 <|
      ul (σ 14 ((150 * v1) + v3).toNatClampNeg) fun x2 =>
      ui v1 4 <|
      ul ((σ 16 v1.toNatClampNeg) - 1) fun x4 =>
      f_X10_fadedOf_38 (f_X10_fadedOf_4 fuel) fu σ v1 v2 v3 x2 0 x4
def f_X10_fadedOf (σ : St) (v1 : Int32) : Option (Int32 × St) :=
  f_X10_fadedOf_4 fu σ v1 0 0
theorem fi_X10_fadedOf_10 : ∀ w ∈ u_ws RX10 TX10 44, w ∈ wsX10_fadedOf := by decide +kernel
set_option maxHeartbeats 4000000 in
set_option maxRecDepth 100000 in
theorem w_X10_fadedOf_99 {p : Program} {l : Launch} {e : Env} {s : State} {m : MethodId} {args : Array Value} {below : List Frame} {meth : Method} {c : Code} {D : va_G} {ad : Nat → Nat} {cs : Nat → ClassId} (C : uC p { frames := 2, cells := 0, slots := 0, locals := 46 } s m args c cX10_fadedOf 9 wsX10_fadedOf RX10 D vwCl (tyM cs) 34 ad (uAd 34 ad s.heap.size) 0 0) (hr : meth.sig.returnType = (some .int)) (hlk : meth.locks = false) {r : Int32} {σ' : St} {k4 : St → Int32 → Int32 → Int32 → Option (Int32 × St)} {k38 : St → Int32 → Int32 → Int32 → Int32 → Int32 → Int32 → Option (Int32 × St)} (hk4 : ∀ (σ : St) (v1 : Int32) (v2 : Int32) (v3 : Int32), k4 σ v1 v2 v3 = some (r, σ') → ∀ (H : Heap) (locs : List Loc) (ls : Array Slot), uG D vwCl 34 ad (enM ad cs) (uAd 34 ad s.heap.size) s σ H locs → lv_has ls 9 [(0, .ref (ad 0)), (1, .int v1), (2, .int v2), (3, .int v3)] → W p l e { frames := 2, cells := 0, slots := 0, locals := 46 } s m args below meth c H locs 0 0 (MQ below (uQi D vwCl 34 ad (enM ad cs) r σ' s.heap.size) args s 0 0 (uAd 34 ad s.heap.size)) (F0 m 4 ls [])) (hk38 : ∀ (σ : St) (v1 : Int32) (v2 : Int32) (v3 : Int32) (v4 : Int32) (v5 : Int32) (v6 : Int32), k38 σ v1 v2 v3 v4 v5 v6 = some (r, σ') → ∀ (H : Heap) (locs : List Loc) (ls : Array Slot), uG D vwCl 34 ad (enM ad cs) (uAd 34 ad s.heap.size) s σ H locs → lv_has ls 9 [(0, .ref (ad 0)), (1, .int v1), (2, .int v2), (3, .int v3), (4, .int v4), (5, .int v5), (6, .int v6)] → W p l e { frames := 2, cells := 0, slots := 0, locals := 46 } s m args below meth c H locs 0 0 (MQ below (uQi D vwCl 34 ad (enM ad cs) r σ' s.heap.size) args s 0 0 (uAd 34 ad s.heap.size)) (F0 m 38 ls [])) :
    ∀ (σ : St) (v1 : Int32) (v2 : Int32) (v3 : Int32) (v4 : Int32) (v6 : Int32) (v8 : Int32) (vs0 : Int32), f_X10_fadedOf_99 k4 k38 σ v1 v2 v3 v4 v6 v8 vs0 = some (r, σ') → ∀ (H : Heap) (locs : List Loc) (ls : Array Slot), uG D vwCl 34 ad (enM ad cs) (uAd 34 ad s.heap.size) s σ H locs → lv_has ls 9 [(0, .ref (ad 0)), (1, .int v1), (2, .int v2), (3, .int v3), (4, .int v4), (6, .int v6), (8, .int v8)] → W p l e { frames := 2, cells := 0, slots := 0, locals := 46 } s m args below meth c H locs 0 0 (MQ below (uQi D vwCl 34 ad (enM ad cs) r σ' s.heap.size) args s 0 0 (uAd 34 ad s.heap.size)) (F0 m 99 ls [.int vs0]) := by
  have hx := C.1.1
  have hb := C.1.2.1
  intro σ v1 v2 v3 v4 v6 v8 vs0  h H locs ls G hl
  unfold f_X10_fadedOf_99 at h
  refine lv_istore (lv' := [(5, .int vs0), (0, .ref (ad 0)), (1, .int v1), (2, .int v2), (3, .int v3), (4, .int v4), (6, .int v6), (8, .int v8)]) hx hb dX10_fadedOf_99 hl (by decide) rfl (fun ls hl => ?_)
  refine lv_iload_n hx hb dX10_fadedOf_101 rfl (lv_at hl 3 rfl) ?_
  refine lv_iload hx hb dX10_fadedOf_102 (lv_at hl 7 rfl) ?_
  refine lv_if_eq (tgt := 122) hx hb dX10_fadedOf_104 (by decide) (fun q => ?_) (fun q => ?_)
  · have h := u_pos q h
    refine lv_iconst (v := 0) hx hb dX10_fadedOf_122 (by decide) ?_
    refine lv_iadd hx hb dX10_fadedOf_123 ?_
    obtain ⟨x17, ex17, h⟩ := ul_of h
    refine u_nmi ex17 ?_
    refine lv_istore_n (lv' := [(2, .int x17), (5, .int vs0), (0, .ref (ad 0)), (1, .int v1), (3, .int v3), (4, .int v4), (6, .int v6), (8, .int v8)]) hx hb dX10_fadedOf_124 rfl hl (by decide) rfl (fun ls hl => ?_)
    obtain ⟨x18, ex18, h⟩ := ul_of h
    refine lv_iinc (v := x18) (lv' := [(6, .int x18), (2, .int x17), (5, .int vs0), (0, .ref (ad 0)), (1, .int v1), (3, .int v3), (4, .int v4), (8, .int v8)]) hx hb dX10_fadedOf_125 hl (k := 6) rfl (by rw [ex18]; rfl) (by decide) rfl (fun ls hl => ?_)
    refine lv_goto (tgt := 38) hx hb dX10_fadedOf_128 (by decide) ?_
    exact hk38 σ v1 x17 v3 v4 vs0 x18 h H locs ls G (lv_sub hl [3, 4, 1, 5, 6, 2, 0] rfl)
  · have h := u_neg q h
    refine lv_iload hx hb dX10_fadedOf_107 (lv_at hl 5 rfl) ?_
    refine lv_iconst (v := 4) hx hb dX10_fadedOf_109 (by decide) ?_
    refine lv_icmp_eq (tgt := 122) hx hb dX10_fadedOf_110 (by decide) (fun q => ?_) (fun q => ?_)
    · have h := u_pos q h
      refine lv_iconst (v := 0) hx hb dX10_fadedOf_122 (by decide) ?_
      refine lv_iadd hx hb dX10_fadedOf_123 ?_
      obtain ⟨x19, ex19, h⟩ := ul_of h
      refine u_nmi ex19 ?_
      refine lv_istore_n (lv' := [(2, .int x19), (5, .int vs0), (0, .ref (ad 0)), (1, .int v1), (3, .int v3), (4, .int v4), (6, .int v6), (8, .int v8)]) hx hb dX10_fadedOf_124 rfl hl (by decide) rfl (fun ls hl => ?_)
      obtain ⟨x20, ex20, h⟩ := ul_of h
      refine lv_iinc (v := x20) (lv' := [(6, .int x20), (2, .int x19), (5, .int vs0), (0, .ref (ad 0)), (1, .int v1), (3, .int v3), (4, .int v4), (8, .int v8)]) hx hb dX10_fadedOf_125 hl (k := 6) rfl (by rw [ex20]; rfl) (by decide) rfl (fun ls hl => ?_)
      refine lv_goto (tgt := 38) hx hb dX10_fadedOf_128 (by decide) ?_
      exact hk38 σ v1 x19 v3 v4 vs0 x20 h H locs ls G (lv_sub hl [3, 4, 1, 5, 6, 2, 0] rfl)
    · have h := u_neg q h
      refine lv_iload hx hb dX10_fadedOf_113 (lv_at hl 0 rfl) ?_
      refine lv_if_ne (tgt := 122) hx hb dX10_fadedOf_115 (by decide) (fun q => ?_) (fun q => ?_)
      · have h := u_neg q h
        refine lv_iconst (v := 0) hx hb dX10_fadedOf_122 (by decide) ?_
        refine lv_iadd hx hb dX10_fadedOf_123 ?_
        obtain ⟨x21, ex21, h⟩ := ul_of h
        refine u_nmi ex21 ?_
        refine lv_istore_n (lv' := [(2, .int x21), (5, .int vs0), (0, .ref (ad 0)), (1, .int v1), (3, .int v3), (4, .int v4), (6, .int v6), (8, .int v8)]) hx hb dX10_fadedOf_124 rfl hl (by decide) rfl (fun ls hl => ?_)
        obtain ⟨x22, ex22, h⟩ := ul_of h
        refine lv_iinc (v := x22) (lv' := [(6, .int x22), (2, .int x21), (5, .int vs0), (0, .ref (ad 0)), (1, .int v1), (3, .int v3), (4, .int v4), (8, .int v8)]) hx hb dX10_fadedOf_125 hl (k := 6) rfl (by rw [ex22]; rfl) (by decide) rfl (fun ls hl => ?_)
        refine lv_goto (tgt := 38) hx hb dX10_fadedOf_128 (by decide) ?_
        exact hk38 σ v1 x21 v3 v4 vs0 x22 h H locs ls G (lv_sub hl [3, 4, 1, 5, 6, 2, 0] rfl)
      · have h := u_pos q h
        refine lv_iconst (v := 1) hx hb dX10_fadedOf_118 (by decide) ?_
        refine lv_goto (tgt := 123) hx hb dX10_fadedOf_119 (by decide) ?_
        refine lv_iadd hx hb dX10_fadedOf_123 ?_
        obtain ⟨x23, ex23, h⟩ := ul_of h
        refine u_nmi ex23 ?_
        refine lv_istore_n (lv' := [(2, .int x23), (5, .int vs0), (0, .ref (ad 0)), (1, .int v1), (3, .int v3), (4, .int v4), (6, .int v6), (8, .int v8)]) hx hb dX10_fadedOf_124 rfl hl (by decide) rfl (fun ls hl => ?_)
        obtain ⟨x24, ex24, h⟩ := ul_of h
        refine lv_iinc (v := x24) (lv' := [(6, .int x24), (2, .int x23), (5, .int vs0), (0, .ref (ad 0)), (1, .int v1), (3, .int v3), (4, .int v4), (8, .int v8)]) hx hb dX10_fadedOf_125 hl (k := 6) rfl (by rw [ex24]; rfl) (by decide) rfl (fun ls hl => ?_)
        refine lv_goto (tgt := 38) hx hb dX10_fadedOf_128 (by decide) ?_
        exact hk38 σ v1 x23 v3 v4 vs0 x24 h H locs ls G (lv_sub hl [3, 4, 1, 5, 6, 2, 0] rfl)
set_option maxHeartbeats 4000000 in
set_option maxRecDepth 100000 in
theorem w_X10_fadedOf_38 {p : Program} {l : Launch} {e : Env} {s : State} {m : MethodId} {args : Array Value} {below : List Frame} {meth : Method} {c : Code} {D : va_G} {ad : Nat → Nat} {cs : Nat → ClassId} (C : uC p { frames := 2, cells := 0, slots := 0, locals := 46 } s m args c cX10_fadedOf 9 wsX10_fadedOf RX10 D vwCl (tyM cs) 34 ad (uAd 34 ad s.heap.size) 0 0) (hr : meth.sig.returnType = (some .int)) (hlk : meth.locks = false) {r : Int32} {σ' : St} {k4 : St → Int32 → Int32 → Int32 → Option (Int32 × St)} (hk4 : ∀ (σ : St) (v1 : Int32) (v2 : Int32) (v3 : Int32), k4 σ v1 v2 v3 = some (r, σ') → ∀ (H : Heap) (locs : List Loc) (ls : Array Slot), uG D vwCl 34 ad (enM ad cs) (uAd 34 ad s.heap.size) s σ H locs → lv_has ls 9 [(0, .ref (ad 0)), (1, .int v1), (2, .int v2), (3, .int v3)] → W p l e { frames := 2, cells := 0, slots := 0, locals := 46 } s m args below meth c H locs 0 0 (MQ below (uQi D vwCl 34 ad (enM ad cs) r σ' s.heap.size) args s 0 0 (uAd 34 ad s.heap.size)) (F0 m 4 ls [])) :
    ∀ (n : Nat) (σ : St) (v1 : Int32) (v2 : Int32) (v3 : Int32) (v4 : Int32) (v5 : Int32) (v6 : Int32), f_X10_fadedOf_38 k4 n σ v1 v2 v3 v4 v5 v6 = some (r, σ') → ∀ (H : Heap) (locs : List Loc) (ls : Array Slot), uG D vwCl 34 ad (enM ad cs) (uAd 34 ad s.heap.size) s σ H locs → lv_has ls 9 [(0, .ref (ad 0)), (1, .int v1), (2, .int v2), (3, .int v3), (4, .int v4), (5, .int v5), (6, .int v6)] → W p l e { frames := 2, cells := 0, slots := 0, locals := 46 } s m args below meth c H locs 0 0 (MQ below (uQi D vwCl 34 ad (enM ad cs) r σ' s.heap.size) args s 0 0 (uAd 34 ad s.heap.size)) (F0 m 38 ls []) := by
  have hx := C.1.1
  have hb := C.1.2.1
  intro n
  induction n with
  | zero => intro σ v1 v2 v3 v4 v5 v6  h; exact absurd h (by simp [f_X10_fadedOf_38])
  | succ fuel ih =>
    intro σ v1 v2 v3 v4 v5 v6  h H locs ls G hl
    rw [f_X10_fadedOf_38] at h
    refine lv_iload hx hb dX10_fadedOf_38 (lv_at hl 6 rfl) ?_
    refine lv_if_lt (tgt := 131) hx hb dX10_fadedOf_40 (by decide) (fun q => ?_) (fun q => ?_)
    · have h := u_pos q h
      refine lv_iload hx hb dX10_fadedOf_131 (lv_at hl 5 rfl) ?_
      refine lv_if_ne (tgt := 150) hx hb dX10_fadedOf_133 (by decide) (fun q => ?_) (fun q => ?_)
      · have h := u_neg q h
        obtain ⟨x5, ex5, h⟩ := ul_of h
        refine lv_iinc (v := x5) (lv' := [(3, .int x5), (0, .ref (ad 0)), (1, .int v1), (2, .int v2), (4, .int v4), (5, .int v5), (6, .int v6)]) hx hb dX10_fadedOf_150 hl (k := 3) rfl (by rw [ex5]; rfl) (by decide) rfl (fun ls hl => ?_)
        refine lv_goto (tgt := 4) hx hb dX10_fadedOf_153 (by decide) ?_
        exact hk4 σ v1 v2 x5 h H locs ls G (lv_sub hl [1, 2, 3, 0] rfl)
      · have h := u_pos q h
        refine lv_iload hx hb dX10_fadedOf_136 (lv_at hl 4 rfl) ?_
        refine lv_if_eq (tgt := 150) hx hb dX10_fadedOf_138 (by decide) (fun q => ?_) (fun q => ?_)
        · have h := u_pos q h
          obtain ⟨x6, ex6, h⟩ := ul_of h
          refine lv_iinc (v := x6) (lv' := [(3, .int x6), (0, .ref (ad 0)), (1, .int v1), (2, .int v2), (4, .int v4), (5, .int v5), (6, .int v6)]) hx hb dX10_fadedOf_150 hl (k := 3) rfl (by rw [ex6]; rfl) (by decide) rfl (fun ls hl => ?_)
          refine lv_goto (tgt := 4) hx hb dX10_fadedOf_153 (by decide) ?_
          exact hk4 σ v1 v2 x6 h H locs ls G (lv_sub hl [1, 2, 3, 0] rfl)
        · have h := u_neg q h
          refine lv_iload hx hb dX10_fadedOf_141 (lv_at hl 4 rfl) ?_
          refine lv_iconst (v := 4) hx hb dX10_fadedOf_143 (by decide) ?_
          refine lv_icmp_eq (tgt := 150) hx hb dX10_fadedOf_144 (by decide) (fun q => ?_) (fun q => ?_)
          · have h := u_pos q h
            obtain ⟨x7, ex7, h⟩ := ul_of h
            refine lv_iinc (v := x7) (lv' := [(3, .int x7), (0, .ref (ad 0)), (1, .int v1), (2, .int v2), (4, .int v4), (5, .int v5), (6, .int v6)]) hx hb dX10_fadedOf_150 hl (k := 3) rfl (by rw [ex7]; rfl) (by decide) rfl (fun ls hl => ?_)
            refine lv_goto (tgt := 4) hx hb dX10_fadedOf_153 (by decide) ?_
            exact hk4 σ v1 v2 x7 h H locs ls G (lv_sub hl [1, 2, 3, 0] rfl)
          · have h := u_neg q h
            refine lv_bipush (v := (-9)) hx hb dX10_fadedOf_147 (by decide) ?_
            obtain ⟨rfl, rfl⟩ := u_end h
            exact u_iret hx hb hr hlk G dX10_fadedOf_149
    · have h := u_neg q h
      refine lv_iload hx hb dX10_fadedOf_43 (lv_at hl 5 rfl) ?_
      refine lv_if_ne (tgt := 131) hx hb dX10_fadedOf_45 (by decide) (fun q => ?_) (fun q => ?_)
      · have h := u_neg q h
        refine lv_iload hx hb dX10_fadedOf_131 (lv_at hl 5 rfl) ?_
        refine lv_if_ne (tgt := 150) hx hb dX10_fadedOf_133 (by decide) (fun q => ?_) (fun q => ?_)
        · have h := u_neg q h
          obtain ⟨x8, ex8, h⟩ := ul_of h
          refine lv_iinc (v := x8) (lv' := [(3, .int x8), (0, .ref (ad 0)), (1, .int v1), (2, .int v2), (4, .int v4), (5, .int v5), (6, .int v6)]) hx hb dX10_fadedOf_150 hl (k := 3) rfl (by rw [ex8]; rfl) (by decide) rfl (fun ls hl => ?_)
          refine lv_goto (tgt := 4) hx hb dX10_fadedOf_153 (by decide) ?_
          exact hk4 σ v1 v2 x8 h H locs ls G (lv_sub hl [1, 2, 3, 0] rfl)
        · have h := u_pos q h
          refine lv_iload hx hb dX10_fadedOf_136 (lv_at hl 4 rfl) ?_
          refine lv_if_eq (tgt := 150) hx hb dX10_fadedOf_138 (by decide) (fun q => ?_) (fun q => ?_)
          · have h := u_pos q h
            obtain ⟨x9, ex9, h⟩ := ul_of h
            refine lv_iinc (v := x9) (lv' := [(3, .int x9), (0, .ref (ad 0)), (1, .int v1), (2, .int v2), (4, .int v4), (5, .int v5), (6, .int v6)]) hx hb dX10_fadedOf_150 hl (k := 3) rfl (by rw [ex9]; rfl) (by decide) rfl (fun ls hl => ?_)
            refine lv_goto (tgt := 4) hx hb dX10_fadedOf_153 (by decide) ?_
            exact hk4 σ v1 v2 x9 h H locs ls G (lv_sub hl [1, 2, 3, 0] rfl)
          · have h := u_neg q h
            refine lv_iload hx hb dX10_fadedOf_141 (lv_at hl 4 rfl) ?_
            refine lv_iconst (v := 4) hx hb dX10_fadedOf_143 (by decide) ?_
            refine lv_icmp_eq (tgt := 150) hx hb dX10_fadedOf_144 (by decide) (fun q => ?_) (fun q => ?_)
            · have h := u_pos q h
              obtain ⟨x10, ex10, h⟩ := ul_of h
              refine lv_iinc (v := x10) (lv' := [(3, .int x10), (0, .ref (ad 0)), (1, .int v1), (2, .int v2), (4, .int v4), (5, .int v5), (6, .int v6)]) hx hb dX10_fadedOf_150 hl (k := 3) rfl (by rw [ex10]; rfl) (by decide) rfl (fun ls hl => ?_)
              refine lv_goto (tgt := 4) hx hb dX10_fadedOf_153 (by decide) ?_
              exact hk4 σ v1 v2 x10 h H locs ls G (lv_sub hl [1, 2, 3, 0] rfl)
            · have h := u_neg q h
              refine lv_bipush (v := (-9)) hx hb dX10_fadedOf_147 (by decide) ?_
              obtain ⟨rfl, rfl⟩ := u_end h
              exact u_iret hx hb hr hlk G dX10_fadedOf_149
      · have h := u_pos q h
        refine lv_iconst (v := 3) hx hb dX10_fadedOf_48 (by decide) ?_
        refine lv_iload_n hx hb dX10_fadedOf_49 rfl (lv_at hl 1 rfl) ?_
        refine lv_imul hx hb dX10_fadedOf_50 ?_
        refine lv_iload hx hb dX10_fadedOf_51 (lv_at hl 6 rfl) ?_
        refine lv_iadd hx hb dX10_fadedOf_53 ?_
        obtain ⟨x11, ex11, h⟩ := ul_of h
        refine u_nmi ex11 ?_
        refine lv_istore (lv' := [(7, .int x11), (0, .ref (ad 0)), (1, .int v1), (2, .int v2), (3, .int v3), (4, .int v4), (5, .int v5), (6, .int v6)]) hx hb dX10_fadedOf_54 hl (by decide) rfl (fun ls hl => ?_)
        refine lv_aload_n hx hb dX10_fadedOf_56 rfl (lv_at hl 1 rfl) ?_
        refine lv_aload_n hx hb dX10_fadedOf_57 rfl (lv_at hl 1 rfl) ?_
        refine u_get (v := .ref (ad 17)) C G obM_0 (ci := 10) (N := 44) (Cn := RX10) (T := TX10) rfl fi_X10_fadedOf_10 20 (by decide) (by decide +kernel) rfl dX10_fadedOf_58 ?_
        refine lv_iload hx hb dX10_fadedOf_61 (lv_at hl 0 rfl) ?_
        obtain ⟨g12, h⟩ := ui_of h
        refine u_iald C G arM_17 (t0 := 0) rfl g12 dX10_fadedOf_63 ?_
        refine lv_aload_n hx hb dX10_fadedOf_64 rfl (lv_at hl 1 rfl) ?_
        refine u_get (v := .ref (ad 18)) C G obM_0 (ci := 10) (N := 44) (Cn := RX10) (T := TX10) rfl fi_X10_fadedOf_10 21 (by decide) (by decide +kernel) rfl dX10_fadedOf_65 ?_
        refine lv_iload hx hb dX10_fadedOf_68 (lv_at hl 0 rfl) ?_
        obtain ⟨g13, h⟩ := ui_of h
        refine u_iald C G arM_18 (t0 := 0) rfl g13 dX10_fadedOf_70 ?_
        refine lv_iload_n hx hb dX10_fadedOf_71 rfl (lv_at hl 4 rfl) ?_
        obtain ⟨r14, σ15, er14, h⟩ := ub_of h
        refine u_callVi (As := [.int (σ 17 x11.toNatClampNeg), .int (σ 18 x11.toNatClampNeg), .int v3]) (rest := []) C G (c_X10_has l D ad cs C.2.2.1 σ (σ 17 x11.toNatClampNeg) (σ 18 x11.toNatClampNeg) v3 r14 σ15 er14) (cwV 3 C.1.2.2.2.2 gX10_fadedOf_X10_has rfl rfl rfl (by decide +kernel) ⟨Nat.le_of_ble_eq_true rfl, Nat.le_of_ble_eq_true rfl⟩) obM_0 (ci := 10) (T := TX10) rfl rfl hl rfl (Nat.le_of_ble_eq_true rfl) dX10_fadedOf_72 (fun H locs G => ?_)
        refine lv_istore (lv' := [(8, .int r14), (7, .int x11), (0, .ref (ad 0)), (1, .int v1), (2, .int v2), (3, .int v3), (4, .int v4), (5, .int v5), (6, .int v6)]) hx hb dX10_fadedOf_75 hl (by decide) rfl (fun ls hl => ?_)
        refine lv_iload hx hb dX10_fadedOf_77 (lv_at hl 0 rfl) ?_
        refine lv_if_eq (tgt := 98) hx hb dX10_fadedOf_79 (by decide) (fun q => ?_) (fun q => ?_)
        · have h := u_pos q h
          refine lv_iconst (v := 0) hx hb dX10_fadedOf_98 (by decide) ?_
          exact w_X10_fadedOf_99 C hr hlk hk4 ih σ15 v1 v2 v3 v4 v6 r14 0 h H locs ls G (lv_sub hl [2, 3, 4, 5, 6, 8, 0] rfl)
        · have h := u_neg q h
          refine lv_aload_n hx hb dX10_fadedOf_82 rfl (lv_at hl 2 rfl) ?_
          refine u_get (v := .ref (ad 19)) C G obM_0 (ci := 10) (N := 44) (Cn := RX10) (T := TX10) rfl fi_X10_fadedOf_10 22 (by decide) (by decide +kernel) rfl dX10_fadedOf_83 ?_
          refine lv_iload hx hb dX10_fadedOf_86 (lv_at hl 1 rfl) ?_
          obtain ⟨g16, h⟩ := ui_of h
          refine u_iald C G arM_19 (t0 := 0) rfl g16 dX10_fadedOf_88 ?_
          refine lv_iload hx hb dX10_fadedOf_89 (lv_at hl 6 rfl) ?_
          refine lv_icmp_ne (tgt := 98) hx hb dX10_fadedOf_91 (by decide) (fun q => ?_) (fun q => ?_)
          · have h := u_neg q h
            refine lv_iconst (v := 0) hx hb dX10_fadedOf_98 (by decide) ?_
            exact w_X10_fadedOf_99 C hr hlk hk4 ih σ15 v1 v2 v3 v4 v6 r14 0 h H locs ls G (lv_sub hl [2, 3, 4, 5, 6, 8, 0] rfl)
          · have h := u_pos q h
            refine lv_iconst (v := 1) hx hb dX10_fadedOf_94 (by decide) ?_
            refine lv_goto (tgt := 99) hx hb dX10_fadedOf_95 (by decide) ?_
            exact w_X10_fadedOf_99 C hr hlk hk4 ih σ15 v1 v2 v3 v4 v6 r14 1 h H locs ls G (lv_sub hl [2, 3, 4, 5, 6, 8, 0] rfl)
set_option maxHeartbeats 4000000 in
set_option maxRecDepth 100000 in
theorem w_X10_fadedOf_4 {p : Program} {l : Launch} {e : Env} {s : State} {m : MethodId} {args : Array Value} {below : List Frame} {meth : Method} {c : Code} {D : va_G} {ad : Nat → Nat} {cs : Nat → ClassId} (C : uC p { frames := 2, cells := 0, slots := 0, locals := 46 } s m args c cX10_fadedOf 9 wsX10_fadedOf RX10 D vwCl (tyM cs) 34 ad (uAd 34 ad s.heap.size) 0 0) (hr : meth.sig.returnType = (some .int)) (hlk : meth.locks = false) {r : Int32} {σ' : St} :
    ∀ (n : Nat) (σ : St) (v1 : Int32) (v2 : Int32) (v3 : Int32), f_X10_fadedOf_4 n σ v1 v2 v3 = some (r, σ') → ∀ (H : Heap) (locs : List Loc) (ls : Array Slot), uG D vwCl 34 ad (enM ad cs) (uAd 34 ad s.heap.size) s σ H locs → lv_has ls 9 [(0, .ref (ad 0)), (1, .int v1), (2, .int v2), (3, .int v3)] → W p l e { frames := 2, cells := 0, slots := 0, locals := 46 } s m args below meth c H locs 0 0 (MQ below (uQi D vwCl 34 ad (enM ad cs) r σ' s.heap.size) args s 0 0 (uAd 34 ad s.heap.size)) (F0 m 4 ls []) := by
  have hx := C.1.1
  have hb := C.1.2.1
  intro n
  induction n with
  | zero => intro σ v1 v2 v3  h; exact absurd h (by simp [f_X10_fadedOf_4])
  | succ fuel ih =>
    intro σ v1 v2 v3  h H locs ls G hl
    rw [f_X10_fadedOf_4] at h
    refine lv_iload_n hx hb dX10_fadedOf_4 rfl (lv_at hl 3 rfl) ?_
    refine lv_sipush (v := 150) hx hb dX10_fadedOf_5 (by decide) ?_
    refine lv_icmp_ge (tgt := 156) hx hb dX10_fadedOf_8 (by decide) (fun q => ?_) (fun q => ?_)
    · have h := u_pos q h
      refine lv_iload_n hx hb dX10_fadedOf_156 rfl (lv_at hl 2 rfl) ?_
      obtain ⟨rfl, rfl⟩ := u_end h
      exact u_iret hx hb hr hlk G dX10_fadedOf_157
    · have h := u_neg q h
      refine lv_aload_n hx hb dX10_fadedOf_11 rfl (lv_at hl 0 rfl) ?_
      refine u_get (v := .ref (ad 14)) C G obM_0 (ci := 10) (N := 44) (Cn := RX10) (T := TX10) rfl fi_X10_fadedOf_10 16 (by decide) (by decide +kernel) rfl dX10_fadedOf_12 ?_
      refine lv_sipush (v := 150) hx hb dX10_fadedOf_15 (by decide) ?_
      refine lv_iload_n hx hb dX10_fadedOf_18 rfl (lv_at hl 1 rfl) ?_
      refine lv_imul hx hb dX10_fadedOf_19 ?_
      refine lv_iload_n hx hb dX10_fadedOf_20 rfl (lv_at hl 3 rfl) ?_
      refine lv_iadd hx hb dX10_fadedOf_21 ?_
      obtain ⟨g1, h⟩ := ui_of h
      refine u_iald C G arM_14 (t0 := 0) rfl g1 dX10_fadedOf_22 ?_
      obtain ⟨x2, ex2, h⟩ := ul_of h
      refine u_nmi ex2 ?_
      refine lv_istore (lv' := [(4, .int x2), (0, .ref (ad 0)), (1, .int v1), (2, .int v2), (3, .int v3)]) hx hb dX10_fadedOf_23 hl (by decide) rfl (fun ls hl => ?_)
      refine lv_iconst (v := 0) hx hb dX10_fadedOf_25 (by decide) ?_
      refine lv_istore (lv' := [(5, .int 0), (4, .int x2), (0, .ref (ad 0)), (1, .int v1), (2, .int v2), (3, .int v3)]) hx hb dX10_fadedOf_26 hl (by decide) rfl (fun ls hl => ?_)
      refine lv_aload_n hx hb dX10_fadedOf_28 rfl (lv_at hl 2 rfl) ?_
      refine u_get (v := .ref (ad 16)) C G obM_0 (ci := 10) (N := 44) (Cn := RX10) (T := TX10) rfl fi_X10_fadedOf_10 19 (by decide) (by decide +kernel) rfl dX10_fadedOf_29 ?_
      refine lv_iload_n hx hb dX10_fadedOf_32 rfl (lv_at hl 3 rfl) ?_
      obtain ⟨g3, h⟩ := ui_of h
      refine u_iald C G arM_16 (t0 := 0) rfl g3 dX10_fadedOf_33 ?_
      refine lv_iconst (v := 1) hx hb dX10_fadedOf_34 (by decide) ?_
      refine lv_isub hx hb dX10_fadedOf_35 ?_
      obtain ⟨x4, ex4, h⟩ := ul_of h
      refine u_nmi ex4 ?_
      refine lv_istore (lv' := [(6, .int x4), (5, .int 0), (4, .int x2), (0, .ref (ad 0)), (1, .int v1), (2, .int v2), (3, .int v3)]) hx hb dX10_fadedOf_36 hl (by decide) rfl (fun ls hl => ?_)
      exact w_X10_fadedOf_38 C hr hlk ih fu σ v1 v2 v3 x2 0 x4 h H locs ls G (lv_sub hl [3, 4, 5, 6, 2, 1, 0] rfl)
set_option maxHeartbeats 4000000 in
set_option maxRecDepth 100000 in
theorem c_X10_fadedOf (l : Launch) (D : va_G) (ad : Nat → Nat) (cs : Nat → ClassId) (J : uJ 34 ad) (σ : St) (v1 : Int32) (r : Int32) (σ' : St) (h : f_X10_fadedOf σ v1 = some (r, σ')) : uMi l yX10_fadedOf wsX10_fadedOf { frames := 2, cells := 0, slots := 0, locals := 46 } D vwCl (tyM cs) 34 ad (enM ad cs) [.ref (ad 0), .int v1] σ r σ' := by
  refine u_met (Qf := uQi D vwCl 34 ad (enM ad cs) r σ') (cc := cX10_fadedOf) (maxL := 9) (ret := (some .int)) (lv := [(0, .ref (ad 0)), (1, .int v1)]) J (by decide) rfl (Nat.le_of_ble_eq_true rfl) rfl rfl rfl ?_
  intro p e s m args below meth c ls hx hb C hr hlk G hl
  unfold f_X10_fadedOf at h
  obtain ⟨H, eH⟩ : ∃ H, H = s.heap := ⟨_, rfl⟩
  obtain ⟨locs, eL⟩ : ∃ locs : List Loc, locs = [] := ⟨_, rfl⟩
  refine u_start eH eL G ?_
  clear G eH eL
  intro G
  refine lv_iconst (v := 0) hx hb dX10_fadedOf_0 (by decide) ?_
  refine lv_istore_n (lv' := [(2, .int 0), (0, .ref (ad 0)), (1, .int v1)]) hx hb dX10_fadedOf_1 rfl hl (by decide) rfl (fun ls hl => ?_)
  refine lv_iconst (v := 0) hx hb dX10_fadedOf_2 (by decide) ?_
  refine lv_istore_n (lv' := [(3, .int 0), (2, .int 0), (0, .ref (ad 0)), (1, .int v1)]) hx hb dX10_fadedOf_3 rfl hl (by decide) rfl (fun ls hl => ?_)
  exact w_X10_fadedOf_4 C hr hlk fu σ v1 0 0 h H locs ls G (lv_sub hl [2, 3, 1, 0] rfl)
/-! X10_faded -/
def f_X10_faded (σ : St) (v1 : Int32) : Option (Int32 × St) :=
  ub (f_X10_isLine σ v1) fun r1 σ2 =>
  if r1 = 0 then
    some (((-1) : Int32), σ2)
  else
    ub (f_X10_fadedOf σ2 v1) fun r3 σ4 =>
    some (r3, σ4)
set_option maxHeartbeats 4000000 in
set_option maxRecDepth 100000 in
theorem c_X10_faded (l : Launch) (D : va_G) (ad : Nat → Nat) (cs : Nat → ClassId) (J : uJ 34 ad) (σ : St) (v1 : Int32) (r : Int32) (σ' : St) (h : f_X10_faded σ v1 = some (r, σ')) : uMi l yX10_faded wsX10_faded { frames := 3, cells := 0, slots := 0, locals := 74 } D vwCl (tyM cs) 34 ad (enM ad cs) [.ref (ad 0), .int v1] σ r σ' := by
  refine u_met (Qf := uQi D vwCl 34 ad (enM ad cs) r σ') (cc := cX10_faded) (maxL := 2) (ret := (some .int)) (lv := [(0, .ref (ad 0)), (1, .int v1)]) J (by decide) rfl (Nat.le_of_ble_eq_true rfl) rfl rfl rfl ?_
  intro p e s m args below meth c ls hx hb C hr hlk G hl
  unfold f_X10_faded at h
  obtain ⟨H, eH⟩ : ∃ H, H = s.heap := ⟨_, rfl⟩
  obtain ⟨locs, eL⟩ : ∃ locs : List Loc, locs = [] := ⟨_, rfl⟩
  refine u_start eH eL G ?_
  clear G eH eL
  intro G
  refine lv_iload_n hx hb dX10_faded_0 rfl (lv_at hl 1 rfl) ?_
  obtain ⟨r1, σ2, er1, h⟩ := ub_of h
  refine u_callSi (As := [.int v1]) (rest := []) C G (c_X10_isLine l D ad cs C.2.2.1 σ v1 r1 σ2 er1) (va_cwS 1 C.1.2.2.2.2 gX10_faded_X10_isLine rfl rfl rfl (by decide +kernel) ⟨Nat.le_of_ble_eq_true rfl, Nat.le_of_ble_eq_true rfl⟩) rfl hl rfl (Nat.le_of_ble_eq_true rfl) dX10_faded_1 (fun H locs G => ?_)
  refine lv_if_eq (tgt := 15) hx hb dX10_faded_4 (by decide) (fun q => ?_) (fun q => ?_)
  · have h := u_pos q h
    refine lv_iconst (v := (-1)) hx hb dX10_faded_15 (by decide) ?_
    obtain ⟨rfl, rfl⟩ := u_end h
    exact u_iret hx hb hr hlk G dX10_faded_16
  · have h := u_neg q h
    refine lv_aload_n hx hb dX10_faded_7 rfl (lv_at hl 0 rfl) ?_
    refine lv_iload_n hx hb dX10_faded_8 rfl (lv_at hl 1 rfl) ?_
    obtain ⟨r3, σ4, er3, h⟩ := ub_of h
    refine u_callVi (As := [.int v1]) (rest := []) C G (c_X10_fadedOf l D ad cs C.2.2.1 σ2 v1 r3 σ4 er3) (cwV 1 C.1.2.2.2.2 gX10_faded_X10_fadedOf rfl rfl rfl (by decide +kernel) ⟨Nat.le_of_ble_eq_true rfl, Nat.le_of_ble_eq_true rfl⟩) obM_0 (ci := 10) (T := TX10) rfl rfl hl rfl (Nat.le_of_ble_eq_true rfl) dX10_faded_9 (fun H locs G => ?_)
    refine lv_goto (tgt := 16) hx hb dX10_faded_12 (by decide) ?_
    obtain ⟨rfl, rfl⟩ := u_end h
    exact u_iret hx hb hr hlk G dX10_faded_16
/-! X10_tryTwo -/
def f_X10_tryTwo_59 (σ : St) (v2 : Int32) (v3 : Int32) (v4 : Int32) (v5 : Int32) (v6 : Int32) (v7 : Int32) (v8 : Int32) : Option (Unit × St) :=
  ul (us σ 0 24 v8) fun σ9 =>
  ul (us σ9 20 (0 : Int32).toNatClampNeg v2) fun σ10 =>
  ul (us σ10 20 (1 : Int32).toNatClampNeg v3) fun σ11 =>
  ul (us σ11 20 (2 : Int32).toNatClampNeg v4) fun σ12 =>
  ul (us σ12 20 (3 : Int32).toNatClampNeg v5) fun σ13 =>
  ul (us σ13 20 (4 : Int32).toNatClampNeg v6) fun σ14 =>
  ul (us σ14 20 (5 : Int32).toNatClampNeg v7) fun σ15 =>
  some ((), σ15)
def f_X10_tryTwo (σ : St) (v1 : Int32) (v2 : Int32) (v3 : Int32) (v4 : Int32) (v5 : Int32) (v6 : Int32) (v7 : Int32) : Option (Unit × St) :=
  ui v1 4 <|
  ul (us σ 16 v1.toNatClampNeg 0) fun σ2 =>
  ub (f_X10_lays σ2 v1 v2 v3 v4) fun r3 σ4 =>
  ub (f_X10_lays σ4 v1 v5 v6 v7) fun r5 σ6 =>
  ub (f_X10_fadedOf σ6 v1) fun r7 σ8 =>
  if r7 = (-9) then
    some ((), σ8)
  else
    if (σ8 0 24) = (-9) then
      f_X10_tryTwo_59 σ8 v2 v3 v4 v5 v6 v7 r7
    else
      if (σ8 0 24) ≤ r7 then
        some ((), σ8)
      else
        f_X10_tryTwo_59 σ8 v2 v3 v4 v5 v6 v7 r7
theorem fi_X10_tryTwo_10 : ∀ w ∈ u_ws RX10 TX10 44, w ∈ wsX10_tryTwo := by decide +kernel
set_option maxHeartbeats 4000000 in
set_option maxRecDepth 100000 in
theorem w_X10_tryTwo_59 {p : Program} {l : Launch} {e : Env} {s : State} {m : MethodId} {args : Array Value} {below : List Frame} {meth : Method} {c : Code} {D : va_G} {ad : Nat → Nat} {cs : Nat → ClassId} (C : uC p { frames := 3, cells := 0, slots := 0, locals := 74 } s m args c cX10_tryTwo 9 wsX10_tryTwo RX10 D vwCl (tyM cs) 34 ad (uAd 34 ad s.heap.size) 0 0) (hr : meth.sig.returnType = none) (hlk : meth.locks = false) {σ' : St} :
    ∀ (σ : St) (v2 : Int32) (v3 : Int32) (v4 : Int32) (v5 : Int32) (v6 : Int32) (v7 : Int32) (v8 : Int32), f_X10_tryTwo_59 σ v2 v3 v4 v5 v6 v7 v8 = some ((), σ') → ∀ (H : Heap) (locs : List Loc) (ls : Array Slot), uG D vwCl 34 ad (enM ad cs) (uAd 34 ad s.heap.size) s σ H locs → lv_has ls 9 [(0, .ref (ad 0)), (2, .int v2), (3, .int v3), (4, .int v4), (5, .int v5), (6, .int v6), (7, .int v7), (8, .int v8)] → W p l e { frames := 3, cells := 0, slots := 0, locals := 74 } s m args below meth c H locs 0 0 (MQ below (uQv D vwCl 34 ad (enM ad cs) σ' s.heap.size) args s 0 0 (uAd 34 ad s.heap.size)) (F0 m 59 ls []) := by
  have hx := C.1.1
  have hb := C.1.2.1
  intro σ v2 v3 v4 v5 v6 v7 v8  h H locs ls G hl
  unfold f_X10_tryTwo_59 at h
  refine lv_aload_n hx hb dX10_tryTwo_59 rfl (lv_at hl 0 rfl) ?_
  refine lv_iload hx hb dX10_tryTwo_60 (lv_at hl 7 rfl) ?_
  refine u_put (x := v8) (ty := .int) C G obM_0 (ci := 10) (N := 44) (Cn := RX10) (T := TX10) rfl fi_X10_tryTwo_10 tyX10 tyX10_ok nmX10 24 (by decide) (by decide +kernel) rfl (by decide +kernel) rfl rfl (fun f => by simp) (fun f => rfl) dX10_tryTwo_62 (fun H locs G => ?_)
  obtain ⟨σ9, eσ9, h⟩ := ul_of h
  replace G := uG_eq eσ9 G
  refine lv_aload_n hx hb dX10_tryTwo_65 rfl (lv_at hl 0 rfl) ?_
  refine u_get (v := .ref (ad 20)) C G obM_0 (ci := 10) (N := 44) (Cn := RX10) (T := TX10) rfl fi_X10_tryTwo_10 23 (by decide) (by decide +kernel) rfl dX10_tryTwo_66 ?_
  refine lv_iconst (v := 0) hx hb dX10_tryTwo_69 (by decide) ?_
  refine lv_iload_n hx hb dX10_tryTwo_70 rfl (lv_at hl 1 rfl) ?_
  refine u_iast C G arM_20 (t0 := 0) rfl (vp_lit (by decide)) dX10_tryTwo_71 (fun H locs G => ?_)
  obtain ⟨σ10, eσ10, h⟩ := ul_of h
  replace G := uG_eq eσ10 G
  refine lv_aload_n hx hb dX10_tryTwo_72 rfl (lv_at hl 0 rfl) ?_
  refine u_get (v := .ref (ad 20)) C G obM_0 (ci := 10) (N := 44) (Cn := RX10) (T := TX10) rfl fi_X10_tryTwo_10 23 (by decide) (by decide +kernel) rfl dX10_tryTwo_73 ?_
  refine lv_iconst (v := 1) hx hb dX10_tryTwo_76 (by decide) ?_
  refine lv_iload_n hx hb dX10_tryTwo_77 rfl (lv_at hl 2 rfl) ?_
  refine u_iast C G arM_20 (t0 := 0) rfl (vp_lit (by decide)) dX10_tryTwo_78 (fun H locs G => ?_)
  obtain ⟨σ11, eσ11, h⟩ := ul_of h
  replace G := uG_eq eσ11 G
  refine lv_aload_n hx hb dX10_tryTwo_79 rfl (lv_at hl 0 rfl) ?_
  refine u_get (v := .ref (ad 20)) C G obM_0 (ci := 10) (N := 44) (Cn := RX10) (T := TX10) rfl fi_X10_tryTwo_10 23 (by decide) (by decide +kernel) rfl dX10_tryTwo_80 ?_
  refine lv_iconst (v := 2) hx hb dX10_tryTwo_83 (by decide) ?_
  refine lv_iload hx hb dX10_tryTwo_84 (lv_at hl 3 rfl) ?_
  refine u_iast C G arM_20 (t0 := 0) rfl (vp_lit (by decide)) dX10_tryTwo_86 (fun H locs G => ?_)
  obtain ⟨σ12, eσ12, h⟩ := ul_of h
  replace G := uG_eq eσ12 G
  refine lv_aload_n hx hb dX10_tryTwo_87 rfl (lv_at hl 0 rfl) ?_
  refine u_get (v := .ref (ad 20)) C G obM_0 (ci := 10) (N := 44) (Cn := RX10) (T := TX10) rfl fi_X10_tryTwo_10 23 (by decide) (by decide +kernel) rfl dX10_tryTwo_88 ?_
  refine lv_iconst (v := 3) hx hb dX10_tryTwo_91 (by decide) ?_
  refine lv_iload hx hb dX10_tryTwo_92 (lv_at hl 4 rfl) ?_
  refine u_iast C G arM_20 (t0 := 0) rfl (vp_lit (by decide)) dX10_tryTwo_94 (fun H locs G => ?_)
  obtain ⟨σ13, eσ13, h⟩ := ul_of h
  replace G := uG_eq eσ13 G
  refine lv_aload_n hx hb dX10_tryTwo_95 rfl (lv_at hl 0 rfl) ?_
  refine u_get (v := .ref (ad 20)) C G obM_0 (ci := 10) (N := 44) (Cn := RX10) (T := TX10) rfl fi_X10_tryTwo_10 23 (by decide) (by decide +kernel) rfl dX10_tryTwo_96 ?_
  refine lv_iconst (v := 4) hx hb dX10_tryTwo_99 (by decide) ?_
  refine lv_iload hx hb dX10_tryTwo_100 (lv_at hl 5 rfl) ?_
  refine u_iast C G arM_20 (t0 := 0) rfl (vp_lit (by decide)) dX10_tryTwo_102 (fun H locs G => ?_)
  obtain ⟨σ14, eσ14, h⟩ := ul_of h
  replace G := uG_eq eσ14 G
  refine lv_aload_n hx hb dX10_tryTwo_103 rfl (lv_at hl 0 rfl) ?_
  refine u_get (v := .ref (ad 20)) C G obM_0 (ci := 10) (N := 44) (Cn := RX10) (T := TX10) rfl fi_X10_tryTwo_10 23 (by decide) (by decide +kernel) rfl dX10_tryTwo_104 ?_
  refine lv_iconst (v := 5) hx hb dX10_tryTwo_107 (by decide) ?_
  refine lv_iload hx hb dX10_tryTwo_108 (lv_at hl 6 rfl) ?_
  refine u_iast C G arM_20 (t0 := 0) rfl (vp_lit (by decide)) dX10_tryTwo_110 (fun H locs G => ?_)
  obtain ⟨σ15, eσ15, h⟩ := ul_of h
  replace G := uG_eq eσ15 G
  obtain ⟨-, rfl⟩ := u_end h
  exact u_vret hx hb hr hlk G dX10_tryTwo_111
set_option maxHeartbeats 4000000 in
set_option maxRecDepth 100000 in
theorem c_X10_tryTwo (l : Launch) (D : va_G) (ad : Nat → Nat) (cs : Nat → ClassId) (J : uJ 34 ad) (σ : St) (v1 : Int32) (v2 : Int32) (v3 : Int32) (v4 : Int32) (v5 : Int32) (v6 : Int32) (v7 : Int32) (r : Unit) (σ' : St) (h : f_X10_tryTwo σ v1 v2 v3 v4 v5 v6 v7 = some (r, σ')) : uMv l yX10_tryTwo wsX10_tryTwo { frames := 3, cells := 0, slots := 0, locals := 74 } D vwCl (tyM cs) 34 ad (enM ad cs) [.ref (ad 0), .int v1, .int v2, .int v3, .int v4, .int v5, .int v6, .int v7] σ σ' := by
  refine u_met (Qf := uQv D vwCl 34 ad (enM ad cs) σ') (cc := cX10_tryTwo) (maxL := 9) (ret := none) (lv := [(0, .ref (ad 0)), (1, .int v1), (2, .int v2), (3, .int v3), (4, .int v4), (5, .int v5), (6, .int v6), (7, .int v7)]) J (by decide) rfl (Nat.le_of_ble_eq_true rfl) rfl rfl rfl ?_
  intro p e s m args below meth c ls hx hb C hr hlk G hl
  unfold f_X10_tryTwo at h
  obtain ⟨H, eH⟩ : ∃ H, H = s.heap := ⟨_, rfl⟩
  obtain ⟨locs, eL⟩ : ∃ locs : List Loc, locs = [] := ⟨_, rfl⟩
  refine u_start eH eL G ?_
  clear G eH eL
  intro G
  refine lv_aload_n hx hb dX10_tryTwo_0 rfl (lv_at hl 0 rfl) ?_
  refine u_get (v := .ref (ad 16)) C G obM_0 (ci := 10) (N := 44) (Cn := RX10) (T := TX10) rfl fi_X10_tryTwo_10 19 (by decide) (by decide +kernel) rfl dX10_tryTwo_1 ?_
  refine lv_iload_n hx hb dX10_tryTwo_4 rfl (lv_at hl 1 rfl) ?_
  refine lv_iconst (v := 0) hx hb dX10_tryTwo_5 (by decide) ?_
  obtain ⟨g1, h⟩ := ui_of h
  refine u_iast C G arM_16 (t0 := 0) rfl g1 dX10_tryTwo_6 (fun H locs G => ?_)
  obtain ⟨σ2, eσ2, h⟩ := ul_of h
  replace G := uG_eq eσ2 G
  refine lv_aload_n hx hb dX10_tryTwo_7 rfl (lv_at hl 0 rfl) ?_
  refine lv_iload_n hx hb dX10_tryTwo_8 rfl (lv_at hl 1 rfl) ?_
  refine lv_iload_n hx hb dX10_tryTwo_9 rfl (lv_at hl 2 rfl) ?_
  refine lv_iload_n hx hb dX10_tryTwo_10 rfl (lv_at hl 3 rfl) ?_
  refine lv_iload hx hb dX10_tryTwo_11 (lv_at hl 4 rfl) ?_
  obtain ⟨r3, σ4, er3, h⟩ := ub_of h
  refine u_callVv (As := [.int v1, .int v2, .int v3, .int v4]) (rest := []) C G (c_X10_lays l D ad cs C.2.2.1 σ2 v1 v2 v3 v4 r3 σ4 er3) (cwV 4 C.1.2.2.2.2 gX10_tryTwo_X10_lays rfl rfl rfl (by decide +kernel) ⟨Nat.le_of_ble_eq_true rfl, Nat.le_of_ble_eq_true rfl⟩) obM_0 (ci := 10) (T := TX10) rfl rfl hl rfl (Nat.le_of_ble_eq_true rfl) dX10_tryTwo_13 (fun H locs G => ?_)
  refine lv_aload_n hx hb dX10_tryTwo_16 rfl (lv_at hl 0 rfl) ?_
  refine lv_iload_n hx hb dX10_tryTwo_17 rfl (lv_at hl 1 rfl) ?_
  refine lv_iload hx hb dX10_tryTwo_18 (lv_at hl 5 rfl) ?_
  refine lv_iload hx hb dX10_tryTwo_20 (lv_at hl 6 rfl) ?_
  refine lv_iload hx hb dX10_tryTwo_22 (lv_at hl 7 rfl) ?_
  obtain ⟨r5, σ6, er5, h⟩ := ub_of h
  refine u_callVv (As := [.int v1, .int v5, .int v6, .int v7]) (rest := []) C G (c_X10_lays l D ad cs C.2.2.1 σ4 v1 v5 v6 v7 r5 σ6 er5) (cwV 4 C.1.2.2.2.2 gX10_tryTwo_X10_lays rfl rfl rfl (by decide +kernel) ⟨Nat.le_of_ble_eq_true rfl, Nat.le_of_ble_eq_true rfl⟩) obM_0 (ci := 10) (T := TX10) rfl rfl hl rfl (Nat.le_of_ble_eq_true rfl) dX10_tryTwo_24 (fun H locs G => ?_)
  refine lv_aload_n hx hb dX10_tryTwo_27 rfl (lv_at hl 0 rfl) ?_
  refine lv_iload_n hx hb dX10_tryTwo_28 rfl (lv_at hl 1 rfl) ?_
  obtain ⟨r7, σ8, er7, h⟩ := ub_of h
  refine u_callVi (As := [.int v1]) (rest := []) C G (c_X10_fadedOf l D ad cs C.2.2.1 σ6 v1 r7 σ8 er7) (cwV 1 C.1.2.2.2.2 gX10_tryTwo_X10_fadedOf rfl rfl rfl (by decide +kernel) ⟨Nat.le_of_ble_eq_true rfl, Nat.le_of_ble_eq_true rfl⟩) obM_0 (ci := 10) (T := TX10) rfl rfl hl rfl (Nat.le_of_ble_eq_true rfl) dX10_tryTwo_29 (fun H locs G => ?_)
  refine lv_istore (lv' := [(8, .int r7), (0, .ref (ad 0)), (1, .int v1), (2, .int v2), (3, .int v3), (4, .int v4), (5, .int v5), (6, .int v6), (7, .int v7)]) hx hb dX10_tryTwo_32 hl (by decide) rfl (fun ls hl => ?_)
  refine lv_iload hx hb dX10_tryTwo_34 (lv_at hl 0 rfl) ?_
  refine lv_bipush (v := (-9)) hx hb dX10_tryTwo_36 (by decide) ?_
  refine lv_icmp_eq (tgt := 111) hx hb dX10_tryTwo_38 (by decide) (fun q => ?_) (fun q => ?_)
  · have h := u_pos q h
    obtain ⟨-, rfl⟩ := u_end h
    exact u_vret hx hb hr hlk G dX10_tryTwo_111
  · have h := u_neg q h
    refine lv_aload_n hx hb dX10_tryTwo_41 rfl (lv_at hl 1 rfl) ?_
    refine u_get (v := .int (σ8 0 24)) C G obM_0 (ci := 10) (N := 44) (Cn := RX10) (T := TX10) rfl fi_X10_tryTwo_10 24 (by decide) (by decide +kernel) rfl dX10_tryTwo_42 ?_
    refine lv_bipush (v := (-9)) hx hb dX10_tryTwo_45 (by decide) ?_
    refine lv_icmp_eq (tgt := 59) hx hb dX10_tryTwo_47 (by decide) (fun q => ?_) (fun q => ?_)
    · have h := u_pos q h
      exact w_X10_tryTwo_59 C hr hlk σ8 v2 v3 v4 v5 v6 v7 r7 h H locs ls G (lv_sub hl [1, 3, 4, 5, 6, 7, 8, 0] rfl)
    · have h := u_neg q h
      refine lv_iload hx hb dX10_tryTwo_50 (lv_at hl 0 rfl) ?_
      refine lv_aload_n hx hb dX10_tryTwo_52 rfl (lv_at hl 1 rfl) ?_
      refine u_get (v := .int (σ8 0 24)) C G obM_0 (ci := 10) (N := 44) (Cn := RX10) (T := TX10) rfl fi_X10_tryTwo_10 24 (by decide) (by decide +kernel) rfl dX10_tryTwo_53 ?_
      refine lv_icmp_ge (tgt := 111) hx hb dX10_tryTwo_56 (by decide) (fun q => ?_) (fun q => ?_)
      · have h := u_pos q h
        obtain ⟨-, rfl⟩ := u_end h
        exact u_vret hx hb hr hlk G dX10_tryTwo_111
      · have h := u_neg q h
        exact w_X10_tryTwo_59 C hr hlk σ8 v2 v3 v4 v5 v6 v7 r7 h H locs ls G (lv_sub hl [1, 3, 4, 5, 6, 7, 8, 0] rfl)
/-! X10_keepLayers -/
def f_X10_keepLayers_2 : Nat → St → Int32 → Int32 → Int32 → Option (Unit × St)
  | 0, _, _, _, _ => none
  | fuel + 1, σ, v1, v2, v3 =>
    if 3 ≤ v3 then
      if v2 = 0 then
        ui v1 4 <|
        ul (us σ 21 (9 : Int32).toNatClampNeg (σ 16 v1.toNatClampNeg)) fun σ2 =>
        some ((), σ2)
      else
        ui v1 4 <|
        ul (us σ 16 v1.toNatClampNeg (σ 21 (9 : Int32).toNatClampNeg)) fun σ4 =>
        some ((), σ4)
    else
      ul ((3 * v1) + v3) fun x5 =>
      if v2 = 0 then
        ui x5 12 <|
        ui (3 * v3) 10 <|
        ul (us σ 21 (3 * v3).toNatClampNeg (σ 17 x5.toNatClampNeg)) fun σ8 =>
        ui x5 12 <|
        ui ((3 * v3) + 1) 10 <|
        ul (us σ8 21 ((3 * v3) + 1).toNatClampNeg (σ8 18 x5.toNatClampNeg)) fun σ11 =>
        ui x5 12 <|
        ui ((3 * v3) + 2) 10 <|
        ul (us σ11 21 ((3 * v3) + 2).toNatClampNeg (σ11 19 x5.toNatClampNeg)) fun σ14 =>
        ul (v3 + 1) fun x15 =>
        f_X10_keepLayers_2 fuel σ14 v1 v2 x15
      else
        ui (3 * v3) 10 <|
        ui x5 12 <|
        ul (us σ 17 x5.toNatClampNeg (σ 21 (3 * v3).toNatClampNeg)) fun σ18 =>
        ui ((3 * v3) + 1) 10 <|
        ui x5 12 <|
        ul (us σ18 18 x5.toNatClampNeg (σ18 21 ((3 * v3) + 1).toNatClampNeg)) fun σ21 =>
        ui ((3 * v3) + 2) 10 <|
        ui x5 12 <|
        ul (us σ21 19 x5.toNatClampNeg (σ21 21 ((3 * v3) + 2).toNatClampNeg)) fun σ24 =>
        ul (v3 + 1) fun x25 =>
        f_X10_keepLayers_2 fuel σ24 v1 v2 x25
def f_X10_keepLayers (σ : St) (v1 : Int32) (v2 : Int32) : Option (Unit × St) :=
  f_X10_keepLayers_2 fu σ v1 v2 0
theorem fi_X10_keepLayers_10 : ∀ w ∈ u_ws RX10 TX10 44, w ∈ wsX10_keepLayers := by decide +kernel
set_option maxHeartbeats 4000000 in
set_option maxRecDepth 100000 in
theorem w_X10_keepLayers_2 {p : Program} {l : Launch} {e : Env} {s : State} {m : MethodId} {args : Array Value} {below : List Frame} {meth : Method} {c : Code} {D : va_G} {ad : Nat → Nat} {cs : Nat → ClassId} (C : uC p { frames := 0, cells := 0, slots := 0, locals := 0 } s m args c cX10_keepLayers 5 wsX10_keepLayers RX10 D vwCl (tyM cs) 34 ad (uAd 34 ad s.heap.size) 0 0) (hr : meth.sig.returnType = none) (hlk : meth.locks = false) {σ' : St} :
    ∀ (n : Nat) (σ : St) (v1 : Int32) (v2 : Int32) (v3 : Int32), f_X10_keepLayers_2 n σ v1 v2 v3 = some ((), σ') → ∀ (H : Heap) (locs : List Loc) (ls : Array Slot), uG D vwCl 34 ad (enM ad cs) (uAd 34 ad s.heap.size) s σ H locs → lv_has ls 5 [(0, .ref (ad 0)), (1, .int v1), (2, .int v2), (3, .int v3)] → W p l e { frames := 0, cells := 0, slots := 0, locals := 0 } s m args below meth c H locs 0 0 (MQ below (uQv D vwCl 34 ad (enM ad cs) σ' s.heap.size) args s 0 0 (uAd 34 ad s.heap.size)) (F0 m 2 ls []) := by
  have hx := C.1.1
  have hb := C.1.2.1
  intro n
  induction n with
  | zero => intro σ v1 v2 v3  h; exact absurd h (by simp [f_X10_keepLayers_2])
  | succ fuel ih =>
    intro σ v1 v2 v3  h H locs ls G hl
    rw [f_X10_keepLayers_2] at h
    refine lv_iload_n hx hb dX10_keepLayers_2 rfl (lv_at hl 3 rfl) ?_
    refine lv_iconst (v := 3) hx hb dX10_keepLayers_3 (by decide) ?_
    refine lv_icmp_ge (tgt := 125) hx hb dX10_keepLayers_4 (by decide) (fun q => ?_) (fun q => ?_)
    · have h := u_pos q h
      refine lv_iload_n hx hb dX10_keepLayers_125 rfl (lv_at hl 2 rfl) ?_
      refine lv_if_eq (tgt := 145) hx hb dX10_keepLayers_126 (by decide) (fun q => ?_) (fun q => ?_)
      · have h := u_pos q h
        refine lv_aload_n hx hb dX10_keepLayers_145 rfl (lv_at hl 0 rfl) ?_
        refine u_get (v := .ref (ad 21)) C G obM_0 (ci := 10) (N := 44) (Cn := RX10) (T := TX10) rfl fi_X10_keepLayers_10 25 (by decide) (by decide +kernel) rfl dX10_keepLayers_146 ?_
        refine lv_bipush (v := 9) hx hb dX10_keepLayers_149 (by decide) ?_
        refine lv_aload_n hx hb dX10_keepLayers_151 rfl (lv_at hl 0 rfl) ?_
        refine u_get (v := .ref (ad 16)) C G obM_0 (ci := 10) (N := 44) (Cn := RX10) (T := TX10) rfl fi_X10_keepLayers_10 19 (by decide) (by decide +kernel) rfl dX10_keepLayers_152 ?_
        refine lv_iload_n hx hb dX10_keepLayers_155 rfl (lv_at hl 1 rfl) ?_
        obtain ⟨g1, h⟩ := ui_of h
        refine u_iald C G arM_16 (t0 := 0) rfl g1 dX10_keepLayers_156 ?_
        refine u_iast C G arM_21 (t0 := 0) rfl (vp_lit (by decide)) dX10_keepLayers_157 (fun H locs G => ?_)
        obtain ⟨σ2, eσ2, h⟩ := ul_of h
        replace G := uG_eq eσ2 G
        obtain ⟨-, rfl⟩ := u_end h
        exact u_vret hx hb hr hlk G dX10_keepLayers_158
      · have h := u_neg q h
        refine lv_aload_n hx hb dX10_keepLayers_129 rfl (lv_at hl 0 rfl) ?_
        refine u_get (v := .ref (ad 16)) C G obM_0 (ci := 10) (N := 44) (Cn := RX10) (T := TX10) rfl fi_X10_keepLayers_10 19 (by decide) (by decide +kernel) rfl dX10_keepLayers_130 ?_
        refine lv_iload_n hx hb dX10_keepLayers_133 rfl (lv_at hl 1 rfl) ?_
        refine lv_aload_n hx hb dX10_keepLayers_134 rfl (lv_at hl 0 rfl) ?_
        refine u_get (v := .ref (ad 21)) C G obM_0 (ci := 10) (N := 44) (Cn := RX10) (T := TX10) rfl fi_X10_keepLayers_10 25 (by decide) (by decide +kernel) rfl dX10_keepLayers_135 ?_
        refine lv_bipush (v := 9) hx hb dX10_keepLayers_138 (by decide) ?_
        refine u_iald C G arM_21 (t0 := 0) rfl (vp_lit (by decide)) dX10_keepLayers_140 ?_
        obtain ⟨g3, h⟩ := ui_of h
        refine u_iast C G arM_16 (t0 := 0) rfl g3 dX10_keepLayers_141 (fun H locs G => ?_)
        obtain ⟨σ4, eσ4, h⟩ := ul_of h
        replace G := uG_eq eσ4 G
        refine lv_goto (tgt := 158) hx hb dX10_keepLayers_142 (by decide) ?_
        obtain ⟨-, rfl⟩ := u_end h
        exact u_vret hx hb hr hlk G dX10_keepLayers_158
    · have h := u_neg q h
      refine lv_iconst (v := 3) hx hb dX10_keepLayers_7 (by decide) ?_
      refine lv_iload_n hx hb dX10_keepLayers_8 rfl (lv_at hl 1 rfl) ?_
      refine lv_imul hx hb dX10_keepLayers_9 ?_
      refine lv_iload_n hx hb dX10_keepLayers_10 rfl (lv_at hl 3 rfl) ?_
      refine lv_iadd hx hb dX10_keepLayers_11 ?_
      obtain ⟨x5, ex5, h⟩ := ul_of h
      refine u_nmi ex5 ?_
      refine lv_istore (lv' := [(4, .int x5), (0, .ref (ad 0)), (1, .int v1), (2, .int v2), (3, .int v3)]) hx hb dX10_keepLayers_12 hl (by decide) rfl (fun ls hl => ?_)
      refine lv_iload_n hx hb dX10_keepLayers_14 rfl (lv_at hl 3 rfl) ?_
      refine lv_if_eq (tgt := 70) hx hb dX10_keepLayers_15 (by decide) (fun q => ?_) (fun q => ?_)
      · have h := u_pos q h
        refine lv_aload_n hx hb dX10_keepLayers_70 rfl (lv_at hl 1 rfl) ?_
        refine u_get (v := .ref (ad 21)) C G obM_0 (ci := 10) (N := 44) (Cn := RX10) (T := TX10) rfl fi_X10_keepLayers_10 25 (by decide) (by decide +kernel) rfl dX10_keepLayers_71 ?_
        refine lv_iconst (v := 3) hx hb dX10_keepLayers_74 (by decide) ?_
        refine lv_iload_n hx hb dX10_keepLayers_75 rfl (lv_at hl 4 rfl) ?_
        refine lv_imul hx hb dX10_keepLayers_76 ?_
        refine lv_aload_n hx hb dX10_keepLayers_77 rfl (lv_at hl 1 rfl) ?_
        refine u_get (v := .ref (ad 17)) C G obM_0 (ci := 10) (N := 44) (Cn := RX10) (T := TX10) rfl fi_X10_keepLayers_10 20 (by decide) (by decide +kernel) rfl dX10_keepLayers_78 ?_
        refine lv_iload hx hb dX10_keepLayers_81 (lv_at hl 0 rfl) ?_
        obtain ⟨g6, h⟩ := ui_of h
        refine u_iald C G arM_17 (t0 := 0) rfl g6 dX10_keepLayers_83 ?_
        obtain ⟨g7, h⟩ := ui_of h
        refine u_iast C G arM_21 (t0 := 0) rfl g7 dX10_keepLayers_84 (fun H locs G => ?_)
        obtain ⟨σ8, eσ8, h⟩ := ul_of h
        replace G := uG_eq eσ8 G
        refine lv_aload_n hx hb dX10_keepLayers_85 rfl (lv_at hl 1 rfl) ?_
        refine u_get (v := .ref (ad 21)) C G obM_0 (ci := 10) (N := 44) (Cn := RX10) (T := TX10) rfl fi_X10_keepLayers_10 25 (by decide) (by decide +kernel) rfl dX10_keepLayers_86 ?_
        refine lv_iconst (v := 3) hx hb dX10_keepLayers_89 (by decide) ?_
        refine lv_iload_n hx hb dX10_keepLayers_90 rfl (lv_at hl 4 rfl) ?_
        refine lv_imul hx hb dX10_keepLayers_91 ?_
        refine lv_iconst (v := 1) hx hb dX10_keepLayers_92 (by decide) ?_
        refine lv_iadd hx hb dX10_keepLayers_93 ?_
        refine lv_aload_n hx hb dX10_keepLayers_94 rfl (lv_at hl 1 rfl) ?_
        refine u_get (v := .ref (ad 18)) C G obM_0 (ci := 10) (N := 44) (Cn := RX10) (T := TX10) rfl fi_X10_keepLayers_10 21 (by decide) (by decide +kernel) rfl dX10_keepLayers_95 ?_
        refine lv_iload hx hb dX10_keepLayers_98 (lv_at hl 0 rfl) ?_
        obtain ⟨g9, h⟩ := ui_of h
        refine u_iald C G arM_18 (t0 := 0) rfl g9 dX10_keepLayers_100 ?_
        obtain ⟨g10, h⟩ := ui_of h
        refine u_iast C G arM_21 (t0 := 0) rfl g10 dX10_keepLayers_101 (fun H locs G => ?_)
        obtain ⟨σ11, eσ11, h⟩ := ul_of h
        replace G := uG_eq eσ11 G
        refine lv_aload_n hx hb dX10_keepLayers_102 rfl (lv_at hl 1 rfl) ?_
        refine u_get (v := .ref (ad 21)) C G obM_0 (ci := 10) (N := 44) (Cn := RX10) (T := TX10) rfl fi_X10_keepLayers_10 25 (by decide) (by decide +kernel) rfl dX10_keepLayers_103 ?_
        refine lv_iconst (v := 3) hx hb dX10_keepLayers_106 (by decide) ?_
        refine lv_iload_n hx hb dX10_keepLayers_107 rfl (lv_at hl 4 rfl) ?_
        refine lv_imul hx hb dX10_keepLayers_108 ?_
        refine lv_iconst (v := 2) hx hb dX10_keepLayers_109 (by decide) ?_
        refine lv_iadd hx hb dX10_keepLayers_110 ?_
        refine lv_aload_n hx hb dX10_keepLayers_111 rfl (lv_at hl 1 rfl) ?_
        refine u_get (v := .ref (ad 19)) C G obM_0 (ci := 10) (N := 44) (Cn := RX10) (T := TX10) rfl fi_X10_keepLayers_10 22 (by decide) (by decide +kernel) rfl dX10_keepLayers_112 ?_
        refine lv_iload hx hb dX10_keepLayers_115 (lv_at hl 0 rfl) ?_
        obtain ⟨g12, h⟩ := ui_of h
        refine u_iald C G arM_19 (t0 := 0) rfl g12 dX10_keepLayers_117 ?_
        obtain ⟨g13, h⟩ := ui_of h
        refine u_iast C G arM_21 (t0 := 0) rfl g13 dX10_keepLayers_118 (fun H locs G => ?_)
        obtain ⟨σ14, eσ14, h⟩ := ul_of h
        replace G := uG_eq eσ14 G
        obtain ⟨x15, ex15, h⟩ := ul_of h
        refine lv_iinc (v := x15) (lv' := [(3, .int x15), (4, .int x5), (0, .ref (ad 0)), (1, .int v1), (2, .int v2)]) hx hb dX10_keepLayers_119 hl (k := 4) rfl (by rw [ex15]; rfl) (by decide) rfl (fun ls hl => ?_)
        refine lv_goto (tgt := 2) hx hb dX10_keepLayers_122 (by decide) ?_
        exact ih σ14 v1 v2 x15 h H locs ls G (lv_sub hl [2, 3, 4, 0] rfl)
      · have h := u_neg q h
        refine lv_aload_n hx hb dX10_keepLayers_18 rfl (lv_at hl 1 rfl) ?_
        refine u_get (v := .ref (ad 17)) C G obM_0 (ci := 10) (N := 44) (Cn := RX10) (T := TX10) rfl fi_X10_keepLayers_10 20 (by decide) (by decide +kernel) rfl dX10_keepLayers_19 ?_
        refine lv_iload hx hb dX10_keepLayers_22 (lv_at hl 0 rfl) ?_
        refine lv_aload_n hx hb dX10_keepLayers_24 rfl (lv_at hl 1 rfl) ?_
        refine u_get (v := .ref (ad 21)) C G obM_0 (ci := 10) (N := 44) (Cn := RX10) (T := TX10) rfl fi_X10_keepLayers_10 25 (by decide) (by decide +kernel) rfl dX10_keepLayers_25 ?_
        refine lv_iconst (v := 3) hx hb dX10_keepLayers_28 (by decide) ?_
        refine lv_iload_n hx hb dX10_keepLayers_29 rfl (lv_at hl 4 rfl) ?_
        refine lv_imul hx hb dX10_keepLayers_30 ?_
        obtain ⟨g16, h⟩ := ui_of h
        refine u_iald C G arM_21 (t0 := 0) rfl g16 dX10_keepLayers_31 ?_
        obtain ⟨g17, h⟩ := ui_of h
        refine u_iast C G arM_17 (t0 := 0) rfl g17 dX10_keepLayers_32 (fun H locs G => ?_)
        obtain ⟨σ18, eσ18, h⟩ := ul_of h
        replace G := uG_eq eσ18 G
        refine lv_aload_n hx hb dX10_keepLayers_33 rfl (lv_at hl 1 rfl) ?_
        refine u_get (v := .ref (ad 18)) C G obM_0 (ci := 10) (N := 44) (Cn := RX10) (T := TX10) rfl fi_X10_keepLayers_10 21 (by decide) (by decide +kernel) rfl dX10_keepLayers_34 ?_
        refine lv_iload hx hb dX10_keepLayers_37 (lv_at hl 0 rfl) ?_
        refine lv_aload_n hx hb dX10_keepLayers_39 rfl (lv_at hl 1 rfl) ?_
        refine u_get (v := .ref (ad 21)) C G obM_0 (ci := 10) (N := 44) (Cn := RX10) (T := TX10) rfl fi_X10_keepLayers_10 25 (by decide) (by decide +kernel) rfl dX10_keepLayers_40 ?_
        refine lv_iconst (v := 3) hx hb dX10_keepLayers_43 (by decide) ?_
        refine lv_iload_n hx hb dX10_keepLayers_44 rfl (lv_at hl 4 rfl) ?_
        refine lv_imul hx hb dX10_keepLayers_45 ?_
        refine lv_iconst (v := 1) hx hb dX10_keepLayers_46 (by decide) ?_
        refine lv_iadd hx hb dX10_keepLayers_47 ?_
        obtain ⟨g19, h⟩ := ui_of h
        refine u_iald C G arM_21 (t0 := 0) rfl g19 dX10_keepLayers_48 ?_
        obtain ⟨g20, h⟩ := ui_of h
        refine u_iast C G arM_18 (t0 := 0) rfl g20 dX10_keepLayers_49 (fun H locs G => ?_)
        obtain ⟨σ21, eσ21, h⟩ := ul_of h
        replace G := uG_eq eσ21 G
        refine lv_aload_n hx hb dX10_keepLayers_50 rfl (lv_at hl 1 rfl) ?_
        refine u_get (v := .ref (ad 19)) C G obM_0 (ci := 10) (N := 44) (Cn := RX10) (T := TX10) rfl fi_X10_keepLayers_10 22 (by decide) (by decide +kernel) rfl dX10_keepLayers_51 ?_
        refine lv_iload hx hb dX10_keepLayers_54 (lv_at hl 0 rfl) ?_
        refine lv_aload_n hx hb dX10_keepLayers_56 rfl (lv_at hl 1 rfl) ?_
        refine u_get (v := .ref (ad 21)) C G obM_0 (ci := 10) (N := 44) (Cn := RX10) (T := TX10) rfl fi_X10_keepLayers_10 25 (by decide) (by decide +kernel) rfl dX10_keepLayers_57 ?_
        refine lv_iconst (v := 3) hx hb dX10_keepLayers_60 (by decide) ?_
        refine lv_iload_n hx hb dX10_keepLayers_61 rfl (lv_at hl 4 rfl) ?_
        refine lv_imul hx hb dX10_keepLayers_62 ?_
        refine lv_iconst (v := 2) hx hb dX10_keepLayers_63 (by decide) ?_
        refine lv_iadd hx hb dX10_keepLayers_64 ?_
        obtain ⟨g22, h⟩ := ui_of h
        refine u_iald C G arM_21 (t0 := 0) rfl g22 dX10_keepLayers_65 ?_
        obtain ⟨g23, h⟩ := ui_of h
        refine u_iast C G arM_19 (t0 := 0) rfl g23 dX10_keepLayers_66 (fun H locs G => ?_)
        obtain ⟨σ24, eσ24, h⟩ := ul_of h
        replace G := uG_eq eσ24 G
        refine lv_goto (tgt := 119) hx hb dX10_keepLayers_67 (by decide) ?_
        obtain ⟨x25, ex25, h⟩ := ul_of h
        refine lv_iinc (v := x25) (lv' := [(3, .int x25), (4, .int x5), (0, .ref (ad 0)), (1, .int v1), (2, .int v2)]) hx hb dX10_keepLayers_119 hl (k := 4) rfl (by rw [ex25]; rfl) (by decide) rfl (fun ls hl => ?_)
        refine lv_goto (tgt := 2) hx hb dX10_keepLayers_122 (by decide) ?_
        exact ih σ24 v1 v2 x25 h H locs ls G (lv_sub hl [2, 3, 4, 0] rfl)
set_option maxHeartbeats 4000000 in
set_option maxRecDepth 100000 in
theorem c_X10_keepLayers (l : Launch) (D : va_G) (ad : Nat → Nat) (cs : Nat → ClassId) (J : uJ 34 ad) (σ : St) (v1 : Int32) (v2 : Int32) (r : Unit) (σ' : St) (h : f_X10_keepLayers σ v1 v2 = some (r, σ')) : uMv l yX10_keepLayers wsX10_keepLayers { frames := 0, cells := 0, slots := 0, locals := 0 } D vwCl (tyM cs) 34 ad (enM ad cs) [.ref (ad 0), .int v1, .int v2] σ σ' := by
  refine u_met (Qf := uQv D vwCl 34 ad (enM ad cs) σ') (cc := cX10_keepLayers) (maxL := 5) (ret := none) (lv := [(0, .ref (ad 0)), (1, .int v1), (2, .int v2)]) J (by decide) rfl (Nat.le_of_ble_eq_true rfl) rfl rfl rfl ?_
  intro p e s m args below meth c ls hx hb C hr hlk G hl
  unfold f_X10_keepLayers at h
  obtain ⟨H, eH⟩ : ∃ H, H = s.heap := ⟨_, rfl⟩
  obtain ⟨locs, eL⟩ : ∃ locs : List Loc, locs = [] := ⟨_, rfl⟩
  refine u_start eH eL G ?_
  clear G eH eL
  intro G
  refine lv_iconst (v := 0) hx hb dX10_keepLayers_0 (by decide) ?_
  refine lv_istore_n (lv' := [(3, .int 0), (0, .ref (ad 0)), (1, .int v1), (2, .int v2)]) hx hb dX10_keepLayers_1 rfl hl (by decide) rfl (fun ls hl => ?_)
  exact w_X10_keepLayers_2 C hr hlk fu σ v1 v2 0 h H locs ls G (lv_sub hl [1, 2, 3, 0] rfl)
/-! X10_can -/
def f_X10_can (σ : St) (v1 : Int32) (v2 : Int32) (v3 : Int32) : Option (Int32 × St) :=
  ul (v2 / 10) fun x1 =>
  ui x1 16 <|
  if (σ 9 x1.toNatClampNeg) = 0 then
    ub (f_X10_isOn σ x1 (v2 - v2 / 10 * 10)) fun r3 σ4 =>
    if r3 = 0 then
      some ((0 : Int32), σ4)
    else
      ub (f_X10_lackOf σ4 v1 x1 (v2 - v2 / 10 * 10) v3) fun r5 σ6 =>
      if r5 = (-9) then
        some ((0 : Int32), σ6)
      else
        some ((1 : Int32), σ6)
  else
    some ((0 : Int32), σ)
theorem fi_X10_can_10 : ∀ w ∈ u_ws RX10 TX10 44, w ∈ wsX10_can := by decide +kernel
set_option maxHeartbeats 4000000 in
set_option maxRecDepth 100000 in
theorem c_X10_can (l : Launch) (D : va_G) (ad : Nat → Nat) (cs : Nat → ClassId) (J : uJ 34 ad) (σ : St) (v1 : Int32) (v2 : Int32) (v3 : Int32) (r : Int32) (σ' : St) (h : f_X10_can σ v1 v2 v3 = some (r, σ')) : uMi l yX10_can wsX10_can { frames := 3, cells := 0, slots := 0, locals := 74 } D vwCl (tyM cs) 34 ad (enM ad cs) [.ref (ad 0), .int v1, .int v2, .int v3] σ r σ' := by
  refine u_met (Qf := uQi D vwCl 34 ad (enM ad cs) r σ') (cc := cX10_can) (maxL := 5) (ret := (some .boolean)) (lv := [(0, .ref (ad 0)), (1, .int v1), (2, .int v2), (3, .int v3)]) J (by decide) rfl (Nat.le_of_ble_eq_true rfl) rfl rfl rfl ?_
  intro p e s m args below meth c ls hx hb C hr hlk G hl
  unfold f_X10_can at h
  obtain ⟨H, eH⟩ : ∃ H, H = s.heap := ⟨_, rfl⟩
  obtain ⟨locs, eL⟩ : ∃ locs : List Loc, locs = [] := ⟨_, rfl⟩
  refine u_start eH eL G ?_
  clear G eH eL
  intro G
  refine lv_iload_n hx hb dX10_can_0 rfl (lv_at hl 2 rfl) ?_
  refine lv_bipush (v := 10) hx hb dX10_can_1 (by decide) ?_
  refine lv_idiv hx hb dX10_can_3 (by decide) ?_
  obtain ⟨x1, ex1, h⟩ := ul_of h
  refine u_nmi ex1 ?_
  refine lv_istore (lv' := [(4, .int x1), (0, .ref (ad 0)), (1, .int v1), (2, .int v2), (3, .int v3)]) hx hb dX10_can_4 hl (by decide) rfl (fun ls hl => ?_)
  refine lv_aload_n hx hb dX10_can_6 rfl (lv_at hl 1 rfl) ?_
  refine u_get (v := .ref (ad 9)) C G obM_0 (ci := 10) (N := 44) (Cn := RX10) (T := TX10) rfl fi_X10_can_10 11 (by decide) (by decide +kernel) rfl dX10_can_7 ?_
  refine lv_iload hx hb dX10_can_10 (lv_at hl 0 rfl) ?_
  obtain ⟨g2, h⟩ := ui_of h
  refine u_zald C G arM_9 (t0 := 2) rfl g2 dX10_can_12 ?_
  refine lv_if_ne (tgt := 50) hx hb dX10_can_13 (by decide) (fun q => ?_) (fun q => ?_)
  · have h := u_neg q h
    refine lv_iconst (v := 0) hx hb dX10_can_50 (by decide) ?_
    obtain ⟨rfl, rfl⟩ := u_end h
    exact u_zret hx hb hr hlk G (by decide) dX10_can_51
  · have h := u_pos q h
    refine lv_aload_n hx hb dX10_can_16 rfl (lv_at hl 1 rfl) ?_
    refine lv_iload hx hb dX10_can_17 (lv_at hl 0 rfl) ?_
    refine lv_iload_n hx hb dX10_can_19 rfl (lv_at hl 3 rfl) ?_
    refine lv_bipush (v := 10) hx hb dX10_can_20 (by decide) ?_
    refine lv_irem hx hb dX10_can_22 (by decide) ?_
    obtain ⟨r3, σ4, er3, h⟩ := ub_of h
    refine u_callVi (As := [.int x1, .int (v2 - v2 / 10 * 10)]) (rest := []) C G (c_X10_isOn l D ad cs C.2.2.1 σ x1 (v2 - v2 / 10 * 10) r3 σ4 er3) (cwV 2 C.1.2.2.2.2 gX10_can_X10_isOn rfl rfl rfl (by decide +kernel) ⟨Nat.le_of_ble_eq_true rfl, Nat.le_of_ble_eq_true rfl⟩) obM_0 (ci := 10) (T := TX10) rfl rfl hl rfl (Nat.le_of_ble_eq_true rfl) dX10_can_23 (fun H locs G => ?_)
    refine lv_if_eq (tgt := 50) hx hb dX10_can_26 (by decide) (fun q => ?_) (fun q => ?_)
    · have h := u_pos q h
      refine lv_iconst (v := 0) hx hb dX10_can_50 (by decide) ?_
      obtain ⟨rfl, rfl⟩ := u_end h
      exact u_zret hx hb hr hlk G (by decide) dX10_can_51
    · have h := u_neg q h
      refine lv_aload_n hx hb dX10_can_29 rfl (lv_at hl 1 rfl) ?_
      refine lv_iload_n hx hb dX10_can_30 rfl (lv_at hl 2 rfl) ?_
      refine lv_iload hx hb dX10_can_31 (lv_at hl 0 rfl) ?_
      refine lv_iload_n hx hb dX10_can_33 rfl (lv_at hl 3 rfl) ?_
      refine lv_bipush (v := 10) hx hb dX10_can_34 (by decide) ?_
      refine lv_irem hx hb dX10_can_36 (by decide) ?_
      refine lv_iload_n hx hb dX10_can_37 rfl (lv_at hl 4 rfl) ?_
      obtain ⟨r5, σ6, er5, h⟩ := ub_of h
      refine u_callVi (As := [.int v1, .int x1, .int (v2 - v2 / 10 * 10), .int v3]) (rest := []) C G (c_X10_lackOf l D ad cs C.2.2.1 σ4 v1 x1 (v2 - v2 / 10 * 10) v3 r5 σ6 er5) (cwV 4 C.1.2.2.2.2 gX10_can_X10_lackOf rfl rfl rfl (by decide +kernel) ⟨Nat.le_of_ble_eq_true rfl, Nat.le_of_ble_eq_true rfl⟩) obM_0 (ci := 10) (T := TX10) rfl rfl hl rfl (Nat.le_of_ble_eq_true rfl) dX10_can_38 (fun H locs G => ?_)
      refine lv_bipush (v := (-9)) hx hb dX10_can_41 (by decide) ?_
      refine lv_icmp_eq (tgt := 50) hx hb dX10_can_43 (by decide) (fun q => ?_) (fun q => ?_)
      · have h := u_pos q h
        refine lv_iconst (v := 0) hx hb dX10_can_50 (by decide) ?_
        obtain ⟨rfl, rfl⟩ := u_end h
        exact u_zret hx hb hr hlk G (by decide) dX10_can_51
      · have h := u_neg q h
        refine lv_iconst (v := 1) hx hb dX10_can_46 (by decide) ?_
        refine lv_goto (tgt := 51) hx hb dX10_can_47 (by decide) ?_
        obtain ⟨rfl, rfl⟩ := u_end h
        exact u_zret hx hb hr hlk G (by decide) dX10_can_51
