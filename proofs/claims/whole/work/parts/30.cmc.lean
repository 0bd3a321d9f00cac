/-! X10_mean -/
def f_X10_mean_6 : Nat → St → Int32 → Int32 → Int32 → Option (Int32 × St)
  | 0, _, _, _, _ => none
  | fuel + 1, σ, v1, v2, v3 =>
    if (σ 0 7) ≤ v3 then
      if v1 = 0 then
        ub (f_X10_meets σ (4 : Int32)) fun r1 σ2 =>
        some (r1, σ2)
      else
        ug (decide (¬ v1 = 0)) <|
        some ((v2 / v1), σ)
    else
      ui v3 16 <|
      if (σ 9 v3.toNatClampNeg) = 0 then
        ul (v1 + 1) fun x4 =>
        ui v3 16 <|
        if (σ 9 v3.toNatClampNeg) = 0 then
          ui v3 16 <|
          ul (v2 + (σ 7 v3.toNatClampNeg)) fun x7 =>
          ul (v3 + 1) fun x8 =>
          f_X10_mean_6 fuel σ x4 x7 x8
        else
          ul (v2 + 0) fun x9 =>
          ul (v3 + 1) fun x10 =>
          f_X10_mean_6 fuel σ x4 x9 x10
      else
        ul (v1 + 0) fun x11 =>
        ui v3 16 <|
        if (σ 9 v3.toNatClampNeg) = 0 then
          ui v3 16 <|
          ul (v2 + (σ 7 v3.toNatClampNeg)) fun x14 =>
          ul (v3 + 1) fun x15 =>
          f_X10_mean_6 fuel σ x11 x14 x15
        else
          ul (v2 + 0) fun x16 =>
          ul (v3 + 1) fun x17 =>
          f_X10_mean_6 fuel σ x11 x16 x17
def f_X10_mean (σ : St) : Option (Int32 × St) :=
  f_X10_mean_6 fu σ 0 0 0
theorem fi_X10_mean_10 : ∀ w ∈ u_ws RX10 TX10 44, w ∈ wsX10_mean := by decide +kernel
set_option maxHeartbeats 4000000 in
set_option maxRecDepth 100000 in
theorem w_X10_mean_6 {p : Program} {l : Launch} {e : Env} {s : State} {m : MethodId} {args : Array Value} {below : List Frame} {meth : Method} {c : Code} {D : va_G} {ad : Nat → Nat} {cs : Nat → ClassId} (C : uC p { frames := 1, cells := 0, slots := 0, locals := 21 } s m args c cX10_mean 4 wsX10_mean RX10 D vwCl (tyM cs) 34 ad (uAd 34 ad s.heap.size) 0 0) (hr : meth.sig.returnType = (some .int)) (hlk : meth.locks = false) {r : Int32} {σ' : St} :
    ∀ (n : Nat) (σ : St) (v1 : Int32) (v2 : Int32) (v3 : Int32), f_X10_mean_6 n σ v1 v2 v3 = some (r, σ') → ∀ (H : Heap) (locs : List Loc) (ls : Array Slot), uG D vwCl 34 ad (enM ad cs) (uAd 34 ad s.heap.size) s σ H locs → lv_has ls 4 [(0, .ref (ad 0)), (1, .int v1), (2, .int v2), (3, .int v3)] → W p l e { frames := 1, cells := 0, slots := 0, locals := 21 } s m args below meth c H locs 0 0 (MQ below (uQi D vwCl 34 ad (enM ad cs) r σ' s.heap.size) args s 0 0 (uAd 34 ad s.heap.size)) (F0 m 6 ls []) := by
  have hx := C.1.1
  have hb := C.1.2.1
  intro n
  induction n with
  | zero => intro σ v1 v2 v3  h; exact absurd h (by simp [f_X10_mean_6])
  | succ fuel ih =>
    intro σ v1 v2 v3  h H locs ls G hl
    rw [f_X10_mean_6] at h
    refine lv_iload_n hx hb dX10_mean_6 rfl (lv_at hl 3 rfl) ?_
    refine lv_aload_n hx hb dX10_mean_7 rfl (lv_at hl 0 rfl) ?_
    refine u_get (v := .int (σ 0 7)) C G obM_0 (ci := 10) (N := 44) (Cn := RX10) (T := TX10) rfl fi_X10_mean_10 7 (by decide) (by decide +kernel) rfl dX10_mean_8 ?_
    refine lv_icmp_ge (tgt := 59) hx hb dX10_mean_11 (by decide) (fun q => ?_) (fun q => ?_)
    · have h := u_pos q h
      refine lv_iload_n hx hb dX10_mean_59 rfl (lv_at hl 1 rfl) ?_
      refine lv_if_ne (tgt := 71) hx hb dX10_mean_60 (by decide) (fun q => ?_) (fun q => ?_)
      · have h := u_neg q h
        refine lv_iload_n hx hb dX10_mean_71 rfl (lv_at hl 2 rfl) ?_
        refine lv_iload_n hx hb dX10_mean_72 rfl (lv_at hl 1 rfl) ?_
        obtain ⟨gz, h⟩ := ug_of h
        refine lv_idiv hx hb dX10_mean_73 (of_decide_eq_true gz) ?_
        obtain ⟨rfl, rfl⟩ := u_end h
        exact u_iret hx hb hr hlk G dX10_mean_74
      · have h := u_pos q h
        refine lv_aload_n hx hb dX10_mean_63 rfl (lv_at hl 0 rfl) ?_
        refine lv_iconst (v := 4) hx hb dX10_mean_64 (by decide) ?_
        obtain ⟨r1, σ2, er1, h⟩ := ub_of h
        refine u_callVi (As := [.int 4]) (rest := []) C G (c_X10_meets l D ad cs C.2.2.1 σ (4 : Int32) r1 σ2 er1) (cwV 1 C.1.2.2.2.2 gX10_mean_X10_meets rfl rfl rfl (by decide +kernel) ⟨Nat.le_of_ble_eq_true rfl, Nat.le_of_ble_eq_true rfl⟩) obM_0 (ci := 10) (T := TX10) rfl rfl hl rfl (Nat.le_of_ble_eq_true rfl) dX10_mean_65 (fun H locs G => ?_)
        refine lv_goto (tgt := 74) hx hb dX10_mean_68 (by decide) ?_
        obtain ⟨rfl, rfl⟩ := u_end h
        exact u_iret hx hb hr hlk G dX10_mean_74
    · have h := u_neg q h
      refine lv_iload_n hx hb dX10_mean_14 rfl (lv_at hl 1 rfl) ?_
      refine lv_aload_n hx hb dX10_mean_15 rfl (lv_at hl 0 rfl) ?_
      refine u_get (v := .ref (ad 9)) C G obM_0 (ci := 10) (N := 44) (Cn := RX10) (T := TX10) rfl fi_X10_mean_10 11 (by decide) (by decide +kernel) rfl dX10_mean_16 ?_
      refine lv_iload_n hx hb dX10_mean_19 rfl (lv_at hl 3 rfl) ?_
      obtain ⟨g3, h⟩ := ui_of h
      refine u_zald C G arM_9 (t0 := 2) rfl g3 dX10_mean_20 ?_
      refine lv_if_eq (tgt := 28) hx hb dX10_mean_21 (by decide) (fun q => ?_) (fun q => ?_)
      · have h := u_pos q h
        refine lv_iconst (v := 1) hx hb dX10_mean_28 (by decide) ?_
        refine lv_iadd hx hb dX10_mean_29 ?_
        obtain ⟨x4, ex4, h⟩ := ul_of h
        refine u_nmi ex4 ?_
        refine lv_istore_n (lv' := [(1, .int x4), (0, .ref (ad 0)), (2, .int v2), (3, .int v3)]) hx hb dX10_mean_30 rfl hl (by decide) rfl (fun ls hl => ?_)
        refine lv_iload_n hx hb dX10_mean_31 rfl (lv_at hl 2 rfl) ?_
        refine lv_aload_n hx hb dX10_mean_32 rfl (lv_at hl 1 rfl) ?_
        refine u_get (v := .ref (ad 9)) C G obM_0 (ci := 10) (N := 44) (Cn := RX10) (T := TX10) rfl fi_X10_mean_10 11 (by decide) (by decide +kernel) rfl dX10_mean_33 ?_
        refine lv_iload_n hx hb dX10_mean_36 rfl (lv_at hl 3 rfl) ?_
        obtain ⟨g5, h⟩ := ui_of h
        refine u_zald C G arM_9 (t0 := 2) rfl g5 dX10_mean_37 ?_
        refine lv_if_eq (tgt := 45) hx hb dX10_mean_38 (by decide) (fun q => ?_) (fun q => ?_)
        · have h := u_pos q h
          refine lv_aload_n hx hb dX10_mean_45 rfl (lv_at hl 1 rfl) ?_
          refine u_get (v := .ref (ad 7)) C G obM_0 (ci := 10) (N := 44) (Cn := RX10) (T := TX10) rfl fi_X10_mean_10 9 (by decide) (by decide +kernel) rfl dX10_mean_46 ?_
          refine lv_iload_n hx hb dX10_mean_49 rfl (lv_at hl 3 rfl) ?_
          obtain ⟨g6, h⟩ := ui_of h
          refine u_iald C G arM_7 (t0 := 0) rfl g6 dX10_mean_50 ?_
          refine lv_iadd hx hb dX10_mean_51 ?_
          obtain ⟨x7, ex7, h⟩ := ul_of h
          refine u_nmi ex7 ?_
          refine lv_istore_n (lv' := [(2, .int x7), (1, .int x4), (0, .ref (ad 0)), (3, .int v3)]) hx hb dX10_mean_52 rfl hl (by decide) rfl (fun ls hl => ?_)
          obtain ⟨x8, ex8, h⟩ := ul_of h
          refine lv_iinc (v := x8) (lv' := [(3, .int x8), (2, .int x7), (1, .int x4), (0, .ref (ad 0))]) hx hb dX10_mean_53 hl (k := 3) rfl (by rw [ex8]; rfl) (by decide) rfl (fun ls hl => ?_)
          refine lv_goto (tgt := 6) hx hb dX10_mean_56 (by decide) ?_
          exact ih σ x4 x7 x8 h H locs ls G (lv_sub hl [3, 2, 1, 0] rfl)
        · have h := u_neg q h
          refine lv_iconst (v := 0) hx hb dX10_mean_41 (by decide) ?_
          refine lv_goto (tgt := 51) hx hb dX10_mean_42 (by decide) ?_
          refine lv_iadd hx hb dX10_mean_51 ?_
          obtain ⟨x9, ex9, h⟩ := ul_of h
          refine u_nmi ex9 ?_
          refine lv_istore_n (lv' := [(2, .int x9), (1, .int x4), (0, .ref (ad 0)), (3, .int v3)]) hx hb dX10_mean_52 rfl hl (by decide) rfl (fun ls hl => ?_)
          obtain ⟨x10, ex10, h⟩ := ul_of h
          refine lv_iinc (v := x10) (lv' := [(3, .int x10), (2, .int x9), (1, .int x4), (0, .ref (ad 0))]) hx hb dX10_mean_53 hl (k := 3) rfl (by rw [ex10]; rfl) (by decide) rfl (fun ls hl => ?_)
          refine lv_goto (tgt := 6) hx hb dX10_mean_56 (by decide) ?_
          exact ih σ x4 x9 x10 h H locs ls G (lv_sub hl [3, 2, 1, 0] rfl)
      · have h := u_neg q h
        refine lv_iconst (v := 0) hx hb dX10_mean_24 (by decide) ?_
        refine lv_goto (tgt := 29) hx hb dX10_mean_25 (by decide) ?_
        refine lv_iadd hx hb dX10_mean_29 ?_
        obtain ⟨x11, ex11, h⟩ := ul_of h
        refine u_nmi ex11 ?_
        refine lv_istore_n (lv' := [(1, .int x11), (0, .ref (ad 0)), (2, .int v2), (3, .int v3)]) hx hb dX10_mean_30 rfl hl (by decide) rfl (fun ls hl => ?_)
        refine lv_iload_n hx hb dX10_mean_31 rfl (lv_at hl 2 rfl) ?_
        refine lv_aload_n hx hb dX10_mean_32 rfl (lv_at hl 1 rfl) ?_
        refine u_get (v := .ref (ad 9)) C G obM_0 (ci := 10) (N := 44) (Cn := RX10) (T := TX10) rfl fi_X10_mean_10 11 (by decide) (by decide +kernel) rfl dX10_mean_33 ?_
        refine lv_iload_n hx hb dX10_mean_36 rfl (lv_at hl 3 rfl) ?_
        obtain ⟨g12, h⟩ := ui_of h
        refine u_zald C G arM_9 (t0 := 2) rfl g12 dX10_mean_37 ?_
        refine lv_if_eq (tgt := 45) hx hb dX10_mean_38 (by decide) (fun q => ?_) (fun q => ?_)
        · have h := u_pos q h
          refine lv_aload_n hx hb dX10_mean_45 rfl (lv_at hl 1 rfl) ?_
          refine u_get (v := .ref (ad 7)) C G obM_0 (ci := 10) (N := 44) (Cn := RX10) (T := TX10) rfl fi_X10_mean_10 9 (by decide) (by decide +kernel) rfl dX10_mean_46 ?_
          refine lv_iload_n hx hb dX10_mean_49 rfl (lv_at hl 3 rfl) ?_
          obtain ⟨g13, h⟩ := ui_of h
          refine u_iald C G arM_7 (t0 := 0) rfl g13 dX10_mean_50 ?_
          refine lv_iadd hx hb dX10_mean_51 ?_
          obtain ⟨x14, ex14, h⟩ := ul_of h
          refine u_nmi ex14 ?_
          refine lv_istore_n (lv' := [(2, .int x14), (1, .int x11), (0, .ref (ad 0)), (3, .int v3)]) hx hb dX10_mean_52 rfl hl (by decide) rfl (fun ls hl => ?_)
          obtain ⟨x15, ex15, h⟩ := ul_of h
          refine lv_iinc (v := x15) (lv' := [(3, .int x15), (2, .int x14), (1, .int x11), (0, .ref (ad 0))]) hx hb dX10_mean_53 hl (k := 3) rfl (by rw [ex15]; rfl) (by decide) rfl (fun ls hl => ?_)
          refine lv_goto (tgt := 6) hx hb dX10_mean_56 (by decide) ?_
          exact ih σ x11 x14 x15 h H locs ls G (lv_sub hl [3, 2, 1, 0] rfl)
        · have h := u_neg q h
          refine lv_iconst (v := 0) hx hb dX10_mean_41 (by decide) ?_
          refine lv_goto (tgt := 51) hx hb dX10_mean_42 (by decide) ?_
          refine lv_iadd hx hb dX10_mean_51 ?_
          obtain ⟨x16, ex16, h⟩ := ul_of h
          refine u_nmi ex16 ?_
          refine lv_istore_n (lv' := [(2, .int x16), (1, .int x11), (0, .ref (ad 0)), (3, .int v3)]) hx hb dX10_mean_52 rfl hl (by decide) rfl (fun ls hl => ?_)
          obtain ⟨x17, ex17, h⟩ := ul_of h
          refine lv_iinc (v := x17) (lv' := [(3, .int x17), (2, .int x16), (1, .int x11), (0, .ref (ad 0))]) hx hb dX10_mean_53 hl (k := 3) rfl (by rw [ex17]; rfl) (by decide) rfl (fun ls hl => ?_)
          refine lv_goto (tgt := 6) hx hb dX10_mean_56 (by decide) ?_
          exact ih σ x11 x16 x17 h H locs ls G (lv_sub hl [3, 2, 1, 0] rfl)
set_option maxHeartbeats 4000000 in
set_option maxRecDepth 100000 in
theorem c_X10_mean (l : Launch) (D : va_G) (ad : Nat → Nat) (cs : Nat → ClassId) (J : uJ 34 ad) (σ : St) (r : Int32) (σ' : St) (h : f_X10_mean σ = some (r, σ')) : uMi l yX10_mean wsX10_mean { frames := 1, cells := 0, slots := 0, locals := 21 } D vwCl (tyM cs) 34 ad (enM ad cs) [.ref (ad 0)] σ r σ' := by
  refine u_met (Qf := uQi D vwCl 34 ad (enM ad cs) r σ') (cc := cX10_mean) (maxL := 4) (ret := (some .int)) (lv := [(0, .ref (ad 0))]) J (by decide) rfl (Nat.le_of_ble_eq_true rfl) rfl rfl rfl ?_
  intro p e s m args below meth c ls hx hb C hr hlk G hl
  unfold f_X10_mean at h
  obtain ⟨H, eH⟩ : ∃ H, H = s.heap := ⟨_, rfl⟩
  obtain ⟨locs, eL⟩ : ∃ locs : List Loc, locs = [] := ⟨_, rfl⟩
  refine u_start eH eL G ?_
  clear G eH eL
  intro G
  refine lv_iconst (v := 0) hx hb dX10_mean_0 (by decide) ?_
  refine lv_istore_n (lv' := [(1, .int 0), (0, .ref (ad 0))]) hx hb dX10_mean_1 rfl hl (by decide) rfl (fun ls hl => ?_)
  refine lv_iconst (v := 0) hx hb dX10_mean_2 (by decide) ?_
  refine lv_istore_n (lv' := [(2, .int 0), (1, .int 0), (0, .ref (ad 0))]) hx hb dX10_mean_3 rfl hl (by decide) rfl (fun ls hl => ?_)
  refine lv_iconst (v := 0) hx hb dX10_mean_4 (by decide) ?_
  refine lv_istore_n (lv' := [(3, .int 0), (2, .int 0), (1, .int 0), (0, .ref (ad 0))]) hx hb dX10_mean_5 rfl hl (by decide) rfl (fun ls hl => ?_)
  exact w_X10_mean_6 C hr hlk fu σ 0 0 0 h H locs ls G (lv_sub hl [3, 2, 1, 0] rfl)
/-! X10_isLine -/
def f_X10_isLine (σ : St) (v0 : Int32) : Option (Int32 × St) :=
  ub (f_X10_in σ v0 (0 : Int32) (3 : Int32)) fun r1 σ2 =>
  ug (unz r1) <|
  some (r1, σ2)
set_option maxHeartbeats 4000000 in
set_option maxRecDepth 100000 in
theorem c_X10_isLine (l : Launch) (D : va_G) (ad : Nat → Nat) (cs : Nat → ClassId) (J : uJ 34 ad) (σ : St) (v0 : Int32) (r : Int32) (σ' : St) (h : f_X10_isLine σ v0 = some (r, σ')) : uMi l yX10_isLine wsX10_isLine { frames := 1, cells := 0, slots := 0, locals := 22 } D vwCl (tyM cs) 34 ad (enM ad cs) [.int v0] σ r σ' := by
  refine u_met (Qf := uQi D vwCl 34 ad (enM ad cs) r σ') (cc := cX10_isLine) (maxL := 1) (ret := (some .boolean)) (lv := [(0, .int v0)]) J (by decide) rfl (Nat.le_of_ble_eq_true rfl) rfl rfl rfl ?_
  intro p e s m args below meth c ls hx hb C hr hlk G hl
  unfold f_X10_isLine at h
  obtain ⟨H, eH⟩ : ∃ H, H = s.heap := ⟨_, rfl⟩
  obtain ⟨locs, eL⟩ : ∃ locs : List Loc, locs = [] := ⟨_, rfl⟩
  refine u_start eH eL G ?_
  clear G eH eL
  intro G
  refine lv_iload_n hx hb dX10_isLine_0 rfl (lv_at hl 0 rfl) ?_
  refine lv_iconst (v := 0) hx hb dX10_isLine_1 (by decide) ?_
  refine lv_iconst (v := 3) hx hb dX10_isLine_2 (by decide) ?_
  obtain ⟨r1, σ2, er1, h⟩ := ub_of h
  refine u_callSi (As := [.int v0, .int 0, .int 3]) (rest := []) C G (c_X10_in l D ad cs C.2.2.1 σ v0 (0 : Int32) (3 : Int32) r1 σ2 er1) (va_cwS 3 C.1.2.2.2.2 gX10_isLine_X10_in rfl rfl rfl (by decide +kernel) ⟨Nat.le_of_ble_eq_true rfl, Nat.le_of_ble_eq_true rfl⟩) rfl hl rfl (Nat.le_of_ble_eq_true rfl) dX10_isLine_3 (fun H locs G => ?_)
  obtain ⟨gz, h⟩ := ug_of h
  obtain ⟨rfl, rfl⟩ := u_end h
  exact u_zret hx hb hr hlk G gz dX10_isLine_6
/-! X10_isSlot -/
def f_X10_isSlot (σ : St) (v0 : Int32) : Option (Int32 × St) :=
  ub (f_X10_in σ v0 (0 : Int32) (9 : Int32)) fun r1 σ2 =>
  ug (unz r1) <|
  some (r1, σ2)
set_option maxHeartbeats 4000000 in
set_option maxRecDepth 100000 in
theorem c_X10_isSlot (l : Launch) (D : va_G) (ad : Nat → Nat) (cs : Nat → ClassId) (J : uJ 34 ad) (σ : St) (v0 : Int32) (r : Int32) (σ' : St) (h : f_X10_isSlot σ v0 = some (r, σ')) : uMi l yX10_isSlot wsX10_isSlot { frames := 1, cells := 0, slots := 0, locals := 22 } D vwCl (tyM cs) 34 ad (enM ad cs) [.int v0] σ r σ' := by
  refine u_met (Qf := uQi D vwCl 34 ad (enM ad cs) r σ') (cc := cX10_isSlot) (maxL := 1) (ret := (some .boolean)) (lv := [(0, .int v0)]) J (by decide) rfl (Nat.le_of_ble_eq_true rfl) rfl rfl rfl ?_
  intro p e s m args below meth c ls hx hb C hr hlk G hl
  unfold f_X10_isSlot at h
  obtain ⟨H, eH⟩ : ∃ H, H = s.heap := ⟨_, rfl⟩
  obtain ⟨locs, eL⟩ : ∃ locs : List Loc, locs = [] := ⟨_, rfl⟩
  refine u_start eH eL G ?_
  clear G eH eL
  intro G
  refine lv_iload_n hx hb dX10_isSlot_0 rfl (lv_at hl 0 rfl) ?_
  refine lv_iconst (v := 0) hx hb dX10_isSlot_1 (by decide) ?_
  refine lv_bipush (v := 9) hx hb dX10_isSlot_2 (by decide) ?_
  obtain ⟨r1, σ2, er1, h⟩ := ub_of h
  refine u_callSi (As := [.int v0, .int 0, .int 9]) (rest := []) C G (c_X10_in l D ad cs C.2.2.1 σ v0 (0 : Int32) (9 : Int32) r1 σ2 er1) (va_cwS 3 C.1.2.2.2.2 gX10_isSlot_X10_in rfl rfl rfl (by decide +kernel) ⟨Nat.le_of_ble_eq_true rfl, Nat.le_of_ble_eq_true rfl⟩) rfl hl rfl (Nat.le_of_ble_eq_true rfl) dX10_isSlot_4 (fun H locs G => ?_)
  obtain ⟨gz, h⟩ := ug_of h
  obtain ⟨rfl, rfl⟩ := u_end h
  exact u_zret hx hb hr hlk G gz dX10_isSlot_7
/-! X10_isColour -/
def f_X10_isColour (σ : St) (v0 : Int32) : Option (Int32 × St) :=
  ub (f_X10_in σ v0 (1 : Int32) (3 : Int32)) fun r1 σ2 =>
  ug (unz r1) <|
  some (r1, σ2)
set_option maxHeartbeats 4000000 in
set_option maxRecDepth 100000 in
theorem c_X10_isColour (l : Launch) (D : va_G) (ad : Nat → Nat) (cs : Nat → ClassId) (J : uJ 34 ad) (σ : St) (v0 : Int32) (r : Int32) (σ' : St) (h : f_X10_isColour σ v0 = some (r, σ')) : uMi l yX10_isColour wsX10_isColour { frames := 1, cells := 0, slots := 0, locals := 22 } D vwCl (tyM cs) 34 ad (enM ad cs) [.int v0] σ r σ' := by
  refine u_met (Qf := uQi D vwCl 34 ad (enM ad cs) r σ') (cc := cX10_isColour) (maxL := 1) (ret := (some .boolean)) (lv := [(0, .int v0)]) J (by decide) rfl (Nat.le_of_ble_eq_true rfl) rfl rfl rfl ?_
  intro p e s m args below meth c ls hx hb C hr hlk G hl
  unfold f_X10_isColour at h
  obtain ⟨H, eH⟩ : ∃ H, H = s.heap := ⟨_, rfl⟩
  obtain ⟨locs, eL⟩ : ∃ locs : List Loc, locs = [] := ⟨_, rfl⟩
  refine u_start eH eL G ?_
  clear G eH eL
  intro G
  refine lv_iload_n hx hb dX10_isColour_0 rfl (lv_at hl 0 rfl) ?_
  refine lv_iconst (v := 1) hx hb dX10_isColour_1 (by decide) ?_
  refine lv_iconst (v := 3) hx hb dX10_isColour_2 (by decide) ?_
  obtain ⟨r1, σ2, er1, h⟩ := ub_of h
  refine u_callSi (As := [.int v0, .int 1, .int 3]) (rest := []) C G (c_X10_in l D ad cs C.2.2.1 σ v0 (1 : Int32) (3 : Int32) r1 σ2 er1) (va_cwS 3 C.1.2.2.2.2 gX10_isColour_X10_in rfl rfl rfl (by decide +kernel) ⟨Nat.le_of_ble_eq_true rfl, Nat.le_of_ble_eq_true rfl⟩) rfl hl rfl (Nat.le_of_ble_eq_true rfl) dX10_isColour_3 (fun H locs G => ?_)
  obtain ⟨gz, h⟩ := ug_of h
  obtain ⟨rfl, rfl⟩ := u_end h
  exact u_zret hx hb hr hlk G gz dX10_isColour_6
/-! X10_see -/
def f_X10_see_49 : Nat → St → Int32 → Int32 → Int32 → Int32 → Int32 → Int32 → Option (Int32 × St)
  | 0, _, _, _, _, _, _, _ => none
  | fuel + 1, σ, v1, v2, v3, v4, v5, v6 =>
    if 15 ≤ v6 then
      some (v5, σ)
    else
      ul (((150 * v1) + (15 * v2)) + v6) fun x11 =>
      if ((v3 >>> (v6 &&& 31)) &&& 1) = 1 then
        ui x11 600 <|
        if (σ 14 x11.toNatClampNeg) = v4 then
          ul (v5 + 0) fun x18 =>
          ui x11 600 <|
          ul (us σ 14 x11.toNatClampNeg v4) fun σ20 =>
          ul (v6 + 1) fun x21 =>
          f_X10_see_49 fuel σ20 v1 v2 v3 v4 x18 x21
        else
          ul (v5 + 1) fun x14 =>
          ui x11 600 <|
          ul (us σ 14 x11.toNatClampNeg v4) fun σ16 =>
          ul (v6 + 1) fun x17 =>
          f_X10_see_49 fuel σ16 v1 v2 v3 v4 x14 x17
      else
        ul (v6 + 1) fun x12 =>
        f_X10_see_49 fuel σ v1 v2 v3 v4 v5 x12
def f_X10_see (σ : St) (v1 : Int32) (v2 : Int32) (v3 : Int32) (v4 : Int32) : Option (Int32 × St) :=
  ub (f_X10_isLine σ v1) fun r1 σ2 =>
  if r1 = 0 then
    some (((-1) : Int32), σ2)
  else
    ub (f_X10_in σ2 v3 (0 : Int32) (32767 : Int32)) fun r3 σ4 =>
    if r3 = 0 then
      some (((-1) : Int32), σ4)
    else
      ub (f_X10_in σ4 v4 (0 : Int32) (4 : Int32)) fun r5 σ6 =>
      if r5 = 0 then
        some (((-1) : Int32), σ6)
      else
        ub (f_X10_isSlot σ6 v2) fun r7 σ8 =>
        if r7 = 0 then
          ub (f_X10_meets σ8 (2 : Int32)) fun r9 σ10 =>
          some (r9, σ10)
        else
          f_X10_see_49 fu σ8 v1 v2 v3 v4 0 0
theorem fi_X10_see_10 : ∀ w ∈ u_ws RX10 TX10 44, w ∈ wsX10_see := by decide +kernel
set_option maxHeartbeats 4000000 in
set_option maxRecDepth 100000 in
theorem w_X10_see_49 {p : Program} {l : Launch} {e : Env} {s : State} {m : MethodId} {args : Array Value} {below : List Frame} {meth : Method} {c : Code} {D : va_G} {ad : Nat → Nat} {cs : Nat → ClassId} (C : uC p { frames := 2, cells := 0, slots := 0, locals := 42 } s m args c cX10_see 8 wsX10_see RX10 D vwCl (tyM cs) 34 ad (uAd 34 ad s.heap.size) 0 0) (hr : meth.sig.returnType = (some .int)) (hlk : meth.locks = false) {r : Int32} {σ' : St} :
    ∀ (n : Nat) (σ : St) (v1 : Int32) (v2 : Int32) (v3 : Int32) (v4 : Int32) (v5 : Int32) (v6 : Int32), f_X10_see_49 n σ v1 v2 v3 v4 v5 v6 = some (r, σ') → ∀ (H : Heap) (locs : List Loc) (ls : Array Slot), uG D vwCl 34 ad (enM ad cs) (uAd 34 ad s.heap.size) s σ H locs → lv_has ls 8 [(0, .ref (ad 0)), (1, .int v1), (2, .int v2), (3, .int v3), (4, .int v4), (5, .int v5), (6, .int v6)] → W p l e { frames := 2, cells := 0, slots := 0, locals := 42 } s m args below meth c H locs 0 0 (MQ below (uQi D vwCl 34 ad (enM ad cs) r σ' s.heap.size) args s 0 0 (uAd 34 ad s.heap.size)) (F0 m 49 ls []) := by
  have hx := C.1.1
  have hb := C.1.2.1
  intro n
  induction n with
  | zero => intro σ v1 v2 v3 v4 v5 v6  h; exact absurd h (by simp [f_X10_see_49])
  | succ fuel ih =>
    intro σ v1 v2 v3 v4 v5 v6  h H locs ls G hl
    rw [f_X10_see_49] at h
    refine lv_iload hx hb dX10_see_49 (lv_at hl 6 rfl) ?_
    refine lv_bipush (v := 15) hx hb dX10_see_51 (by decide) ?_
    refine lv_icmp_ge (tgt := 118) hx hb dX10_see_53 (by decide) (fun q => ?_) (fun q => ?_)
    · have h := u_pos q h
      refine lv_iload hx hb dX10_see_118 (lv_at hl 5 rfl) ?_
      obtain ⟨rfl, rfl⟩ := u_end h
      exact u_iret hx hb hr hlk G dX10_see_120
    · have h := u_neg q h
      refine lv_sipush (v := 150) hx hb dX10_see_56 (by decide) ?_
      refine lv_iload_n hx hb dX10_see_59 rfl (lv_at hl 1 rfl) ?_
      refine lv_imul hx hb dX10_see_60 ?_
      refine lv_bipush (v := 15) hx hb dX10_see_61 (by decide) ?_
      refine lv_iload_n hx hb dX10_see_63 rfl (lv_at hl 2 rfl) ?_
      refine lv_imul hx hb dX10_see_64 ?_
      refine lv_iadd hx hb dX10_see_65 ?_
      refine lv_iload hx hb dX10_see_66 (lv_at hl 6 rfl) ?_
      refine lv_iadd hx hb dX10_see_68 ?_
      obtain ⟨x11, ex11, h⟩ := ul_of h
      refine u_nmi ex11 ?_
      refine lv_istore (lv' := [(7, .int x11), (0, .ref (ad 0)), (1, .int v1), (2, .int v2), (3, .int v3), (4, .int v4), (5, .int v5), (6, .int v6)]) hx hb dX10_see_69 hl (by decide) rfl (fun ls hl => ?_)
      refine lv_iload_n hx hb dX10_see_71 rfl (lv_at hl 4 rfl) ?_
      refine lv_iload hx hb dX10_see_72 (lv_at hl 7 rfl) ?_
      refine lv_ishr hx hb dX10_see_74 ?_
      refine lv_iconst (v := 1) hx hb dX10_see_75 (by decide) ?_
      refine lv_iand hx hb dX10_see_76 ?_
      refine lv_iconst (v := 1) hx hb dX10_see_77 (by decide) ?_
      refine lv_icmp_ne (tgt := 112) hx hb dX10_see_78 (by decide) (fun q => ?_) (fun q => ?_)
      · have h := u_neg q h
        obtain ⟨x12, ex12, h⟩ := ul_of h
        refine lv_iinc (v := x12) (lv' := [(6, .int x12), (7, .int x11), (0, .ref (ad 0)), (1, .int v1), (2, .int v2), (3, .int v3), (4, .int v4), (5, .int v5)]) hx hb dX10_see_112 hl (k := 7) rfl (by rw [ex12]; rfl) (by decide) rfl (fun ls hl => ?_)
        refine lv_goto (tgt := 49) hx hb dX10_see_115 (by decide) ?_
        exact ih σ v1 v2 v3 v4 v5 x12 h H locs ls G (lv_sub hl [2, 3, 4, 5, 6, 7, 0] rfl)
      · have h := u_pos q h
        refine lv_iload hx hb dX10_see_81 (lv_at hl 6 rfl) ?_
        refine lv_aload_n hx hb dX10_see_83 rfl (lv_at hl 1 rfl) ?_
        refine u_get (v := .ref (ad 14)) C G obM_0 (ci := 10) (N := 44) (Cn := RX10) (T := TX10) rfl fi_X10_see_10 16 (by decide) (by decide +kernel) rfl dX10_see_84 ?_
        refine lv_iload hx hb dX10_see_87 (lv_at hl 0 rfl) ?_
        obtain ⟨g13, h⟩ := ui_of h
        refine u_iald C G arM_14 (t0 := 0) rfl g13 dX10_see_89 ?_
        refine lv_iload hx hb dX10_see_90 (lv_at hl 5 rfl) ?_
        refine lv_icmp_ne (tgt := 99) hx hb dX10_see_92 (by decide) (fun q => ?_) (fun q => ?_)
        · have h := u_neg q h
          refine lv_iconst (v := 1) hx hb dX10_see_99 (by decide) ?_
          refine lv_iadd hx hb dX10_see_100 ?_
          obtain ⟨x14, ex14, h⟩ := ul_of h
          refine u_nmi ex14 ?_
          refine lv_istore (lv' := [(5, .int x14), (7, .int x11), (0, .ref (ad 0)), (1, .int v1), (2, .int v2), (3, .int v3), (4, .int v4), (6, .int v6)]) hx hb dX10_see_101 hl (by decide) rfl (fun ls hl => ?_)
          refine lv_aload_n hx hb dX10_see_103 rfl (lv_at hl 2 rfl) ?_
          refine u_get (v := .ref (ad 14)) C G obM_0 (ci := 10) (N := 44) (Cn := RX10) (T := TX10) rfl fi_X10_see_10 16 (by decide) (by decide +kernel) rfl dX10_see_104 ?_
          refine lv_iload hx hb dX10_see_107 (lv_at hl 1 rfl) ?_
          refine lv_iload hx hb dX10_see_109 (lv_at hl 6 rfl) ?_
          obtain ⟨g15, h⟩ := ui_of h
          refine u_iast C G arM_14 (t0 := 0) rfl g15 dX10_see_111 (fun H locs G => ?_)
          obtain ⟨σ16, eσ16, h⟩ := ul_of h
          replace G := uG_eq eσ16 G
          obtain ⟨x17, ex17, h⟩ := ul_of h
          refine lv_iinc (v := x17) (lv' := [(6, .int x17), (5, .int x14), (7, .int x11), (0, .ref (ad 0)), (1, .int v1), (2, .int v2), (3, .int v3), (4, .int v4)]) hx hb dX10_see_112 hl (k := 7) rfl (by rw [ex17]; rfl) (by decide) rfl (fun ls hl => ?_)
          refine lv_goto (tgt := 49) hx hb dX10_see_115 (by decide) ?_
          exact ih σ16 v1 v2 v3 v4 x14 x17 h H locs ls G (lv_sub hl [3, 4, 5, 6, 7, 1, 0] rfl)
        · have h := u_pos q h
          refine lv_iconst (v := 0) hx hb dX10_see_95 (by decide) ?_
          refine lv_goto (tgt := 100) hx hb dX10_see_96 (by decide) ?_
          refine lv_iadd hx hb dX10_see_100 ?_
          obtain ⟨x18, ex18, h⟩ := ul_of h
          refine u_nmi ex18 ?_
          refine lv_istore (lv' := [(5, .int x18), (7, .int x11), (0, .ref (ad 0)), (1, .int v1), (2, .int v2), (3, .int v3), (4, .int v4), (6, .int v6)]) hx hb dX10_see_101 hl (by decide) rfl (fun ls hl => ?_)
          refine lv_aload_n hx hb dX10_see_103 rfl (lv_at hl 2 rfl) ?_
          refine u_get (v := .ref (ad 14)) C G obM_0 (ci := 10) (N := 44) (Cn := RX10) (T := TX10) rfl fi_X10_see_10 16 (by decide) (by decide +kernel) rfl dX10_see_104 ?_
          refine lv_iload hx hb dX10_see_107 (lv_at hl 1 rfl) ?_
          refine lv_iload hx hb dX10_see_109 (lv_at hl 6 rfl) ?_
          obtain ⟨g19, h⟩ := ui_of h
          refine u_iast C G arM_14 (t0 := 0) rfl g19 dX10_see_111 (fun H locs G => ?_)
          obtain ⟨σ20, eσ20, h⟩ := ul_of h
          replace G := uG_eq eσ20 G
          obtain ⟨x21, ex21, h⟩ := ul_of h
          refine lv_iinc (v := x21) (lv' := [(6, .int x21), (5, .int x18), (7, .int x11), (0, .ref (ad 0)), (1, .int v1), (2, .int v2), (3, .int v3), (4, .int v4)]) hx hb dX10_see_112 hl (k := 7) rfl (by rw [ex21]; rfl) (by decide) rfl (fun ls hl => ?_)
          refine lv_goto (tgt := 49) hx hb dX10_see_115 (by decide) ?_
          exact ih σ20 v1 v2 v3 v4 x18 x21 h H locs ls G (lv_sub hl [3, 4, 5, 6, 7, 1, 0] rfl)
set_option maxHeartbeats 4000000 in
set_option maxRecDepth 100000 in
theorem c_X10_see (l : Launch) (D : va_G) (ad : Nat → Nat) (cs : Nat → ClassId) (J : uJ 34 ad) (σ : St) (v1 : Int32) (v2 : Int32) (v3 : Int32) (v4 : Int32) (r : Int32) (σ' : St) (h : f_X10_see σ v1 v2 v3 v4 = some (r, σ')) : uMi l yX10_see wsX10_see { frames := 2, cells := 0, slots := 0, locals := 42 } D vwCl (tyM cs) 34 ad (enM ad cs) [.ref (ad 0), .int v1, .int v2, .int v3, .int v4] σ r σ' := by
  refine u_met (Qf := uQi D vwCl 34 ad (enM ad cs) r σ') (cc := cX10_see) (maxL := 8) (ret := (some .int)) (lv := [(0, .ref (ad 0)), (1, .int v1), (2, .int v2), (3, .int v3), (4, .int v4)]) J (by decide) rfl (Nat.le_of_ble_eq_true rfl) rfl rfl rfl ?_
  intro p e s m args below meth c ls hx hb C hr hlk G hl
  unfold f_X10_see at h
  obtain ⟨H, eH⟩ : ∃ H, H = s.heap := ⟨_, rfl⟩
  obtain ⟨locs, eL⟩ : ∃ locs : List Loc, locs = [] := ⟨_, rfl⟩
  refine u_start eH eL G ?_
  clear G eH eL
  intro G
  refine lv_iload_n hx hb dX10_see_0 rfl (lv_at hl 1 rfl) ?_
  obtain ⟨r1, σ2, er1, h⟩ := ub_of h
  refine u_callSi (As := [.int v1]) (rest := []) C G (c_X10_isLine l D ad cs C.2.2.1 σ v1 r1 σ2 er1) (va_cwS 1 C.1.2.2.2.2 gX10_see_X10_isLine rfl rfl rfl (by decide +kernel) ⟨Nat.le_of_ble_eq_true rfl, Nat.le_of_ble_eq_true rfl⟩) rfl hl rfl (Nat.le_of_ble_eq_true rfl) dX10_see_1 (fun H locs G => ?_)
  refine lv_if_eq (tgt := 28) hx hb dX10_see_4 (by decide) (fun q => ?_) (fun q => ?_)
  · have h := u_pos q h
    refine lv_iconst (v := (-1)) hx hb dX10_see_28 (by decide) ?_
    obtain ⟨rfl, rfl⟩ := u_end h
    exact u_iret hx hb hr hlk G dX10_see_29
  · have h := u_neg q h
    refine lv_iload_n hx hb dX10_see_7 rfl (lv_at hl 3 rfl) ?_
    refine lv_iconst (v := 0) hx hb dX10_see_8 (by decide) ?_
    refine lv_sipush (v := 32767) hx hb dX10_see_9 (by decide) ?_
    obtain ⟨r3, σ4, er3, h⟩ := ub_of h
    refine u_callSi (As := [.int v3, .int 0, .int 32767]) (rest := []) C G (c_X10_in l D ad cs C.2.2.1 σ2 v3 (0 : Int32) (32767 : Int32) r3 σ4 er3) (va_cwS 3 C.1.2.2.2.2 gX10_see_X10_in rfl rfl rfl (by decide +kernel) ⟨Nat.le_of_ble_eq_true rfl, Nat.le_of_ble_eq_true rfl⟩) rfl hl rfl (Nat.le_of_ble_eq_true rfl) dX10_see_12 (fun H locs G => ?_)
    refine lv_if_eq (tgt := 28) hx hb dX10_see_15 (by decide) (fun q => ?_) (fun q => ?_)
    · have h := u_pos q h
      refine lv_iconst (v := (-1)) hx hb dX10_see_28 (by decide) ?_
      obtain ⟨rfl, rfl⟩ := u_end h
      exact u_iret hx hb hr hlk G dX10_see_29
    · have h := u_neg q h
      refine lv_iload hx hb dX10_see_18 (lv_at hl 4 rfl) ?_
      refine lv_iconst (v := 0) hx hb dX10_see_20 (by decide) ?_
      refine lv_iconst (v := 4) hx hb dX10_see_21 (by decide) ?_
      obtain ⟨r5, σ6, er5, h⟩ := ub_of h
      refine u_callSi (As := [.int v4, .int 0, .int 4]) (rest := []) C G (c_X10_in l D ad cs C.2.2.1 σ4 v4 (0 : Int32) (4 : Int32) r5 σ6 er5) (va_cwS 3 C.1.2.2.2.2 gX10_see_X10_in rfl rfl rfl (by decide +kernel) ⟨Nat.le_of_ble_eq_true rfl, Nat.le_of_ble_eq_true rfl⟩) rfl hl rfl (Nat.le_of_ble_eq_true rfl) dX10_see_22 (fun H locs G => ?_)
      refine lv_if_ne (tgt := 30) hx hb dX10_see_25 (by decide) (fun q => ?_) (fun q => ?_)
      · have h := u_neg q h
        refine lv_iload_n hx hb dX10_see_30 rfl (lv_at hl 2 rfl) ?_
        obtain ⟨r7, σ8, er7, h⟩ := ub_of h
        refine u_callSi (As := [.int v2]) (rest := []) C G (c_X10_isSlot l D ad cs C.2.2.1 σ6 v2 r7 σ8 er7) (va_cwS 1 C.1.2.2.2.2 gX10_see_X10_isSlot rfl rfl rfl (by decide +kernel) ⟨Nat.le_of_ble_eq_true rfl, Nat.le_of_ble_eq_true rfl⟩) rfl hl rfl (Nat.le_of_ble_eq_true rfl) dX10_see_31 (fun H locs G => ?_)
        refine lv_if_ne (tgt := 43) hx hb dX10_see_34 (by decide) (fun q => ?_) (fun q => ?_)
        · have h := u_neg q h
          refine lv_iconst (v := 0) hx hb dX10_see_43 (by decide) ?_
          refine lv_istore (lv' := [(5, .int 0), (0, .ref (ad 0)), (1, .int v1), (2, .int v2), (3, .int v3), (4, .int v4)]) hx hb dX10_see_44 hl (by decide) rfl (fun ls hl => ?_)
          refine lv_iconst (v := 0) hx hb dX10_see_46 (by decide) ?_
          refine lv_istore (lv' := [(6, .int 0), (5, .int 0), (0, .ref (ad 0)), (1, .int v1), (2, .int v2), (3, .int v3), (4, .int v4)]) hx hb dX10_see_47 hl (by decide) rfl (fun ls hl => ?_)
          exact w_X10_see_49 C hr hlk fu σ8 v1 v2 v3 v4 0 0 h H locs ls G (lv_sub hl [2, 3, 4, 5, 6, 1, 0] rfl)
        · have h := u_pos q h
          refine lv_aload_n hx hb dX10_see_37 rfl (lv_at hl 0 rfl) ?_
          refine lv_iconst (v := 2) hx hb dX10_see_38 (by decide) ?_
          obtain ⟨r9, σ10, er9, h⟩ := ub_of h
          refine u_callVi (As := [.int 2]) (rest := []) C G (c_X10_meets l D ad cs C.2.2.1 σ8 (2 : Int32) r9 σ10 er9) (cwV 1 C.1.2.2.2.2 gX10_see_X10_meets rfl rfl rfl (by decide +kernel) ⟨Nat.le_of_ble_eq_true rfl, Nat.le_of_ble_eq_true rfl⟩) obM_0 (ci := 10) (T := TX10) rfl rfl hl rfl (Nat.le_of_ble_eq_true rfl) dX10_see_39 (fun H locs G => ?_)
          obtain ⟨rfl, rfl⟩ := u_end h
          exact u_iret hx hb hr hlk G dX10_see_42
      · have h := u_pos q h
        refine lv_iconst (v := (-1)) hx hb dX10_see_28 (by decide) ?_
        obtain ⟨rfl, rfl⟩ := u_end h
        exact u_iret hx hb hr hlk G dX10_see_29
/-! X10_seen -/
def f_X10_seen (σ : St) (v1 : Int32) (v2 : Int32) (v3 : Int32) : Option (Int32 × St) :=
  ub (f_X10_isLine σ v1) fun r1 σ2 =>
  if r1 = 0 then
    some (((-1) : Int32), σ2)
  else
    ub (f_X10_in σ2 v3 (0 : Int32) (14 : Int32)) fun r3 σ4 =>
    if r3 = 0 then
      some (((-1) : Int32), σ4)
    else
      ub (f_X10_isSlot σ4 v2) fun r5 σ6 =>
      if r5 = 0 then
        ub (f_X10_meets σ6 (2 : Int32)) fun r7 σ8 =>
        some (r7, σ8)
      else
        ui (((150 * v1) + (15 * v2)) + v3) 600 <|
        some ((σ6 14 (((150 * v1) + (15 * v2)) + v3).toNatClampNeg), σ6)
theorem fi_X10_seen_10 : ∀ w ∈ u_ws RX10 TX10 44, w ∈ wsX10_seen := by decide +kernel
set_option maxHeartbeats 4000000 in
set_option maxRecDepth 100000 in
theorem c_X10_seen (l : Launch) (D : va_G) (ad : Nat → Nat) (cs : Nat → ClassId) (J : uJ 34 ad) (σ : St) (v1 : Int32) (v2 : Int32) (v3 : Int32) (r : Int32) (σ' : St) (h : f_X10_seen σ v1 v2 v3 = some (r, σ')) : uMi l yX10_seen wsX10_seen { frames := 2, cells := 0, slots := 0, locals := 42 } D vwCl (tyM cs) 34 ad (enM ad cs) [.ref (ad 0), .int v1, .int v2, .int v3] σ r σ' := by
  refine u_met (Qf := uQi D vwCl 34 ad (enM ad cs) r σ') (cc := cX10_seen) (maxL := 4) (ret := (some .int)) (lv := [(0, .ref (ad 0)), (1, .int v1), (2, .int v2), (3, .int v3)]) J (by decide) rfl (Nat.le_of_ble_eq_true rfl) rfl rfl rfl ?_
  intro p e s m args below meth c ls hx hb C hr hlk G hl
  unfold f_X10_seen at h
  obtain ⟨H, eH⟩ : ∃ H, H = s.heap := ⟨_, rfl⟩
  obtain ⟨locs, eL⟩ : ∃ locs : List Loc, locs = [] := ⟨_, rfl⟩
  refine u_start eH eL G ?_
  clear G eH eL
  intro G
  refine lv_iload_n hx hb dX10_seen_0 rfl (lv_at hl 1 rfl) ?_
  obtain ⟨r1, σ2, er1, h⟩ := ub_of h
  refine u_callSi (As := [.int v1]) (rest := []) C G (c_X10_isLine l D ad cs C.2.2.1 σ v1 r1 σ2 er1) (va_cwS 1 C.1.2.2.2.2 gX10_seen_X10_isLine rfl rfl rfl (by decide +kernel) ⟨Nat.le_of_ble_eq_true rfl, Nat.le_of_ble_eq_true rfl⟩) rfl hl rfl (Nat.le_of_ble_eq_true rfl) dX10_seen_1 (fun H locs G => ?_)
  refine lv_if_eq (tgt := 17) hx hb dX10_seen_4 (by decide) (fun q => ?_) (fun q => ?_)
  · have h := u_pos q h
    refine lv_iconst (v := (-1)) hx hb dX10_seen_17 (by decide) ?_
    obtain ⟨rfl, rfl⟩ := u_end h
    exact u_iret hx hb hr hlk G dX10_seen_18
  · have h := u_neg q h
    refine lv_iload_n hx hb dX10_seen_7 rfl (lv_at hl 3 rfl) ?_
    refine lv_iconst (v := 0) hx hb dX10_seen_8 (by decide) ?_
    refine lv_bipush (v := 14) hx hb dX10_seen_9 (by decide) ?_
    obtain ⟨r3, σ4, er3, h⟩ := ub_of h
    refine u_callSi (As := [.int v3, .int 0, .int 14]) (rest := []) C G (c_X10_in l D ad cs C.2.2.1 σ2 v3 (0 : Int32) (14 : Int32) r3 σ4 er3) (va_cwS 3 C.1.2.2.2.2 gX10_seen_X10_in rfl rfl rfl (by decide +kernel) ⟨Nat.le_of_ble_eq_true rfl, Nat.le_of_ble_eq_true rfl⟩) rfl hl rfl (Nat.le_of_ble_eq_true rfl) dX10_seen_11 (fun H locs G => ?_)
    refine lv_if_ne (tgt := 19) hx hb dX10_seen_14 (by decide) (fun q => ?_) (fun q => ?_)
    · have h := u_neg q h
      refine lv_iload_n hx hb dX10_seen_19 rfl (lv_at hl 2 rfl) ?_
      obtain ⟨r5, σ6, er5, h⟩ := ub_of h
      refine u_callSi (As := [.int v2]) (rest := []) C G (c_X10_isSlot l D ad cs C.2.2.1 σ4 v2 r5 σ6 er5) (va_cwS 1 C.1.2.2.2.2 gX10_seen_X10_isSlot rfl rfl rfl (by decide +kernel) ⟨Nat.le_of_ble_eq_true rfl, Nat.le_of_ble_eq_true rfl⟩) rfl hl rfl (Nat.le_of_ble_eq_true rfl) dX10_seen_20 (fun H locs G => ?_)
      refine lv_if_eq (tgt := 46) hx hb dX10_seen_23 (by decide) (fun q => ?_) (fun q => ?_)
      · have h := u_pos q h
        refine lv_aload_n hx hb dX10_seen_46 rfl (lv_at hl 0 rfl) ?_
        refine lv_iconst (v := 2) hx hb dX10_seen_47 (by decide) ?_
        obtain ⟨r7, σ8, er7, h⟩ := ub_of h
        refine u_callVi (As := [.int 2]) (rest := []) C G (c_X10_meets l D ad cs C.2.2.1 σ6 (2 : Int32) r7 σ8 er7) (cwV 1 C.1.2.2.2.2 gX10_seen_X10_meets rfl rfl rfl (by decide +kernel) ⟨Nat.le_of_ble_eq_true rfl, Nat.le_of_ble_eq_true rfl⟩) obM_0 (ci := 10) (T := TX10) rfl rfl hl rfl (Nat.le_of_ble_eq_true rfl) dX10_seen_48 (fun H locs G => ?_)
        obtain ⟨rfl, rfl⟩ := u_end h
        exact u_iret hx hb hr hlk G dX10_seen_51
      · have h := u_neg q h
        refine lv_aload_n hx hb dX10_seen_26 rfl (lv_at hl 0 rfl) ?_
        refine u_get (v := .ref (ad 14)) C G obM_0 (ci := 10) (N := 44) (Cn := RX10) (T := TX10) rfl fi_X10_seen_10 16 (by decide) (by decide +kernel) rfl dX10_seen_27 ?_
        refine lv_sipush (v := 150) hx hb dX10_seen_30 (by decide) ?_
        refine lv_iload_n hx hb dX10_seen_33 rfl (lv_at hl 1 rfl) ?_
        refine lv_imul hx hb dX10_seen_34 ?_
        refine lv_bipush (v := 15) hx hb dX10_seen_35 (by decide) ?_
        refine lv_iload_n hx hb dX10_seen_37 rfl (lv_at hl 2 rfl) ?_
        refine lv_imul hx hb dX10_seen_38 ?_
        refine lv_iadd hx hb dX10_seen_39 ?_
        refine lv_iload_n hx hb dX10_seen_40 rfl (lv_at hl 3 rfl) ?_
        refine lv_iadd hx hb dX10_seen_41 ?_
        obtain ⟨g9, h⟩ := ui_of h
        refine u_iald C G arM_14 (t0 := 0) rfl g9 dX10_seen_42 ?_
        refine lv_goto (tgt := 51) hx hb dX10_seen_43 (by decide) ?_
        obtain ⟨rfl, rfl⟩ := u_end h
        exact u_iret hx hb hr hlk G dX10_seen_51
    · have h := u_pos q h
      refine lv_iconst (v := (-1)) hx hb dX10_seen_17 (by decide) ?_
      obtain ⟨rfl, rfl⟩ := u_end h
      exact u_iret hx hb hr hlk G dX10_seen_18
/-! X10_has -/
def f_X10_has (σ : St) (v1 : Int32) (v2 : Int32) (v3 : Int32) : Option (Int32 × St) :=
  ul ((v3 / 15) - v2) fun x1 =>
  ui v1 16 <|
  ub (f_X10_in σ x1 (0 : Int32) ((σ 7 v1.toNatClampNeg) - 1)) fun r3 σ4 =>
  if r3 = 0 then
    some ((0 : Int32), σ4)
  else
    ui ((8 * v1) + x1) 128 <|
    ui (σ4 8 ((8 * v1) + x1).toNatClampNeg) 26 <|
    if (((σ4 2 (σ4 8 ((8 * v1) + x1).toNatClampNeg).toNatClampNeg) >>> ((v3 - v3 / 15 * 15) &&& 31)) &&& 1) = 1 then
      some ((1 : Int32), σ4)
    else
      some ((0 : Int32), σ4)
theorem fi_X10_has_10 : ∀ w ∈ u_ws RX10 TX10 44, w ∈ wsX10_has := by decide +kernel
set_option maxHeartbeats 4000000 in
set_option maxRecDepth 100000 in
theorem c_X10_has (l : Launch) (D : va_G) (ad : Nat → Nat) (cs : Nat → ClassId) (J : uJ 34 ad) (σ : St) (v1 : Int32) (v2 : Int32) (v3 : Int32) (r : Int32) (σ' : St) (h : f_X10_has σ v1 v2 v3 = some (r, σ')) : uMi l yX10_has wsX10_has { frames := 1, cells := 0, slots := 0, locals := 22 } D vwCl (tyM cs) 34 ad (enM ad cs) [.ref (ad 0), .int v1, .int v2, .int v3] σ r σ' := by
  refine u_met (Qf := uQi D vwCl 34 ad (enM ad cs) r σ') (cc := cX10_has) (maxL := 5) (ret := (some .boolean)) (lv := [(0, .ref (ad 0)), (1, .int v1), (2, .int v2), (3, .int v3)]) J (by decide) rfl (Nat.le_of_ble_eq_true rfl) rfl rfl rfl ?_
  intro p e s m args below meth c ls hx hb C hr hlk G hl
  unfold f_X10_has at h
  obtain ⟨H, eH⟩ : ∃ H, H = s.heap := ⟨_, rfl⟩
  obtain ⟨locs, eL⟩ : ∃ locs : List Loc, locs = [] := ⟨_, rfl⟩
  refine u_start eH eL G ?_
  clear G eH eL
  intro G
  refine lv_iload_n hx hb dX10_has_0 rfl (lv_at hl 3 rfl) ?_
  refine lv_bipush (v := 15) hx hb dX10_has_1 (by decide) ?_
  refine lv_idiv hx hb dX10_has_3 (by decide) ?_
  refine lv_iload_n hx hb dX10_has_4 rfl (lv_at hl 2 rfl) ?_
  refine lv_isub hx hb dX10_has_5 ?_
  obtain ⟨x1, ex1, h⟩ := ul_of h
  refine u_nmi ex1 ?_
  refine lv_istore (lv' := [(4, .int x1), (0, .ref (ad 0)), (1, .int v1), (2, .int v2), (3, .int v3)]) hx hb dX10_has_6 hl (by decide) rfl (fun ls hl => ?_)
  refine lv_iload hx hb dX10_has_8 (lv_at hl 0 rfl) ?_
  refine lv_iconst (v := 0) hx hb dX10_has_10 (by decide) ?_
  refine lv_aload_n hx hb dX10_has_11 rfl (lv_at hl 1 rfl) ?_
  refine u_get (v := .ref (ad 7)) C G obM_0 (ci := 10) (N := 44) (Cn := RX10) (T := TX10) rfl fi_X10_has_10 9 (by decide) (by decide +kernel) rfl dX10_has_12 ?_
  refine lv_iload_n hx hb dX10_has_15 rfl (lv_at hl 2 rfl) ?_
  obtain ⟨g2, h⟩ := ui_of h
  refine u_iald C G arM_7 (t0 := 0) rfl g2 dX10_has_16 ?_
  refine lv_iconst (v := 1) hx hb dX10_has_17 (by decide) ?_
  refine lv_isub hx hb dX10_has_18 ?_
  obtain ⟨r3, σ4, er3, h⟩ := ub_of h
  refine u_callSi (As := [.int x1, .int 0, .int ((σ 7 v1.toNatClampNeg) - 1)]) (rest := []) C G (c_X10_in l D ad cs C.2.2.1 σ x1 (0 : Int32) ((σ 7 v1.toNatClampNeg) - 1) r3 σ4 er3) (va_cwS 3 C.1.2.2.2.2 gX10_has_X10_in rfl rfl rfl (by decide +kernel) ⟨Nat.le_of_ble_eq_true rfl, Nat.le_of_ble_eq_true rfl⟩) rfl hl rfl (Nat.le_of_ble_eq_true rfl) dX10_has_19 (fun H locs G => ?_)
  refine lv_if_eq (tgt := 57) hx hb dX10_has_22 (by decide) (fun q => ?_) (fun q => ?_)
  · have h := u_pos q h
    refine lv_iconst (v := 0) hx hb dX10_has_57 (by decide) ?_
    obtain ⟨rfl, rfl⟩ := u_end h
    exact u_zret hx hb hr hlk G (by decide) dX10_has_58
  · have h := u_neg q h
    refine lv_aload_n hx hb dX10_has_25 rfl (lv_at hl 1 rfl) ?_
    refine u_get (v := .ref (ad 2)) C G obM_0 (ci := 10) (N := 44) (Cn := RX10) (T := TX10) rfl fi_X10_has_10 3 (by decide) (by decide +kernel) rfl dX10_has_26 ?_
    refine lv_aload_n hx hb dX10_has_29 rfl (lv_at hl 1 rfl) ?_
    refine u_get (v := .ref (ad 8)) C G obM_0 (ci := 10) (N := 44) (Cn := RX10) (T := TX10) rfl fi_X10_has_10 10 (by decide) (by decide +kernel) rfl dX10_has_30 ?_
    refine lv_bipush (v := 8) hx hb dX10_has_33 (by decide) ?_
    refine lv_iload_n hx hb dX10_has_35 rfl (lv_at hl 2 rfl) ?_
    refine lv_imul hx hb dX10_has_36 ?_
    refine lv_iload hx hb dX10_has_37 (lv_at hl 0 rfl) ?_
    refine lv_iadd hx hb dX10_has_39 ?_
    obtain ⟨g5, h⟩ := ui_of h
    refine u_iald C G arM_8 (t0 := 0) rfl g5 dX10_has_40 ?_
    obtain ⟨g6, h⟩ := ui_of h
    refine u_iald C G arM_2 (t0 := 0) rfl g6 dX10_has_41 ?_
    refine lv_iload_n hx hb dX10_has_42 rfl (lv_at hl 4 rfl) ?_
    refine lv_bipush (v := 15) hx hb dX10_has_43 (by decide) ?_
    refine lv_irem hx hb dX10_has_45 (by decide) ?_
    refine lv_ishr hx hb dX10_has_46 ?_
    refine lv_iconst (v := 1) hx hb dX10_has_47 (by decide) ?_
    refine lv_iand hx hb dX10_has_48 ?_
    refine lv_iconst (v := 1) hx hb dX10_has_49 (by decide) ?_
    refine lv_icmp_ne (tgt := 57) hx hb dX10_has_50 (by decide) (fun q => ?_) (fun q => ?_)
    · have h := u_neg q h
      refine lv_iconst (v := 0) hx hb dX10_has_57 (by decide) ?_
      obtain ⟨rfl, rfl⟩ := u_end h
      exact u_zret hx hb hr hlk G (by decide) dX10_has_58
    · have h := u_pos q h
      refine lv_iconst (v := 1) hx hb dX10_has_53 (by decide) ?_
      refine lv_goto (tgt := 58) hx hb dX10_has_54 (by decide) ?_
      obtain ⟨rfl, rfl⟩ := u_end h
      exact u_zret hx hb hr hlk G (by decide) dX10_has_58
/-! X10_isOn -/
def f_X10_isOn (σ : St) (v1 : Int32) (v2 : Int32) : Option (Int32 × St) :=
  if v2 < 0 then
    some ((0 : Int32), σ)
  else
    ui v1 16 <|
    if (10 - (σ 7 v1.toNatClampNeg)) < v2 then
      some ((0 : Int32), σ)
    else
      some ((1 : Int32), σ)
theorem fi_X10_isOn_10 : ∀ w ∈ u_ws RX10 TX10 44, w ∈ wsX10_isOn := by decide +kernel
set_option maxHeartbeats 4000000 in
set_option maxRecDepth 100000 in
theorem c_X10_isOn (l : Launch) (D : va_G) (ad : Nat → Nat) (cs : Nat → ClassId) (J : uJ 34 ad) (σ : St) (v1 : Int32) (v2 : Int32) (r : Int32) (σ' : St) (h : f_X10_isOn σ v1 v2 = some (r, σ')) : uMi l yX10_isOn wsX10_isOn { frames := 0, cells := 0, slots := 0, locals := 0 } D vwCl (tyM cs) 34 ad (enM ad cs) [.ref (ad 0), .int v1, .int v2] σ r σ' := by
  refine u_met (Qf := uQi D vwCl 34 ad (enM ad cs) r σ') (cc := cX10_isOn) (maxL := 3) (ret := (some .boolean)) (lv := [(0, .ref (ad 0)), (1, .int v1), (2, .int v2)]) J (by decide) rfl (Nat.le_of_ble_eq_true rfl) rfl rfl rfl ?_
  intro p e s m args below meth c ls hx hb C hr hlk G hl
  unfold f_X10_isOn at h
  obtain ⟨H, eH⟩ : ∃ H, H = s.heap := ⟨_, rfl⟩
  obtain ⟨locs, eL⟩ : ∃ locs : List Loc, locs = [] := ⟨_, rfl⟩
  refine u_start eH eL G ?_
  clear G eH eL
  intro G
  refine lv_iload_n hx hb dX10_isOn_0 rfl (lv_at hl 2 rfl) ?_
  refine lv_if_lt (tgt := 21) hx hb dX10_isOn_1 (by decide) (fun q => ?_) (fun q => ?_)
  · have h := u_pos q h
    refine lv_iconst (v := 0) hx hb dX10_isOn_21 (by decide) ?_
    obtain ⟨rfl, rfl⟩ := u_end h
    exact u_zret hx hb hr hlk G (by decide) dX10_isOn_22
  · have h := u_neg q h
    refine lv_iload_n hx hb dX10_isOn_4 rfl (lv_at hl 2 rfl) ?_
    refine lv_bipush (v := 10) hx hb dX10_isOn_5 (by decide) ?_
    refine lv_aload_n hx hb dX10_isOn_7 rfl (lv_at hl 0 rfl) ?_
    refine u_get (v := .ref (ad 7)) C G obM_0 (ci := 10) (N := 44) (Cn := RX10) (T := TX10) rfl fi_X10_isOn_10 9 (by decide) (by decide +kernel) rfl dX10_isOn_8 ?_
    refine lv_iload_n hx hb dX10_isOn_11 rfl (lv_at hl 1 rfl) ?_
    obtain ⟨g1, h⟩ := ui_of h
    refine u_iald C G arM_7 (t0 := 0) rfl g1 dX10_isOn_12 ?_
    refine lv_isub hx hb dX10_isOn_13 ?_
    refine lv_icmp_gt (tgt := 21) hx hb dX10_isOn_14 (by decide) (fun q => ?_) (fun q => ?_)
    · have h := u_pos q h
      refine lv_iconst (v := 0) hx hb dX10_isOn_21 (by decide) ?_
      obtain ⟨rfl, rfl⟩ := u_end h
      exact u_zret hx hb hr hlk G (by decide) dX10_isOn_22
    · have h := u_neg q h
      refine lv_iconst (v := 1) hx hb dX10_isOn_17 (by decide) ?_
      refine lv_goto (tgt := 22) hx hb dX10_isOn_18 (by decide) ?_
      obtain ⟨rfl, rfl⟩ := u_end h
      exact u_zret hx hb hr hlk G (by decide) dX10_isOn_22
/-! X10_lackOf -/
def f_X10_lackOf_54 (k6 : St → Int32 → Int32 → Int32 → Int32 → Int32 → Int32 → Option (Int32 × St)) (σ : St) (v1 : Int32) (v2 : Int32) (v3 : Int32) (v4 : Int32) (v5 : Int32) (v6 : Int32) (v7 : Int32) (v8 : Int32) : Option (Int32 × St) :=
  if v8 = 0 then
    ul (v5 + 0) fun x5 =>
    ul (v6 + 1) fun x6 =>
    k6 σ v1 v2 v3 v4 x5 x6
  else
    if v7 = 4 then
      ul (v5 + 0) fun x7 =>
      ul (v6 + 1) fun x8 =>
      k6 σ v1 v2 v3 v4 x7 x8
    else
      if v7 = v4 then
        ul (v5 + 0) fun x9 =>
        ul (v6 + 1) fun x10 =>
        k6 σ v1 v2 v3 v4 x9 x10
      else
        ul (v5 + 1) fun x11 =>
        ul (v6 + 1) fun x12 =>
        k6 σ v1 v2 v3 v4 x11 x12
def f_X10_lackOf_6 : Nat → St → Int32 → Int32 → Int32 → Int32 → Int32 → Int32 → Option (Int32 × St)
  | 0, _, _, _, _, _, _, _ => none
  | fuel + 1, σ, v1, v2, v3, v4, v5, v6 =>
    if 150 ≤ v6 then
      some (v5, σ)
    else
      ui ((150 * v1) + v6) 600 <|
      ul (σ 14 ((150 * v1) + v6).toNatClampNeg) fun x2 =>
      ub (f_X10_has σ v2 v3 v6) fun r3 σ4 =>
      if x2 = v4 then
        if r3 = 0 then
          some (((-9) : Int32), σ4)
        else
          f_X10_lackOf_54 (f_X10_lackOf_6 fuel) σ4 v1 v2 v3 v4 v5 v6 x2 r3
      else
        f_X10_lackOf_54 (f_X10_lackOf_6 fuel) σ4 v1 v2 v3 v4 v5 v6 x2 r3
def f_X10_lackOf (σ : St) (v1 : Int32) (v2 : Int32) (v3 : Int32) (v4 : Int32) : Option (Int32 × St) :=
  f_X10_lackOf_6 fu σ v1 v2 v3 v4 0 0
theorem fi_X10_lackOf_10 : ∀ w ∈ u_ws RX10 TX10 44, w ∈ wsX10_lackOf := by decide +kernel
set_option maxHeartbeats 4000000 in
set_option maxRecDepth 100000 in
theorem w_X10_lackOf_54 {p : Program} {l : Launch} {e : Env} {s : State} {m : MethodId} {args : Array Value} {below : List Frame} {meth : Method} {c : Code} {D : va_G} {ad : Nat → Nat} {cs : Nat → ClassId} (C : uC p { frames := 2, cells := 0, slots := 0, locals := 46 } s m args c cX10_lackOf 9 wsX10_lackOf RX10 D vwCl (tyM cs) 34 ad (uAd 34 ad s.heap.size) 0 0) (hr : meth.sig.returnType = (some .int)) (hlk : meth.locks = false) {r : Int32} {σ' : St} {k6 : St → Int32 → Int32 → Int32 → Int32 → Int32 → Int32 → Option (Int32 × St)} (hk6 : ∀ (σ : St) (v1 : Int32) (v2 : Int32) (v3 : Int32) (v4 : Int32) (v5 : Int32) (v6 : Int32), k6 σ v1 v2 v3 v4 v5 v6 = some (r, σ') → ∀ (H : Heap) (locs : List Loc) (ls : Array Slot), uG D vwCl 34 ad (enM ad cs) (uAd 34 ad s.heap.size) s σ H locs → lv_has ls 9 [(0, .ref (ad 0)), (1, .int v1), (2, .int v2), (3, .int v3), (4, .int v4), (5, .int v5), (6, .int v6)] → W p l e { frames := 2, cells := 0, slots := 0, locals := 46 } s m args below meth c H locs 0 0 (MQ below (uQi D vwCl 34 ad (enM ad cs) r σ' s.heap.size) args s 0 0 (uAd 34 ad s.heap.size)) (F0 m 6 ls [])) :
    ∀ (σ : St) (v1 : Int32) (v2 : Int32) (v3 : Int32) (v4 : Int32) (v5 : Int32) (v6 : Int32) (v7 : Int32) (v8 : Int32), f_X10_lackOf_54 k6 σ v1 v2 v3 v4 v5 v6 v7 v8 = some (r, σ') → ∀ (H : Heap) (locs : List Loc) (ls : Array Slot), uG D vwCl 34 ad (enM ad cs) (uAd 34 ad s.heap.size) s σ H locs → lv_has ls 9 [(0, .ref (ad 0)), (1, .int v1), (2, .int v2), (3, .int v3), (4, .int v4), (5, .int v5), (6, .int v6), (7, .int v7), (8, .int v8)] → W p l e { frames := 2, cells := 0, slots := 0, locals := 46 } s m args below meth c H locs 0 0 (MQ below (uQi D vwCl 34 ad (enM ad cs) r σ' s.heap.size) args s 0 0 (uAd 34 ad s.heap.size)) (F0 m 54 ls []) := by
  have hx := C.1.1
  have hb := C.1.2.1
  intro σ v1 v2 v3 v4 v5 v6 v7 v8  h H locs ls G hl
  unfold f_X10_lackOf_54 at h
  refine lv_iload hx hb dX10_lackOf_54 (lv_at hl 5 rfl) ?_
  refine lv_iload hx hb dX10_lackOf_56 (lv_at hl 8 rfl) ?_
  refine lv_if_eq (tgt := 78) hx hb dX10_lackOf_58 (by decide) (fun q => ?_) (fun q => ?_)
  · have h := u_pos q h
    refine lv_iconst (v := 0) hx hb dX10_lackOf_78 (by decide) ?_
    refine lv_iadd hx hb dX10_lackOf_79 ?_
    obtain ⟨x5, ex5, h⟩ := ul_of h
    refine u_nmi ex5 ?_
    refine lv_istore (lv' := [(5, .int x5), (0, .ref (ad 0)), (1, .int v1), (2, .int v2), (3, .int v3), (4, .int v4), (6, .int v6), (7, .int v7), (8, .int v8)]) hx hb dX10_lackOf_80 hl (by decide) rfl (fun ls hl => ?_)
    obtain ⟨x6, ex6, h⟩ := ul_of h
    refine lv_iinc (v := x6) (lv' := [(6, .int x6), (5, .int x5), (0, .ref (ad 0)), (1, .int v1), (2, .int v2), (3, .int v3), (4, .int v4), (7, .int v7), (8, .int v8)]) hx hb dX10_lackOf_82 hl (k := 6) rfl (by rw [ex6]; rfl) (by decide) rfl (fun ls hl => ?_)
    refine lv_goto (tgt := 6) hx hb dX10_lackOf_85 (by decide) ?_
    exact hk6 σ v1 v2 v3 v4 x5 x6 h H locs ls G (lv_sub hl [2, 3, 4, 5, 6, 1, 0] rfl)
  · have h := u_neg q h
    refine lv_iload hx hb dX10_lackOf_61 (lv_at hl 7 rfl) ?_
    refine lv_iconst (v := 4) hx hb dX10_lackOf_63 (by decide) ?_
    refine lv_icmp_eq (tgt := 78) hx hb dX10_lackOf_64 (by decide) (fun q => ?_) (fun q => ?_)
    · have h := u_pos q h
      refine lv_iconst (v := 0) hx hb dX10_lackOf_78 (by decide) ?_
      refine lv_iadd hx hb dX10_lackOf_79 ?_
      obtain ⟨x7, ex7, h⟩ := ul_of h
      refine u_nmi ex7 ?_
      refine lv_istore (lv' := [(5, .int x7), (0, .ref (ad 0)), (1, .int v1), (2, .int v2), (3, .int v3), (4, .int v4), (6, .int v6), (7, .int v7), (8, .int v8)]) hx hb dX10_lackOf_80 hl (by decide) rfl (fun ls hl => ?_)
      obtain ⟨x8, ex8, h⟩ := ul_of h
      refine lv_iinc (v := x8) (lv' := [(6, .int x8), (5, .int x7), (0, .ref (ad 0)), (1, .int v1), (2, .int v2), (3, .int v3), (4, .int v4), (7, .int v7), (8, .int v8)]) hx hb dX10_lackOf_82 hl (k := 6) rfl (by rw [ex8]; rfl) (by decide) rfl (fun ls hl => ?_)
      refine lv_goto (tgt := 6) hx hb dX10_lackOf_85 (by decide) ?_
      exact hk6 σ v1 v2 v3 v4 x7 x8 h H locs ls G (lv_sub hl [2, 3, 4, 5, 6, 1, 0] rfl)
    · have h := u_neg q h
      refine lv_iload hx hb dX10_lackOf_67 (lv_at hl 7 rfl) ?_
      refine lv_iload hx hb dX10_lackOf_69 (lv_at hl 4 rfl) ?_
      refine lv_icmp_eq (tgt := 78) hx hb dX10_lackOf_71 (by decide) (fun q => ?_) (fun q => ?_)
      · have h := u_pos q h
        refine lv_iconst (v := 0) hx hb dX10_lackOf_78 (by decide) ?_
        refine lv_iadd hx hb dX10_lackOf_79 ?_
        obtain ⟨x9, ex9, h⟩ := ul_of h
        refine u_nmi ex9 ?_
        refine lv_istore (lv' := [(5, .int x9), (0, .ref (ad 0)), (1, .int v1), (2, .int v2), (3, .int v3), (4, .int v4), (6, .int v6), (7, .int v7), (8, .int v8)]) hx hb dX10_lackOf_80 hl (by decide) rfl (fun ls hl => ?_)
        obtain ⟨x10, ex10, h⟩ := ul_of h
        refine lv_iinc (v := x10) (lv' := [(6, .int x10), (5, .int x9), (0, .ref (ad 0)), (1, .int v1), (2, .int v2), (3, .int v3), (4, .int v4), (7, .int v7), (8, .int v8)]) hx hb dX10_lackOf_82 hl (k := 6) rfl (by rw [ex10]; rfl) (by decide) rfl (fun ls hl => ?_)
        refine lv_goto (tgt := 6) hx hb dX10_lackOf_85 (by decide) ?_
        exact hk6 σ v1 v2 v3 v4 x9 x10 h H locs ls G (lv_sub hl [2, 3, 4, 5, 6, 1, 0] rfl)
      · have h := u_neg q h
        refine lv_iconst (v := 1) hx hb dX10_lackOf_74 (by decide) ?_
        refine lv_goto (tgt := 79) hx hb dX10_lackOf_75 (by decide) ?_
        refine lv_iadd hx hb dX10_lackOf_79 ?_
        obtain ⟨x11, ex11, h⟩ := ul_of h
        refine u_nmi ex11 ?_
        refine lv_istore (lv' := [(5, .int x11), (0, .ref (ad 0)), (1, .int v1), (2, .int v2), (3, .int v3), (4, .int v4), (6, .int v6), (7, .int v7), (8, .int v8)]) hx hb dX10_lackOf_80 hl (by decide) rfl (fun ls hl => ?_)
        obtain ⟨x12, ex12, h⟩ := ul_of h
        refine lv_iinc (v := x12) (lv' := [(6, .int x12), (5, .int x11), (0, .ref (ad 0)), (1, .int v1), (2, .int v2), (3, .int v3), (4, .int v4), (7, .int v7), (8, .int v8)]) hx hb dX10_lackOf_82 hl (k := 6) rfl (by rw [ex12]; rfl) (by decide) rfl (fun ls hl => ?_)
        refine lv_goto (tgt := 6) hx hb dX10_lackOf_85 (by decide) ?_
        exact hk6 σ v1 v2 v3 v4 x11 x12 h H locs ls G (lv_sub hl [2, 3, 4, 5, 6, 1, 0] rfl)
set_option maxHeartbeats 4000000 in
set_option maxRecDepth 100000 in
theorem w_X10_lackOf_6 {p : Program} {l : Launch} {e : Env} {s : State} {m : MethodId} {args : Array Value} {below : List Frame} {meth : Method} {c : Code} {D : va_G} {ad : Nat → Nat} {cs : Nat → ClassId} (C : uC p { frames := 2, cells := 0, slots := 0, locals := 46 } s m args c cX10_lackOf 9 wsX10_lackOf RX10 D vwCl (tyM cs) 34 ad (uAd 34 ad s.heap.size) 0 0) (hr : meth.sig.returnType = (some .int)) (hlk : meth.locks = false) {r : Int32} {σ' : St} :
    ∀ (n : Nat) (σ : St) (v1 : Int32) (v2 : Int32) (v3 : Int32) (v4 : Int32) (v5 : Int32) (v6 : Int32), f_X10_lackOf_6 n σ v1 v2 v3 v4 v5 v6 = some (r, σ') → ∀ (H : Heap) (locs : List Loc) (ls : Array Slot), uG D vwCl 34 ad (enM ad cs) (uAd 34 ad s.heap.size) s σ H locs → lv_has ls 9 [(0, .ref (ad 0)), (1, .int v1), (2, .int v2), (3, .int v3), (4, .int v4), (5, .int v5), (6, .int v6)] → W p l e { frames := 2, cells := 0, slots := 0, locals := 46 } s m args below meth c H locs 0 0 (MQ below (uQi D vwCl 34 ad (enM ad cs) r σ' s.heap.size) args s 0 0 (uAd 34 ad s.heap.size)) (F0 m 6 ls []) := by
  have hx := C.1.1
  have hb := C.1.2.1
  intro n
  induction n with
  | zero => intro σ v1 v2 v3 v4 v5 v6  h; exact absurd h (by simp [f_X10_lackOf_6])
  | succ fuel ih =>
    intro σ v1 v2 v3 v4 v5 v6  h H locs ls G hl
    rw [f_X10_lackOf_6] at h
    refine lv_iload hx hb dX10_lackOf_6 (lv_at hl 6 rfl) ?_
    refine lv_sipush (v := 150) hx hb dX10_lackOf_8 (by decide) ?_
    refine lv_icmp_ge (tgt := 88) hx hb dX10_lackOf_11 (by decide) (fun q => ?_) (fun q => ?_)
    · have h := u_pos q h
      refine lv_iload hx hb dX10_lackOf_88 (lv_at hl 5 rfl) ?_
      obtain ⟨rfl, rfl⟩ := u_end h
      exact u_iret hx hb hr hlk G dX10_lackOf_90
    · have h := u_neg q h
      refine lv_aload_n hx hb dX10_lackOf_14 rfl (lv_at hl 0 rfl) ?_
      refine u_get (v := .ref (ad 14)) C G obM_0 (ci := 10) (N := 44) (Cn := RX10) (T := TX10) rfl fi_X10_lackOf_10 16 (by decide) (by decide +kernel) rfl dX10_lackOf_15 ?_
      refine lv_sipush (v := 150) hx hb dX10_lackOf_18 (by decide) ?_
      refine lv_iload_n hx hb dX10_lackOf_21 rfl (lv_at hl 1 rfl) ?_
      refine lv_imul hx hb dX10_lackOf_22 ?_
      refine lv_iload hx hb dX10_lackOf_23 (lv_at hl 6 rfl) ?_
      refine lv_iadd hx hb dX10_lackOf_25 ?_
      obtain ⟨g1, h⟩ := ui_of h
      refine u_iald C G arM_14 (t0 := 0) rfl g1 dX10_lackOf_26 ?_
      obtain ⟨x2, ex2, h⟩ := ul_of h
      refine u_nmi ex2 ?_
      refine lv_istore (lv' := [(7, .int x2), (0, .ref (ad 0)), (1, .int v1), (2, .int v2), (3, .int v3), (4, .int v4), (5, .int v5), (6, .int v6)]) hx hb dX10_lackOf_27 hl (by decide) rfl (fun ls hl => ?_)
      refine lv_aload_n hx hb dX10_lackOf_29 rfl (lv_at hl 1 rfl) ?_
      refine lv_iload_n hx hb dX10_lackOf_30 rfl (lv_at hl 3 rfl) ?_
      refine lv_iload_n hx hb dX10_lackOf_31 rfl (lv_at hl 4 rfl) ?_
      refine lv_iload hx hb dX10_lackOf_32 (lv_at hl 7 rfl) ?_
      obtain ⟨r3, σ4, er3, h⟩ := ub_of h
      refine u_callVi (As := [.int v2, .int v3, .int v6]) (rest := []) C G (c_X10_has l D ad cs C.2.2.1 σ v2 v3 v6 r3 σ4 er3) (cwV 3 C.1.2.2.2.2 gX10_lackOf_X10_has rfl rfl rfl (by decide +kernel) ⟨Nat.le_of_ble_eq_true rfl, Nat.le_of_ble_eq_true rfl⟩) obM_0 (ci := 10) (T := TX10) rfl rfl hl rfl (Nat.le_of_ble_eq_true rfl) dX10_lackOf_34 (fun H locs G => ?_)
      refine lv_istore (lv' := [(8, .int r3), (7, .int x2), (0, .ref (ad 0)), (1, .int v1), (2, .int v2), (3, .int v3), (4, .int v4), (5, .int v5), (6, .int v6)]) hx hb dX10_lackOf_37 hl (by decide) rfl (fun ls hl => ?_)
      refine lv_iload hx hb dX10_lackOf_39 (lv_at hl 1 rfl) ?_
      refine lv_iload hx hb dX10_lackOf_41 (lv_at hl 6 rfl) ?_
      refine lv_icmp_ne (tgt := 54) hx hb dX10_lackOf_43 (by decide) (fun q => ?_) (fun q => ?_)
      · have h := u_neg q h
        exact w_X10_lackOf_54 C hr hlk ih σ4 v1 v2 v3 v4 v5 v6 x2 r3 h H locs ls G (lv_sub hl [2, 3, 4, 5, 6, 7, 8, 1, 0] rfl)
      · have h := u_pos q h
        refine lv_iload hx hb dX10_lackOf_46 (lv_at hl 0 rfl) ?_
        refine lv_if_ne (tgt := 54) hx hb dX10_lackOf_48 (by decide) (fun q => ?_) (fun q => ?_)
        · have h := u_neg q h
          exact w_X10_lackOf_54 C hr hlk ih σ4 v1 v2 v3 v4 v5 v6 x2 r3 h H locs ls G (lv_sub hl [2, 3, 4, 5, 6, 7, 8, 1, 0] rfl)
        · have h := u_pos q h
          refine lv_bipush (v := (-9)) hx hb dX10_lackOf_51 (by decide) ?_
          obtain ⟨rfl, rfl⟩ := u_end h
          exact u_iret hx hb hr hlk G dX10_lackOf_53
set_option maxHeartbeats 4000000 in
set_option maxRecDepth 100000 in
theorem c_X10_lackOf (l : Launch) (D : va_G) (ad : Nat → Nat) (cs : Nat → ClassId) (J : uJ 34 ad) (σ : St) (v1 : Int32) (v2 : Int32) (v3 : Int32) (v4 : Int32) (r : Int32) (σ' : St) (h : f_X10_lackOf σ v1 v2 v3 v4 = some (r, σ')) : uMi l yX10_lackOf wsX10_lackOf { frames := 2, cells := 0, slots := 0, locals := 46 } D vwCl (tyM cs) 34 ad (enM ad cs) [.ref (ad 0), .int v1, .int v2, .int v3, .int v4] σ r σ' := by
  refine u_met (Qf := uQi D vwCl 34 ad (enM ad cs) r σ') (cc := cX10_lackOf) (maxL := 9) (ret := (some .int)) (lv := [(0, .ref (ad 0)), (1, .int v1), (2, .int v2), (3, .int v3), (4, .int v4)]) J (by decide) rfl (Nat.le_of_ble_eq_true rfl) rfl rfl rfl ?_
  intro p e s m args below meth c ls hx hb C hr hlk G hl
  unfold f_X10_lackOf at h
  obtain ⟨H, eH⟩ : ∃ H, H = s.heap := ⟨_, rfl⟩
  obtain ⟨locs, eL⟩ : ∃ locs : List Loc, locs = [] := ⟨_, rfl⟩
  refine u_start eH eL G ?_
  clear G eH eL
  intro G
  refine lv_iconst (v := 0) hx hb dX10_lackOf_0 (by decide) ?_
  refine lv_istore (lv' := [(5, .int 0), (0, .ref (ad 0)), (1, .int v1), (2, .int v2), (3, .int v3), (4, .int v4)]) hx hb dX10_lackOf_1 hl (by decide) rfl (fun ls hl => ?_)
  refine lv_iconst (v := 0) hx hb dX10_lackOf_3 (by decide) ?_
  refine lv_istore (lv' := [(6, .int 0), (5, .int 0), (0, .ref (ad 0)), (1, .int v1), (2, .int v2), (3, .int v3), (4, .int v4)]) hx hb dX10_lackOf_4 hl (by decide) rfl (fun ls hl => ?_)
  exact w_X10_lackOf_6 C hr hlk fu σ v1 v2 v3 v4 0 0 h H locs ls G (lv_sub hl [2, 3, 4, 5, 6, 1, 0] rfl)
/-! X10_lack -/
def f_X10_lack (σ : St) (v1 : Int32) (v2 : Int32) (v3 : Int32) (v4 : Int32) : Option (Int32 × St) :=
  ub (f_X10_isLine σ v1) fun r1 σ2 =>
  if r1 = 0 then
    some (((-1) : Int32), σ2)
  else
    ub (f_X10_isColour σ2 v4) fun r3 σ4 =>
    if r3 = 0 then
      some (((-1) : Int32), σ4)
    else
      ub (f_X10_askedFor σ4 v2) fun r5 σ6 =>
      if 0 ≤ r5 then
        ub (f_X10_isOn σ6 v2 v3) fun r7 σ8 =>
        if r7 = 0 then
          ub (f_X10_meets σ8 (2 : Int32)) fun r9 σ10 =>
          some (r9, σ10)
        else
          ub (f_X10_lackOf σ8 v1 v2 v3 v4) fun r11 σ12 =>
          some (r11, σ12)
      else
        some (r5, σ6)
set_option maxHeartbeats 4000000 in
set_option maxRecDepth 100000 in
theorem c_X10_lack (l : Launch) (D : va_G) (ad : Nat → Nat) (cs : Nat → ClassId) (J : uJ 34 ad) (σ : St) (v1 : Int32) (v2 : Int32) (v3 : Int32) (v4 : Int32) (r : Int32) (σ' : St) (h : f_X10_lack σ v1 v2 v3 v4 = some (r, σ')) : uMi l yX10_lack wsX10_lack { frames := 3, cells := 0, slots := 0, locals := 74 } D vwCl (tyM cs) 34 ad (enM ad cs) [.ref (ad 0), .int v1, .int v2, .int v3, .int v4] σ r σ' := by
  refine u_met (Qf := uQi D vwCl 34 ad (enM ad cs) r σ') (cc := cX10_lack) (maxL := 6) (ret := (some .int)) (lv := [(0, .ref (ad 0)), (1, .int v1), (2, .int v2), (3, .int v3), (4, .int v4)]) J (by decide) rfl (Nat.le_of_ble_eq_true rfl) rfl rfl rfl ?_
  intro p e s m args below meth c ls hx hb C hr hlk G hl
  unfold f_X10_lack at h
  obtain ⟨H, eH⟩ : ∃ H, H = s.heap := ⟨_, rfl⟩
  obtain ⟨locs, eL⟩ : ∃ locs : List Loc, locs = [] := ⟨_, rfl⟩
  refine u_start eH eL G ?_
  clear G eH eL
  intro G
  refine lv_iload_n hx hb dX10_lack_0 rfl (lv_at hl 1 rfl) ?_
  obtain ⟨r1, σ2, er1, h⟩ := ub_of h
  refine u_callSi (As := [.int v1]) (rest := []) C G (c_X10_isLine l D ad cs C.2.2.1 σ v1 r1 σ2 er1) (va_cwS 1 C.1.2.2.2.2 gX10_lack_X10_isLine rfl rfl rfl (by decide +kernel) ⟨Nat.le_of_ble_eq_true rfl, Nat.le_of_ble_eq_true rfl⟩) rfl hl rfl (Nat.le_of_ble_eq_true rfl) dX10_lack_1 (fun H locs G => ?_)
  refine lv_if_eq (tgt := 15) hx hb dX10_lack_4 (by decide) (fun q => ?_) (fun q => ?_)
  · have h := u_pos q h
    refine lv_iconst (v := (-1)) hx hb dX10_lack_15 (by decide) ?_
    obtain ⟨rfl, rfl⟩ := u_end h
    exact u_iret hx hb hr hlk G dX10_lack_16
  · have h := u_neg q h
    refine lv_iload hx hb dX10_lack_7 (lv_at hl 4 rfl) ?_
    obtain ⟨r3, σ4, er3, h⟩ := ub_of h
    refine u_callSi (As := [.int v4]) (rest := []) C G (c_X10_isColour l D ad cs C.2.2.1 σ2 v4 r3 σ4 er3) (va_cwS 1 C.1.2.2.2.2 gX10_lack_X10_isColour rfl rfl rfl (by decide +kernel) ⟨Nat.le_of_ble_eq_true rfl, Nat.le_of_ble_eq_true rfl⟩) rfl hl rfl (Nat.le_of_ble_eq_true rfl) dX10_lack_9 (fun H locs G => ?_)
    refine lv_if_ne (tgt := 17) hx hb dX10_lack_12 (by decide) (fun q => ?_) (fun q => ?_)
    · have h := u_neg q h
      refine lv_aload_n hx hb dX10_lack_17 rfl (lv_at hl 0 rfl) ?_
      refine lv_iload_n hx hb dX10_lack_18 rfl (lv_at hl 2 rfl) ?_
      obtain ⟨r5, σ6, er5, h⟩ := ub_of h
      refine u_callVi (As := [.int v2]) (rest := []) C G (c_X10_askedFor l D ad cs C.2.2.1 σ4 v2 r5 σ6 er5) (cwV 1 C.1.2.2.2.2 gX10_lack_X10_askedFor rfl rfl rfl (by decide +kernel) ⟨Nat.le_of_ble_eq_true rfl, Nat.le_of_ble_eq_true rfl⟩) obM_0 (ci := 10) (T := TX10) rfl rfl hl rfl (Nat.le_of_ble_eq_true rfl) dX10_lack_19 (fun H locs G => ?_)
      refine lv_istore (lv' := [(5, .int r5), (0, .ref (ad 0)), (1, .int v1), (2, .int v2), (3, .int v3), (4, .int v4)]) hx hb dX10_lack_22 hl (by decide) rfl (fun ls hl => ?_)
      refine lv_iload hx hb dX10_lack_24 (lv_at hl 0 rfl) ?_
      refine lv_if_ge (tgt := 32) hx hb dX10_lack_26 (by decide) (fun q => ?_) (fun q => ?_)
      · have h := u_pos q h
        refine lv_aload_n hx hb dX10_lack_32 rfl (lv_at hl 1 rfl) ?_
        refine lv_iload_n hx hb dX10_lack_33 rfl (lv_at hl 3 rfl) ?_
        refine lv_iload_n hx hb dX10_lack_34 rfl (lv_at hl 4 rfl) ?_
        obtain ⟨r7, σ8, er7, h⟩ := ub_of h
        refine u_callVi (As := [.int v2, .int v3]) (rest := []) C G (c_X10_isOn l D ad cs C.2.2.1 σ6 v2 v3 r7 σ8 er7) (cwV 2 C.1.2.2.2.2 gX10_lack_X10_isOn rfl rfl rfl (by decide +kernel) ⟨Nat.le_of_ble_eq_true rfl, Nat.le_of_ble_eq_true rfl⟩) obM_0 (ci := 10) (T := TX10) rfl rfl hl rfl (Nat.le_of_ble_eq_true rfl) dX10_lack_35 (fun H locs G => ?_)
        refine lv_if_eq (tgt := 53) hx hb dX10_lack_38 (by decide) (fun q => ?_) (fun q => ?_)
        · have h := u_pos q h
          refine lv_aload_n hx hb dX10_lack_53 rfl (lv_at hl 1 rfl) ?_
          refine lv_iconst (v := 2) hx hb dX10_lack_54 (by decide) ?_
          obtain ⟨r9, σ10, er9, h⟩ := ub_of h
          refine u_callVi (As := [.int 2]) (rest := []) C G (c_X10_meets l D ad cs C.2.2.1 σ8 (2 : Int32) r9 σ10 er9) (cwV 1 C.1.2.2.2.2 gX10_lack_X10_meets rfl rfl rfl (by decide +kernel) ⟨Nat.le_of_ble_eq_true rfl, Nat.le_of_ble_eq_true rfl⟩) obM_0 (ci := 10) (T := TX10) rfl rfl hl rfl (Nat.le_of_ble_eq_true rfl) dX10_lack_55 (fun H locs G => ?_)
          obtain ⟨rfl, rfl⟩ := u_end h
          exact u_iret hx hb hr hlk G dX10_lack_58
        · have h := u_neg q h
          refine lv_aload_n hx hb dX10_lack_41 rfl (lv_at hl 1 rfl) ?_
          refine lv_iload_n hx hb dX10_lack_42 rfl (lv_at hl 2 rfl) ?_
          refine lv_iload_n hx hb dX10_lack_43 rfl (lv_at hl 3 rfl) ?_
          refine lv_iload_n hx hb dX10_lack_44 rfl (lv_at hl 4 rfl) ?_
          refine lv_iload hx hb dX10_lack_45 (lv_at hl 5 rfl) ?_
          obtain ⟨r11, σ12, er11, h⟩ := ub_of h
          refine u_callVi (As := [.int v1, .int v2, .int v3, .int v4]) (rest := []) C G (c_X10_lackOf l D ad cs C.2.2.1 σ8 v1 v2 v3 v4 r11 σ12 er11) (cwV 4 C.1.2.2.2.2 gX10_lack_X10_lackOf rfl rfl rfl (by decide +kernel) ⟨Nat.le_of_ble_eq_true rfl, Nat.le_of_ble_eq_true rfl⟩) obM_0 (ci := 10) (T := TX10) rfl rfl hl rfl (Nat.le_of_ble_eq_true rfl) dX10_lack_47 (fun H locs G => ?_)
          refine lv_goto (tgt := 58) hx hb dX10_lack_50 (by decide) ?_
          obtain ⟨rfl, rfl⟩ := u_end h
          exact u_iret hx hb hr hlk G dX10_lack_58
      · have h := u_neg q h
        refine lv_iload hx hb dX10_lack_29 (lv_at hl 0 rfl) ?_
        obtain ⟨rfl, rfl⟩ := u_end h
        exact u_iret hx hb hr hlk G dX10_lack_31
    · have h := u_pos q h
      refine lv_iconst (v := (-1)) hx hb dX10_lack_15 (by decide) ?_
      obtain ⟨rfl, rfl⟩ := u_end h
      exact u_iret hx hb hr hlk G dX10_lack_16
/-! X10_setRivals -/
def f_X10_setRivals_87 (k11 : St → Int32 → Int32 → Int32 → Int32 → Option (Unit × St)) (k23 : St → Int32 → Int32 → Int32 → Int32 → Int32 → Option (Unit × St)) (σ : St) (v1 : Int32) (v2 : Int32) (v3 : Int32) (v4 : Int32) (v5 : Int32) (v6 : Int32) : Option (Unit × St) :=
  if v6 = v3 then
    ul (us σ 0 17 (σ 0 17)) fun σ17 =>
    ui (σ17 0 17) 160 <|
    ul (us σ17 15 (σ17 0 17).toNatClampNeg ((10 * v4) + v5)) fun σ19 =>
    ul (us σ19 0 17 ((σ19 0 17) + 1)) fun σ20 =>
    ul (v5 + 1) fun x21 =>
    k23 σ20 v1 v2 v6 v4 x21
  else
    ul (us σ 0 17 0) fun σ12 =>
    ui (σ12 0 17) 160 <|
    ul (us σ12 15 (σ12 0 17).toNatClampNeg ((10 * v4) + v5)) fun σ14 =>
    ul (us σ14 0 17 ((σ14 0 17) + 1)) fun σ15 =>
    ul (v5 + 1) fun x16 =>
    k23 σ15 v1 v2 v6 v4 x16
def f_X10_setRivals_23 (k11 : St → Int32 → Int32 → Int32 → Int32 → Option (Unit × St)) : Nat → St → Int32 → Int32 → Int32 → Int32 → Int32 → Option (Unit × St)
  | 0, _, _, _, _, _, _ => none
  | fuel + 1, σ, v1, v2, v3, v4, v5 =>
    if 10 ≤ v5 then
      ul (v4 + 1) fun x2 =>
      k11 σ v1 v2 v3 x2
    else
      ui v4 16 <|
      if (σ 9 v4.toNatClampNeg) = 0 then
        ub (f_X10_isOn σ v4 v5) fun r5 σ6 =>
        if r5 = 0 then
          ul (v5 + 1) fun x7 =>
          f_X10_setRivals_23 k11 fuel σ6 v1 v2 v3 v4 x7
        else
          ub (f_X10_lackOf σ6 v1 v4 v5 v2) fun r8 σ9 =>
          if r8 = (-9) then
            ul (v5 + 1) fun x10 =>
            f_X10_setRivals_23 k11 fuel σ9 v1 v2 v3 v4 x10
          else
            if v3 = (-9) then
              f_X10_setRivals_87 k11 (f_X10_setRivals_23 k11 fuel) σ9 v1 v2 v3 v4 v5 r8
            else
              if v3 < r8 then
                ul (v5 + 1) fun x11 =>
                f_X10_setRivals_23 k11 fuel σ9 v1 v2 v3 v4 x11
              else
                f_X10_setRivals_87 k11 (f_X10_setRivals_23 k11 fuel) σ9 v1 v2 v3 v4 v5 r8
      else
        ul (v4 + 1) fun x4 =>
        k11 σ v1 v2 v3 x4
def f_X10_setRivals_11 : Nat → St → Int32 → Int32 → Int32 → Int32 → Option (Unit × St)
  | 0, _, _, _, _, _ => none
  | fuel + 1, σ, v1, v2, v3, v4 =>
    if (σ 0 7) ≤ v4 then
      some ((), σ)
    else
      f_X10_setRivals_23 (f_X10_setRivals_11 fuel) fu σ v1 v2 v3 v4 0
def f_X10_setRivals (σ : St) (v1 : Int32) (v2 : Int32) : Option (Unit × St) :=
  ul (us σ 0 17 0) fun σ1 =>
  f_X10_setRivals_11 fu σ1 v1 v2 (-9) 0
theorem fi_X10_setRivals_10 : ∀ w ∈ u_ws RX10 TX10 44, w ∈ wsX10_setRivals := by decide +kernel
set_option maxHeartbeats 4000000 in
set_option maxRecDepth 100000 in
theorem w_X10_setRivals_87 {p : Program} {l : Launch} {e : Env} {s : State} {m : MethodId} {args : Array Value} {below : List Frame} {meth : Method} {c : Code} {D : va_G} {ad : Nat → Nat} {cs : Nat → ClassId} (C : uC p { frames := 3, cells := 0, slots := 0, locals := 74 } s m args c cX10_setRivals 7 wsX10_setRivals RX10 D vwCl (tyM cs) 34 ad (uAd 34 ad s.heap.size) 0 0) (hr : meth.sig.returnType = none) (hlk : meth.locks = false) {σ' : St} {k11 : St → Int32 → Int32 → Int32 → Int32 → Option (Unit × St)} {k23 : St → Int32 → Int32 → Int32 → Int32 → Int32 → Option (Unit × St)} (hk11 : ∀ (σ : St) (v1 : Int32) (v2 : Int32) (v3 : Int32) (v4 : Int32), k11 σ v1 v2 v3 v4 = some ((), σ') → ∀ (H : Heap) (locs : List Loc) (ls : Array Slot), uG D vwCl 34 ad (enM ad cs) (uAd 34 ad s.heap.size) s σ H locs → lv_has ls 7 [(0, .ref (ad 0)), (1, .int v1), (2, .int v2), (3, .int v3), (4, .int v4)] → W p l e { frames := 3, cells := 0, slots := 0, locals := 74 } s m args below meth c H locs 0 0 (MQ below (uQv D vwCl 34 ad (enM ad cs) σ' s.heap.size) args s 0 0 (uAd 34 ad s.heap.size)) (F0 m 11 ls [])) (hk23 : ∀ (σ : St) (v1 : Int32) (v2 : Int32) (v3 : Int32) (v4 : Int32) (v5 : Int32), k23 σ v1 v2 v3 v4 v5 = some ((), σ') → ∀ (H : Heap) (locs : List Loc) (ls : Array Slot), uG D vwCl 34 ad (enM ad cs) (uAd 34 ad s.heap.size) s σ H locs → lv_has ls 7 [(0, .ref (ad 0)), (1, .int v1), (2, .int v2), (3, .int v3), (4, .int v4), (5, .int v5)] → W p l e { frames := 3, cells := 0, slots := 0, locals := 74 } s m args below meth c H locs 0 0 (MQ below (uQv D vwCl 34 ad (enM ad cs) σ' s.heap.size) args s 0 0 (uAd 34 ad s.heap.size)) (F0 m 23 ls [])) :
    ∀ (σ : St) (v1 : Int32) (v2 : Int32) (v3 : Int32) (v4 : Int32) (v5 : Int32) (v6 : Int32), f_X10_setRivals_87 k11 k23 σ v1 v2 v3 v4 v5 v6 = some ((), σ') → ∀ (H : Heap) (locs : List Loc) (ls : Array Slot), uG D vwCl 34 ad (enM ad cs) (uAd 34 ad s.heap.size) s σ H locs → lv_has ls 7 [(0, .ref (ad 0)), (1, .int v1), (2, .int v2), (3, .int v3), (4, .int v4), (5, .int v5), (6, .int v6)] → W p l e { frames := 3, cells := 0, slots := 0, locals := 74 } s m args below meth c H locs 0 0 (MQ below (uQv D vwCl 34 ad (enM ad cs) σ' s.heap.size) args s 0 0 (uAd 34 ad s.heap.size)) (F0 m 87 ls []) := by
  have hx := C.1.1
  have hb := C.1.2.1
  intro σ v1 v2 v3 v4 v5 v6  h H locs ls G hl
  unfold f_X10_setRivals_87 at h
  refine lv_aload_n hx hb dX10_setRivals_87 rfl (lv_at hl 0 rfl) ?_
  refine lv_iload hx hb dX10_setRivals_88 (lv_at hl 6 rfl) ?_
  refine lv_iload_n hx hb dX10_setRivals_90 rfl (lv_at hl 3 rfl) ?_
  refine lv_icmp_ne (tgt := 101) hx hb dX10_setRivals_91 (by decide) (fun q => ?_) (fun q => ?_)
  · have h := u_neg q h
    refine lv_iconst (v := 0) hx hb dX10_setRivals_101 (by decide) ?_
    refine u_put (x := 0) (ty := .int) C G obM_0 (ci := 10) (N := 44) (Cn := RX10) (T := TX10) rfl fi_X10_setRivals_10 tyX10 tyX10_ok nmX10 17 (by decide) (by decide +kernel) rfl (by decide +kernel) rfl rfl (fun f => by simp) (fun f => rfl) dX10_setRivals_102 (fun H locs G => ?_)
    obtain ⟨σ12, eσ12, h⟩ := ul_of h
    replace G := uG_eq eσ12 G
    refine lv_iload hx hb dX10_setRivals_105 (lv_at hl 6 rfl) ?_
    refine lv_istore_n (lv' := [(3, .int v6), (0, .ref (ad 0)), (1, .int v1), (2, .int v2), (4, .int v4), (5, .int v5), (6, .int v6)]) hx hb dX10_setRivals_107 rfl hl (by decide) rfl (fun ls hl => ?_)
    refine lv_aload_n hx hb dX10_setRivals_108 rfl (lv_at hl 1 rfl) ?_
    refine u_get (v := .ref (ad 15)) C G obM_0 (ci := 10) (N := 44) (Cn := RX10) (T := TX10) rfl fi_X10_setRivals_10 18 (by decide) (by decide +kernel) rfl dX10_setRivals_109 ?_
    refine lv_aload_n hx hb dX10_setRivals_112 rfl (lv_at hl 1 rfl) ?_
    refine u_get (v := .int (σ12 0 17)) C G obM_0 (ci := 10) (N := 44) (Cn := RX10) (T := TX10) rfl fi_X10_setRivals_10 17 (by decide) (by decide +kernel) rfl dX10_setRivals_113 ?_
    refine lv_bipush (v := 10) hx hb dX10_setRivals_116 (by decide) ?_
    refine lv_iload hx hb dX10_setRivals_118 (lv_at hl 4 rfl) ?_
    refine lv_imul hx hb dX10_setRivals_120 ?_
    refine lv_iload hx hb dX10_setRivals_121 (lv_at hl 5 rfl) ?_
    refine lv_iadd hx hb dX10_setRivals_123 ?_
    obtain ⟨g13, h⟩ := ui_of h
    refine u_iast C G arM_15 (t0 := 0) rfl g13 dX10_setRivals_124 (fun H locs G => ?_)
    obtain ⟨σ14, eσ14, h⟩ := ul_of h
    replace G := uG_eq eσ14 G
    refine lv_aload_n hx hb dX10_setRivals_125 rfl (lv_at hl 1 rfl) ?_
    refine lv_dup hx hb dX10_setRivals_126 rfl ?_
    refine u_get (v := .int (σ14 0 17)) C G obM_0 (ci := 10) (N := 44) (Cn := RX10) (T := TX10) rfl fi_X10_setRivals_10 17 (by decide) (by decide +kernel) rfl dX10_setRivals_127 ?_
    refine lv_iconst (v := 1) hx hb dX10_setRivals_130 (by decide) ?_
    refine lv_iadd hx hb dX10_setRivals_131 ?_
    refine u_put (x := ((σ14 0 17) + 1)) (ty := .int) C G obM_0 (ci := 10) (N := 44) (Cn := RX10) (T := TX10) rfl fi_X10_setRivals_10 tyX10 tyX10_ok nmX10 17 (by decide) (by decide +kernel) rfl (by decide +kernel) rfl rfl (fun f => by simp) (fun f => rfl) dX10_setRivals_132 (fun H locs G => ?_)
    obtain ⟨σ15, eσ15, h⟩ := ul_of h
    replace G := uG_eq eσ15 G
    obtain ⟨x16, ex16, h⟩ := ul_of h
    refine lv_iinc (v := x16) (lv' := [(5, .int x16), (3, .int v6), (0, .ref (ad 0)), (1, .int v1), (2, .int v2), (4, .int v4), (6, .int v6)]) hx hb dX10_setRivals_135 hl (k := 5) rfl (by rw [ex16]; rfl) (by decide) rfl (fun ls hl => ?_)
    refine lv_goto (tgt := 23) hx hb dX10_setRivals_138 (by decide) ?_
    exact hk23 σ15 v1 v2 v6 v4 x16 h H locs ls G (lv_sub hl [2, 3, 4, 1, 5, 0] rfl)
  · have h := u_pos q h
    refine lv_aload_n hx hb dX10_setRivals_94 rfl (lv_at hl 0 rfl) ?_
    refine u_get (v := .int (σ 0 17)) C G obM_0 (ci := 10) (N := 44) (Cn := RX10) (T := TX10) rfl fi_X10_setRivals_10 17 (by decide) (by decide +kernel) rfl dX10_setRivals_95 ?_
    refine lv_goto (tgt := 102) hx hb dX10_setRivals_98 (by decide) ?_
    refine u_put (x := (σ 0 17)) (ty := .int) C G obM_0 (ci := 10) (N := 44) (Cn := RX10) (T := TX10) rfl fi_X10_setRivals_10 tyX10 tyX10_ok nmX10 17 (by decide) (by decide +kernel) rfl (by decide +kernel) rfl rfl (fun f => by simp) (fun f => rfl) dX10_setRivals_102 (fun H locs G => ?_)
    obtain ⟨σ17, eσ17, h⟩ := ul_of h
    replace G := uG_eq eσ17 G
    refine lv_iload hx hb dX10_setRivals_105 (lv_at hl 6 rfl) ?_
    refine lv_istore_n (lv' := [(3, .int v6), (0, .ref (ad 0)), (1, .int v1), (2, .int v2), (4, .int v4), (5, .int v5), (6, .int v6)]) hx hb dX10_setRivals_107 rfl hl (by decide) rfl (fun ls hl => ?_)
    refine lv_aload_n hx hb dX10_setRivals_108 rfl (lv_at hl 1 rfl) ?_
    refine u_get (v := .ref (ad 15)) C G obM_0 (ci := 10) (N := 44) (Cn := RX10) (T := TX10) rfl fi_X10_setRivals_10 18 (by decide) (by decide +kernel) rfl dX10_setRivals_109 ?_
    refine lv_aload_n hx hb dX10_setRivals_112 rfl (lv_at hl 1 rfl) ?_
    refine u_get (v := .int (σ17 0 17)) C G obM_0 (ci := 10) (N := 44) (Cn := RX10) (T := TX10) rfl fi_X10_setRivals_10 17 (by decide) (by decide +kernel) rfl dX10_setRivals_113 ?_
    refine lv_bipush (v := 10) hx hb dX10_setRivals_116 (by decide) ?_
    refine lv_iload hx hb dX10_setRivals_118 (lv_at hl 4 rfl) ?_
    refine lv_imul hx hb dX10_setRivals_120 ?_
    refine lv_iload hx hb dX10_setRivals_121 (lv_at hl 5 rfl) ?_
    refine lv_iadd hx hb dX10_setRivals_123 ?_
    obtain ⟨g18, h⟩ := ui_of h
    refine u_iast C G arM_15 (t0 := 0) rfl g18 dX10_setRivals_124 (fun H locs G => ?_)
    obtain ⟨σ19, eσ19, h⟩ := ul_of h
    replace G := uG_eq eσ19 G
    refine lv_aload_n hx hb dX10_setRivals_125 rfl (lv_at hl 1 rfl) ?_
    refine lv_dup hx hb dX10_setRivals_126 rfl ?_
    refine u_get (v := .int (σ19 0 17)) C G obM_0 (ci := 10) (N := 44) (Cn := RX10) (T := TX10) rfl fi_X10_setRivals_10 17 (by decide) (by decide +kernel) rfl dX10_setRivals_127 ?_
    refine lv_iconst (v := 1) hx hb dX10_setRivals_130 (by decide) ?_
    refine lv_iadd hx hb dX10_setRivals_131 ?_
    refine u_put (x := ((σ19 0 17) + 1)) (ty := .int) C G obM_0 (ci := 10) (N := 44) (Cn := RX10) (T := TX10) rfl fi_X10_setRivals_10 tyX10 tyX10_ok nmX10 17 (by decide) (by decide +kernel) rfl (by decide +kernel) rfl rfl (fun f => by simp) (fun f => rfl) dX10_setRivals_132 (fun H locs G => ?_)
    obtain ⟨σ20, eσ20, h⟩ := ul_of h
    replace G := uG_eq eσ20 G
    obtain ⟨x21, ex21, h⟩ := ul_of h
    refine lv_iinc (v := x21) (lv' := [(5, .int x21), (3, .int v6), (0, .ref (ad 0)), (1, .int v1), (2, .int v2), (4, .int v4), (6, .int v6)]) hx hb dX10_setRivals_135 hl (k := 5) rfl (by rw [ex21]; rfl) (by decide) rfl (fun ls hl => ?_)
    refine lv_goto (tgt := 23) hx hb dX10_setRivals_138 (by decide) ?_
    exact hk23 σ20 v1 v2 v6 v4 x21 h H locs ls G (lv_sub hl [2, 3, 4, 1, 5, 0] rfl)
set_option maxHeartbeats 4000000 in
set_option maxRecDepth 100000 in
theorem w_X10_setRivals_23 {p : Program} {l : Launch} {e : Env} {s : State} {m : MethodId} {args : Array Value} {below : List Frame} {meth : Method} {c : Code} {D : va_G} {ad : Nat → Nat} {cs : Nat → ClassId} (C : uC p { frames := 3, cells := 0, slots := 0, locals := 74 } s m args c cX10_setRivals 7 wsX10_setRivals RX10 D vwCl (tyM cs) 34 ad (uAd 34 ad s.heap.size) 0 0) (hr : meth.sig.returnType = none) (hlk : meth.locks = false) {σ' : St} {k11 : St → Int32 → Int32 → Int32 → Int32 → Option (Unit × St)} (hk11 : ∀ (σ : St) (v1 : Int32) (v2 : Int32) (v3 : Int32) (v4 : Int32), k11 σ v1 v2 v3 v4 = some ((), σ') → ∀ (H : Heap) (locs : List Loc) (ls : Array Slot), uG D vwCl 34 ad (enM ad cs) (uAd 34 ad s.heap.size) s σ H locs → lv_has ls 7 [(0, .ref (ad 0)), (1, .int v1), (2, .int v2), (3, .int v3), (4, .int v4)] → W p l e { frames := 3, cells := 0, slots := 0, locals := 74 } s m args below meth c H locs 0 0 (MQ below (uQv D vwCl 34 ad (enM ad cs) σ' s.heap.size) args s 0 0 (uAd 34 ad s.heap.size)) (F0 m 11 ls [])) :
    ∀ (n : Nat) (σ : St) (v1 : Int32) (v2 : Int32) (v3 : Int32) (v4 : Int32) (v5 : Int32), f_X10_setRivals_23 k11 n σ v1 v2 v3 v4 v5 = some ((), σ') → ∀ (H : Heap) (locs : List Loc) (ls : Array Slot), uG D vwCl 34 ad (enM ad cs) (uAd 34 ad s.heap.size) s σ H locs → lv_has ls 7 [(0, .ref (ad 0)), (1, .int v1), (2, .int v2), (3, .int v3), (4, .int v4), (5, .int v5)] → W p l e { frames := 3, cells := 0, slots := 0, locals := 74 } s m args below meth c H locs 0 0 (MQ below (uQv D vwCl 34 ad (enM ad cs) σ' s.heap.size) args s 0 0 (uAd 34 ad s.heap.size)) (F0 m 23 ls []) := by
  have hx := C.1.1
  have hb := C.1.2.1
  intro n
  induction n with
  | zero => intro σ v1 v2 v3 v4 v5  h; exact absurd h (by simp [f_X10_setRivals_23])
  | succ fuel ih =>
    intro σ v1 v2 v3 v4 v5  h H locs ls G hl
    rw [f_X10_setRivals_23] at h
    refine lv_iload hx hb dX10_setRivals_23 (lv_at hl 5 rfl) ?_
    refine lv_bipush (v := 10) hx hb dX10_setRivals_25 (by decide) ?_
    refine lv_icmp_ge (tgt := 141) hx hb dX10_setRivals_27 (by decide) (fun q => ?_) (fun q => ?_)
    · have h := u_pos q h
      obtain ⟨x2, ex2, h⟩ := ul_of h
      refine lv_iinc (v := x2) (lv' := [(4, .int x2), (0, .ref (ad 0)), (1, .int v1), (2, .int v2), (3, .int v3), (5, .int v5)]) hx hb dX10_setRivals_141 hl (k := 4) rfl (by rw [ex2]; rfl) (by decide) rfl (fun ls hl => ?_)
      refine lv_goto (tgt := 11) hx hb dX10_setRivals_144 (by decide) ?_
      exact hk11 σ v1 v2 v3 x2 h H locs ls G (lv_sub hl [1, 2, 3, 4, 0] rfl)
    · have h := u_neg q h
      refine lv_aload_n hx hb dX10_setRivals_30 rfl (lv_at hl 0 rfl) ?_
      refine u_get (v := .ref (ad 9)) C G obM_0 (ci := 10) (N := 44) (Cn := RX10) (T := TX10) rfl fi_X10_setRivals_10 11 (by decide) (by decide +kernel) rfl dX10_setRivals_31 ?_
      refine lv_iload hx hb dX10_setRivals_34 (lv_at hl 4 rfl) ?_
      obtain ⟨g3, h⟩ := ui_of h
      refine u_zald C G arM_9 (t0 := 2) rfl g3 dX10_setRivals_36 ?_
      refine lv_if_ne (tgt := 141) hx hb dX10_setRivals_37 (by decide) (fun q => ?_) (fun q => ?_)
      · have h := u_neg q h
        obtain ⟨x4, ex4, h⟩ := ul_of h
        refine lv_iinc (v := x4) (lv' := [(4, .int x4), (0, .ref (ad 0)), (1, .int v1), (2, .int v2), (3, .int v3), (5, .int v5)]) hx hb dX10_setRivals_141 hl (k := 4) rfl (by rw [ex4]; rfl) (by decide) rfl (fun ls hl => ?_)
        refine lv_goto (tgt := 11) hx hb dX10_setRivals_144 (by decide) ?_
        exact hk11 σ v1 v2 v3 x4 h H locs ls G (lv_sub hl [1, 2, 3, 4, 0] rfl)
      · have h := u_pos q h
        refine lv_aload_n hx hb dX10_setRivals_40 rfl (lv_at hl 0 rfl) ?_
        refine lv_iload hx hb dX10_setRivals_41 (lv_at hl 4 rfl) ?_
        refine lv_iload hx hb dX10_setRivals_43 (lv_at hl 5 rfl) ?_
        obtain ⟨r5, σ6, er5, h⟩ := ub_of h
        refine u_callVi (As := [.int v4, .int v5]) (rest := []) C G (c_X10_isOn l D ad cs C.2.2.1 σ v4 v5 r5 σ6 er5) (cwV 2 C.1.2.2.2.2 gX10_setRivals_X10_isOn rfl rfl rfl (by decide +kernel) ⟨Nat.le_of_ble_eq_true rfl, Nat.le_of_ble_eq_true rfl⟩) obM_0 (ci := 10) (T := TX10) rfl rfl hl rfl (Nat.le_of_ble_eq_true rfl) dX10_setRivals_45 (fun H locs G => ?_)
        refine lv_if_eq (tgt := 64) hx hb dX10_setRivals_48 (by decide) (fun q => ?_) (fun q => ?_)
        · have h := u_pos q h
          refine lv_bipush (v := (-9)) hx hb dX10_setRivals_64 (by decide) ?_
          refine lv_istore (lv' := [(6, .int (-9)), (0, .ref (ad 0)), (1, .int v1), (2, .int v2), (3, .int v3), (4, .int v4), (5, .int v5)]) hx hb dX10_setRivals_66 hl (by decide) rfl (fun ls hl => ?_)
          refine lv_iload hx hb dX10_setRivals_68 (lv_at hl 0 rfl) ?_
          refine lv_bipush (v := (-9)) hx hb dX10_setRivals_70 (by decide) ?_
          refine lv_icmp_eq (tgt := 135) hx hb dX10_setRivals_72 (by decide) (fun _ => ?_) (fun q => absurd q (by decide))
          obtain ⟨x7, ex7, h⟩ := ul_of h
          refine lv_iinc (v := x7) (lv' := [(5, .int x7), (6, .int (-9)), (0, .ref (ad 0)), (1, .int v1), (2, .int v2), (3, .int v3), (4, .int v4)]) hx hb dX10_setRivals_135 hl (k := 6) rfl (by rw [ex7]; rfl) (by decide) rfl (fun ls hl => ?_)
          refine lv_goto (tgt := 23) hx hb dX10_setRivals_138 (by decide) ?_
          exact ih σ6 v1 v2 v3 v4 x7 h H locs ls G (lv_sub hl [2, 3, 4, 5, 6, 0] rfl)
        · have h := u_neg q h
          refine lv_aload_n hx hb dX10_setRivals_51 rfl (lv_at hl 0 rfl) ?_
          refine lv_iload_n hx hb dX10_setRivals_52 rfl (lv_at hl 1 rfl) ?_
          refine lv_iload hx hb dX10_setRivals_53 (lv_at hl 4 rfl) ?_
          refine lv_iload hx hb dX10_setRivals_55 (lv_at hl 5 rfl) ?_
          refine lv_iload_n hx hb dX10_setRivals_57 rfl (lv_at hl 2 rfl) ?_
          obtain ⟨r8, σ9, er8, h⟩ := ub_of h
          refine u_callVi (As := [.int v1, .int v4, .int v5, .int v2]) (rest := []) C G (c_X10_lackOf l D ad cs C.2.2.1 σ6 v1 v4 v5 v2 r8 σ9 er8) (cwV 4 C.1.2.2.2.2 gX10_setRivals_X10_lackOf rfl rfl rfl (by decide +kernel) ⟨Nat.le_of_ble_eq_true rfl, Nat.le_of_ble_eq_true rfl⟩) obM_0 (ci := 10) (T := TX10) rfl rfl hl rfl (Nat.le_of_ble_eq_true rfl) dX10_setRivals_58 (fun H locs G => ?_)
          refine lv_goto (tgt := 66) hx hb dX10_setRivals_61 (by decide) ?_
          refine lv_istore (lv' := [(6, .int r8), (0, .ref (ad 0)), (1, .int v1), (2, .int v2), (3, .int v3), (4, .int v4), (5, .int v5)]) hx hb dX10_setRivals_66 hl (by decide) rfl (fun ls hl => ?_)
          refine lv_iload hx hb dX10_setRivals_68 (lv_at hl 0 rfl) ?_
          refine lv_bipush (v := (-9)) hx hb dX10_setRivals_70 (by decide) ?_
          refine lv_icmp_eq (tgt := 135) hx hb dX10_setRivals_72 (by decide) (fun q => ?_) (fun q => ?_)
          · have h := u_pos q h
            obtain ⟨x10, ex10, h⟩ := ul_of h
            refine lv_iinc (v := x10) (lv' := [(5, .int x10), (6, .int r8), (0, .ref (ad 0)), (1, .int v1), (2, .int v2), (3, .int v3), (4, .int v4)]) hx hb dX10_setRivals_135 hl (k := 6) rfl (by rw [ex10]; rfl) (by decide) rfl (fun ls hl => ?_)
            refine lv_goto (tgt := 23) hx hb dX10_setRivals_138 (by decide) ?_
            exact ih σ9 v1 v2 v3 v4 x10 h H locs ls G (lv_sub hl [2, 3, 4, 5, 6, 0] rfl)
          · have h := u_neg q h
            refine lv_iload_n hx hb dX10_setRivals_75 rfl (lv_at hl 4 rfl) ?_
            refine lv_bipush (v := (-9)) hx hb dX10_setRivals_76 (by decide) ?_
            refine lv_icmp_eq (tgt := 87) hx hb dX10_setRivals_78 (by decide) (fun q => ?_) (fun q => ?_)
            · have h := u_pos q h
              exact w_X10_setRivals_87 C hr hlk hk11 ih σ9 v1 v2 v3 v4 v5 r8 h H locs ls G (lv_sub hl [1, 2, 3, 4, 5, 6, 0] rfl)
            · have h := u_neg q h
              refine lv_iload hx hb dX10_setRivals_81 (lv_at hl 0 rfl) ?_
              refine lv_iload_n hx hb dX10_setRivals_83 rfl (lv_at hl 4 rfl) ?_
              refine lv_icmp_gt (tgt := 135) hx hb dX10_setRivals_84 (by decide) (fun q => ?_) (fun q => ?_)
              · have h := u_pos q h
                obtain ⟨x11, ex11, h⟩ := ul_of h
                refine lv_iinc (v := x11) (lv' := [(5, .int x11), (6, .int r8), (0, .ref (ad 0)), (1, .int v1), (2, .int v2), (3, .int v3), (4, .int v4)]) hx hb dX10_setRivals_135 hl (k := 6) rfl (by rw [ex11]; rfl) (by decide) rfl (fun ls hl => ?_)
                refine lv_goto (tgt := 23) hx hb dX10_setRivals_138 (by decide) ?_
                exact ih σ9 v1 v2 v3 v4 x11 h H locs ls G (lv_sub hl [2, 3, 4, 5, 6, 0] rfl)
              · have h := u_neg q h
                exact w_X10_setRivals_87 C hr hlk hk11 ih σ9 v1 v2 v3 v4 v5 r8 h H locs ls G (lv_sub hl [1, 2, 3, 4, 5, 6, 0] rfl)
set_option maxHeartbeats 4000000 in
set_option maxRecDepth 100000 in
theorem w_X10_setRivals_11 {p : Program} {l : Launch} {e : Env} {s : State} {m : MethodId} {args : Array Value} {below : List Frame} {meth : Method} {c : Code} {D : va_G} {ad : Nat → Nat} {cs : Nat → ClassId} (C : uC p { frames := 3, cells := 0, slots := 0, locals := 74 } s m args c cX10_setRivals 7 wsX10_setRivals RX10 D vwCl (tyM cs) 34 ad (uAd 34 ad s.heap.size) 0 0) (hr : meth.sig.returnType = none) (hlk : meth.locks = false) {σ' : St} :
    ∀ (n : Nat) (σ : St) (v1 : Int32) (v2 : Int32) (v3 : Int32) (v4 : Int32), f_X10_setRivals_11 n σ v1 v2 v3 v4 = some ((), σ') → ∀ (H : Heap) (locs : List Loc) (ls : Array Slot), uG D vwCl 34 ad (enM ad cs) (uAd 34 ad s.heap.size) s σ H locs → lv_has ls 7 [(0, .ref (ad 0)), (1, .int v1), (2, .int v2), (3, .int v3), (4, .int v4)] → W p l e { frames := 3, cells := 0, slots := 0, locals := 74 } s m args below meth c H locs 0 0 (MQ below (uQv D vwCl 34 ad (enM ad cs) σ' s.heap.size) args s 0 0 (uAd 34 ad s.heap.size)) (F0 m 11 ls []) := by
  have hx := C.1.1
  have hb := C.1.2.1
  intro n
  induction n with
  | zero => intro σ v1 v2 v3 v4  h; exact absurd h (by simp [f_X10_setRivals_11])
  | succ fuel ih =>
    intro σ v1 v2 v3 v4  h H locs ls G hl
    rw [f_X10_setRivals_11] at h
    refine lv_iload hx hb dX10_setRivals_11 (lv_at hl 4 rfl) ?_
    refine lv_aload_n hx hb dX10_setRivals_13 rfl (lv_at hl 0 rfl) ?_
    refine u_get (v := .int (σ 0 7)) C G obM_0 (ci := 10) (N := 44) (Cn := RX10) (T := TX10) rfl fi_X10_setRivals_10 7 (by decide) (by decide +kernel) rfl dX10_setRivals_14 ?_
    refine lv_icmp_ge (tgt := 147) hx hb dX10_setRivals_17 (by decide) (fun q => ?_) (fun q => ?_)
    · have h := u_pos q h
      obtain ⟨-, rfl⟩ := u_end h
      exact u_vret hx hb hr hlk G dX10_setRivals_147
    · have h := u_neg q h
      refine lv_iconst (v := 0) hx hb dX10_setRivals_20 (by decide) ?_
      refine lv_istore (lv' := [(5, .int 0), (0, .ref (ad 0)), (1, .int v1), (2, .int v2), (3, .int v3), (4, .int v4)]) hx hb dX10_setRivals_21 hl (by decide) rfl (fun ls hl => ?_)
      exact w_X10_setRivals_23 C hr hlk ih fu σ v1 v2 v3 v4 0 h H locs ls G (lv_sub hl [1, 2, 3, 4, 5, 0] rfl)
set_option maxHeartbeats 4000000 in
set_option maxRecDepth 100000 in
theorem c_X10_setRivals (l : Launch) (D : va_G) (ad : Nat → Nat) (cs : Nat → ClassId) (J : uJ 34 ad) (σ : St) (v1 : Int32) (v2 : Int32) (r : Unit) (σ' : St) (h : f_X10_setRivals σ v1 v2 = some (r, σ')) : uMv l yX10_setRivals wsX10_setRivals { frames := 3, cells := 0, slots := 0, locals := 74 } D vwCl (tyM cs) 34 ad (enM ad cs) [.ref (ad 0), .int v1, .int v2] σ σ' := by
  refine u_met (Qf := uQv D vwCl 34 ad (enM ad cs) σ') (cc := cX10_setRivals) (maxL := 7) (ret := none) (lv := [(0, .ref (ad 0)), (1, .int v1), (2, .int v2)]) J (by decide) rfl (Nat.le_of_ble_eq_true rfl) rfl rfl rfl ?_
  intro p e s m args below meth c ls hx hb C hr hlk G hl
  unfold f_X10_setRivals at h
  obtain ⟨H, eH⟩ : ∃ H, H = s.heap := ⟨_, rfl⟩
  obtain ⟨locs, eL⟩ : ∃ locs : List Loc, locs = [] := ⟨_, rfl⟩
  refine u_start eH eL G ?_
  clear G eH eL
  intro G
  refine lv_bipush (v := (-9)) hx hb dX10_setRivals_0 (by decide) ?_
  refine lv_istore_n (lv' := [(3, .int (-9)), (0, .ref (ad 0)), (1, .int v1), (2, .int v2)]) hx hb dX10_setRivals_2 rfl hl (by decide) rfl (fun ls hl => ?_)
  refine lv_aload_n hx hb dX10_setRivals_3 rfl (lv_at hl 1 rfl) ?_
  refine lv_iconst (v := 0) hx hb dX10_setRivals_4 (by decide) ?_
  refine u_put (x := 0) (ty := .int) C G obM_0 (ci := 10) (N := 44) (Cn := RX10) (T := TX10) rfl fi_X10_setRivals_10 tyX10 tyX10_ok nmX10 17 (by decide) (by decide +kernel) rfl (by decide +kernel) rfl rfl (fun f => by simp) (fun f => rfl) dX10_setRivals_5 (fun H locs G => ?_)
  obtain ⟨σ1, eσ1, h⟩ := ul_of h
  replace G := uG_eq eσ1 G
  refine lv_iconst (v := 0) hx hb dX10_setRivals_8 (by decide) ?_
  refine lv_istore (lv' := [(4, .int 0), (3, .int (-9)), (0, .ref (ad 0)), (1, .int v1), (2, .int v2)]) hx hb dX10_setRivals_9 hl (by decide) rfl (fun ls hl => ?_)
  exact w_X10_setRivals_11 C hr hlk fu σ1 v1 v2 (-9) 0 h H locs ls G (lv_sub hl [2, 3, 4, 1, 0] rfl)
/-! X10_reading -/
def f_X10_reading (σ : St) (v1 : Int32) (v2 : Int32) : Option (Int32 × St) :=
  ub (f_X10_isLine σ v1) fun r1 σ2 =>
  if r1 = 0 then
    some (((-1) : Int32), σ2)
  else
    ub (f_X10_isColour σ2 v2) fun r3 σ4 =>
    if r3 = 0 then
      some (((-1) : Int32), σ4)
    else
      ub (f_X10_setRivals σ4 v1 v2) fun r5 σ6 =>
      if (σ6 0 17) = 0 then
        some (((-9) : Int32), σ6)
      else
        ul (us σ6 0 2 ((σ6 15 (0 : Int32).toNatClampNeg) - (σ6 15 (0 : Int32).toNatClampNeg) / 10 * 10)) fun σ7 =>
        some (((σ7 15 (0 : Int32).toNatClampNeg) / 10), σ7)
theorem fi_X10_reading_10 : ∀ w ∈ u_ws RX10 TX10 44, w ∈ wsX10_reading := by decide +kernel
set_option maxHeartbeats 4000000 in
set_option maxRecDepth 100000 in
theorem c_X10_reading (l : Launch) (D : va_G) (ad : Nat → Nat) (cs : Nat → ClassId) (J : uJ 34 ad) (σ : St) (v1 : Int32) (v2 : Int32) (r : Int32) (σ' : St) (h : f_X10_reading σ v1 v2 = some (r, σ')) : uMi l yX10_reading wsX10_reading { frames := 4, cells := 0, slots := 0, locals := 100 } D vwCl (tyM cs) 34 ad (enM ad cs) [.ref (ad 0), .int v1, .int v2] σ r σ' := by
  refine u_met (Qf := uQi D vwCl 34 ad (enM ad cs) r σ') (cc := cX10_reading) (maxL := 3) (ret := (some .int)) (lv := [(0, .ref (ad 0)), (1, .int v1), (2, .int v2)]) J (by decide) rfl (Nat.le_of_ble_eq_true rfl) rfl rfl rfl ?_
  intro p e s m args below meth c ls hx hb C hr hlk G hl
  unfold f_X10_reading at h
  obtain ⟨H, eH⟩ : ∃ H, H = s.heap := ⟨_, rfl⟩
  obtain ⟨locs, eL⟩ : ∃ locs : List Loc, locs = [] := ⟨_, rfl⟩
  refine u_start eH eL G ?_
  clear G eH eL
  intro G
  refine lv_iload_n hx hb dX10_reading_0 rfl (lv_at hl 1 rfl) ?_
  obtain ⟨r1, σ2, er1, h⟩ := ub_of h
  refine u_callSi (As := [.int v1]) (rest := []) C G (c_X10_isLine l D ad cs C.2.2.1 σ v1 r1 σ2 er1) (va_cwS 1 C.1.2.2.2.2 gX10_reading_X10_isLine rfl rfl rfl (by decide +kernel) ⟨Nat.le_of_ble_eq_true rfl, Nat.le_of_ble_eq_true rfl⟩) rfl hl rfl (Nat.le_of_ble_eq_true rfl) dX10_reading_1 (fun H locs G => ?_)
  refine lv_if_eq (tgt := 14) hx hb dX10_reading_4 (by decide) (fun q => ?_) (fun q => ?_)
  · have h := u_pos q h
    refine lv_iconst (v := (-1)) hx hb dX10_reading_14 (by decide) ?_
    obtain ⟨rfl, rfl⟩ := u_end h
    exact u_iret hx hb hr hlk G dX10_reading_15
  · have h := u_neg q h
    refine lv_iload_n hx hb dX10_reading_7 rfl (lv_at hl 2 rfl) ?_
    obtain ⟨r3, σ4, er3, h⟩ := ub_of h
    refine u_callSi (As := [.int v2]) (rest := []) C G (c_X10_isColour l D ad cs C.2.2.1 σ2 v2 r3 σ4 er3) (va_cwS 1 C.1.2.2.2.2 gX10_reading_X10_isColour rfl rfl rfl (by decide +kernel) ⟨Nat.le_of_ble_eq_true rfl, Nat.le_of_ble_eq_true rfl⟩) rfl hl rfl (Nat.le_of_ble_eq_true rfl) dX10_reading_8 (fun H locs G => ?_)
    refine lv_if_ne (tgt := 16) hx hb dX10_reading_11 (by decide) (fun q => ?_) (fun q => ?_)
    · have h := u_neg q h
      refine lv_aload_n hx hb dX10_reading_16 rfl (lv_at hl 0 rfl) ?_
      refine lv_iload_n hx hb dX10_reading_17 rfl (lv_at hl 1 rfl) ?_
      refine lv_iload_n hx hb dX10_reading_18 rfl (lv_at hl 2 rfl) ?_
      obtain ⟨r5, σ6, er5, h⟩ := ub_of h
      refine u_callVv (As := [.int v1, .int v2]) (rest := []) C G (c_X10_setRivals l D ad cs C.2.2.1 σ4 v1 v2 r5 σ6 er5) (cwV 2 C.1.2.2.2.2 gX10_reading_X10_setRivals rfl rfl rfl (by decide +kernel) ⟨Nat.le_of_ble_eq_true rfl, Nat.le_of_ble_eq_true rfl⟩) obM_0 (ci := 10) (T := TX10) rfl rfl hl rfl (Nat.le_of_ble_eq_true rfl) dX10_reading_19 (fun H locs G => ?_)
      refine lv_aload_n hx hb dX10_reading_22 rfl (lv_at hl 0 rfl) ?_
      refine u_get (v := .int (σ6 0 17)) C G obM_0 (ci := 10) (N := 44) (Cn := RX10) (T := TX10) rfl fi_X10_reading_10 17 (by decide) (by decide +kernel) rfl dX10_reading_23 ?_
      refine lv_if_ne (tgt := 32) hx hb dX10_reading_26 (by decide) (fun q => ?_) (fun q => ?_)
      · have h := u_neg q h
        refine lv_aload_n hx hb dX10_reading_32 rfl (lv_at hl 0 rfl) ?_
        refine lv_aload_n hx hb dX10_reading_33 rfl (lv_at hl 0 rfl) ?_
        refine u_get (v := .ref (ad 15)) C G obM_0 (ci := 10) (N := 44) (Cn := RX10) (T := TX10) rfl fi_X10_reading_10 18 (by decide) (by decide +kernel) rfl dX10_reading_34 ?_
        refine lv_iconst (v := 0) hx hb dX10_reading_37 (by decide) ?_
        refine u_iald C G arM_15 (t0 := 0) rfl (vp_lit (by decide)) dX10_reading_38 ?_
        refine lv_bipush (v := 10) hx hb dX10_reading_39 (by decide) ?_
        refine lv_irem hx hb dX10_reading_41 (by decide) ?_
        refine u_put (x := ((σ6 15 (0 : Int32).toNatClampNeg) - (σ6 15 (0 : Int32).toNatClampNeg) / 10 * 10)) (ty := .int) C G obM_0 (ci := 10) (N := 44) (Cn := RX10) (T := TX10) rfl fi_X10_reading_10 tyX10 tyX10_ok nmX10 2 (by decide) (by decide +kernel) rfl (by decide +kernel) rfl rfl (fun f => by simp) (fun f => rfl) dX10_reading_42 (fun H locs G => ?_)
        obtain ⟨σ7, eσ7, h⟩ := ul_of h
        replace G := uG_eq eσ7 G
        refine lv_aload_n hx hb dX10_reading_45 rfl (lv_at hl 0 rfl) ?_
        refine u_get (v := .ref (ad 15)) C G obM_0 (ci := 10) (N := 44) (Cn := RX10) (T := TX10) rfl fi_X10_reading_10 18 (by decide) (by decide +kernel) rfl dX10_reading_46 ?_
        refine lv_iconst (v := 0) hx hb dX10_reading_49 (by decide) ?_
        refine u_iald C G arM_15 (t0 := 0) rfl (vp_lit (by decide)) dX10_reading_50 ?_
        refine lv_bipush (v := 10) hx hb dX10_reading_51 (by decide) ?_
        refine lv_idiv hx hb dX10_reading_53 (by decide) ?_
        obtain ⟨rfl, rfl⟩ := u_end h
        exact u_iret hx hb hr hlk G dX10_reading_54
      · have h := u_pos q h
        refine lv_bipush (v := (-9)) hx hb dX10_reading_29 (by decide) ?_
        obtain ⟨rfl, rfl⟩ := u_end h
        exact u_iret hx hb hr hlk G dX10_reading_31
    · have h := u_pos q h
      refine lv_iconst (v := (-1)) hx hb dX10_reading_14 (by decide) ?_
      obtain ⟨rfl, rfl⟩ := u_end h
      exact u_iret hx hb hr hlk G dX10_reading_15
/-! X10_rivals -/
def f_X10_rivals (σ : St) (v1 : Int32) (v2 : Int32) : Option (Int32 × St) :=
  ub (f_X10_isLine σ v1) fun r1 σ2 =>
  if r1 = 0 then
    some (((-1) : Int32), σ2)
  else
    ub (f_X10_isColour σ2 v2) fun r3 σ4 =>
    if r3 = 0 then
      some (((-1) : Int32), σ4)
    else
      ub (f_X10_setRivals σ4 v1 v2) fun r5 σ6 =>
      some ((σ6 0 17), σ6)
theorem fi_X10_rivals_10 : ∀ w ∈ u_ws RX10 TX10 44, w ∈ wsX10_rivals := by decide +kernel
set_option maxHeartbeats 4000000 in
set_option maxRecDepth 100000 in
theorem c_X10_rivals (l : Launch) (D : va_G) (ad : Nat → Nat) (cs : Nat → ClassId) (J : uJ 34 ad) (σ : St) (v1 : Int32) (v2 : Int32) (r : Int32) (σ' : St) (h : f_X10_rivals σ v1 v2 = some (r, σ')) : uMi l yX10_rivals wsX10_rivals { frames := 4, cells := 0, slots := 0, locals := 100 } D vwCl (tyM cs) 34 ad (enM ad cs) [.ref (ad 0), .int v1, .int v2] σ r σ' := by
  refine u_met (Qf := uQi D vwCl 34 ad (enM ad cs) r σ') (cc := cX10_rivals) (maxL := 3) (ret := (some .int)) (lv := [(0, .ref (ad 0)), (1, .int v1), (2, .int v2)]) J (by decide) rfl (Nat.le_of_ble_eq_true rfl) rfl rfl rfl ?_
  intro p e s m args below meth c ls hx hb C hr hlk G hl
  unfold f_X10_rivals at h
  obtain ⟨H, eH⟩ : ∃ H, H = s.heap := ⟨_, rfl⟩
  obtain ⟨locs, eL⟩ : ∃ locs : List Loc, locs = [] := ⟨_, rfl⟩
  refine u_start eH eL G ?_
  clear G eH eL
  intro G
  refine lv_iload_n hx hb dX10_rivals_0 rfl (lv_at hl 1 rfl) ?_
  obtain ⟨r1, σ2, er1, h⟩ := ub_of h
  refine u_callSi (As := [.int v1]) (rest := []) C G (c_X10_isLine l D ad cs C.2.2.1 σ v1 r1 σ2 er1) (va_cwS 1 C.1.2.2.2.2 gX10_rivals_X10_isLine rfl rfl rfl (by decide +kernel) ⟨Nat.le_of_ble_eq_true rfl, Nat.le_of_ble_eq_true rfl⟩) rfl hl rfl (Nat.le_of_ble_eq_true rfl) dX10_rivals_1 (fun H locs G => ?_)
  refine lv_if_eq (tgt := 14) hx hb dX10_rivals_4 (by decide) (fun q => ?_) (fun q => ?_)
  · have h := u_pos q h
    refine lv_iconst (v := (-1)) hx hb dX10_rivals_14 (by decide) ?_
    obtain ⟨rfl, rfl⟩ := u_end h
    exact u_iret hx hb hr hlk G dX10_rivals_15
  · have h := u_neg q h
    refine lv_iload_n hx hb dX10_rivals_7 rfl (lv_at hl 2 rfl) ?_
    obtain ⟨r3, σ4, er3, h⟩ := ub_of h
    refine u_callSi (As := [.int v2]) (rest := []) C G (c_X10_isColour l D ad cs C.2.2.1 σ2 v2 r3 σ4 er3) (va_cwS 1 C.1.2.2.2.2 gX10_rivals_X10_isColour rfl rfl rfl (by decide +kernel) ⟨Nat.le_of_ble_eq_true rfl, Nat.le_of_ble_eq_true rfl⟩) rfl hl rfl (Nat.le_of_ble_eq_true rfl) dX10_rivals_8 (fun H locs G => ?_)
    refine lv_if_ne (tgt := 16) hx hb dX10_rivals_11 (by decide) (fun q => ?_) (fun q => ?_)
    · have h := u_neg q h
      refine lv_aload_n hx hb dX10_rivals_16 rfl (lv_at hl 0 rfl) ?_
      refine lv_iload_n hx hb dX10_rivals_17 rfl (lv_at hl 1 rfl) ?_
      refine lv_iload_n hx hb dX10_rivals_18 rfl (lv_at hl 2 rfl) ?_
      obtain ⟨r5, σ6, er5, h⟩ := ub_of h
      refine u_callVv (As := [.int v1, .int v2]) (rest := []) C G (c_X10_setRivals l D ad cs C.2.2.1 σ4 v1 v2 r5 σ6 er5) (cwV 2 C.1.2.2.2.2 gX10_rivals_X10_setRivals rfl rfl rfl (by decide +kernel) ⟨Nat.le_of_ble_eq_true rfl, Nat.le_of_ble_eq_true rfl⟩) obM_0 (ci := 10) (T := TX10) rfl rfl hl rfl (Nat.le_of_ble_eq_true rfl) dX10_rivals_19 (fun H locs G => ?_)
      refine lv_aload_n hx hb dX10_rivals_22 rfl (lv_at hl 0 rfl) ?_
      refine u_get (v := .int (σ6 0 17)) C G obM_0 (ci := 10) (N := 44) (Cn := RX10) (T := TX10) rfl fi_X10_rivals_10 17 (by decide) (by decide +kernel) rfl dX10_rivals_23 ?_
      obtain ⟨rfl, rfl⟩ := u_end h
      exact u_iret hx hb hr hlk G dX10_rivals_26
    · have h := u_pos q h
      refine lv_iconst (v := (-1)) hx hb dX10_rivals_14 (by decide) ?_
      obtain ⟨rfl, rfl⟩ := u_end h
      exact u_iret hx hb hr hlk G dX10_rivals_15
