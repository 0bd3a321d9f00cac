/-! X10_in -/
def f_X10_in (σ : St) (v0 : Int32) (v1 : Int32) (v2 : Int32) : Option (Int32 × St) :=
  if v0 < v1 then
    some ((0 : Int32), σ)
  else
    if v2 < v0 then
      some ((0 : Int32), σ)
    else
      some ((1 : Int32), σ)
set_option maxHeartbeats 4000000 in
set_option maxRecDepth 100000 in
theorem c_X10_in (l : Launch) (D : va_G) (ad : Nat → Nat) (cs : Nat → ClassId) (J : uJ 34 ad) (σ : St) (v0 : Int32) (v1 : Int32) (v2 : Int32) (r : Int32) (σ' : St) (h : f_X10_in σ v0 v1 v2 = some (r, σ')) : uMi l yX10_in wsX10_in { frames := 0, cells := 0, slots := 0, locals := 0 } D vwCl (tyM cs) 34 ad (enM ad cs) [.int v0, .int v1, .int v2] σ r σ' := by
  refine u_met (Qf := uQi D vwCl 34 ad (enM ad cs) r σ') (cc := cX10_in) (maxL := 3) (ret := (some .boolean)) (lv := [(0, .int v0), (1, .int v1), (2, .int v2)]) J (by decide) rfl (Nat.le_of_ble_eq_true rfl) rfl rfl rfl ?_
  intro p e s m args below meth c ls hx hb C hr hlk G hl
  unfold f_X10_in at h
  obtain ⟨H, eH⟩ : ∃ H, H = s.heap := ⟨_, rfl⟩
  obtain ⟨locs, eL⟩ : ∃ locs : List Loc, locs = [] := ⟨_, rfl⟩
  refine u_start eH eL G ?_
  clear G eH eL
  intro G
  refine lv_iload_n hx hb dX10_in_0 rfl (lv_at hl 0 rfl) ?_
  refine lv_iload_n hx hb dX10_in_1 rfl (lv_at hl 1 rfl) ?_
  refine lv_icmp_lt (tgt := 14) hx hb dX10_in_2 (by decide) (fun q => ?_) (fun q => ?_)
  · have h := u_pos q h
    refine lv_iconst (v := 0) hx hb dX10_in_14 (by decide) ?_
    obtain ⟨rfl, rfl⟩ := u_end h
    exact u_zret hx hb hr hlk G (by decide) dX10_in_15
  · have h := u_neg q h
    refine lv_iload_n hx hb dX10_in_5 rfl (lv_at hl 0 rfl) ?_
    refine lv_iload_n hx hb dX10_in_6 rfl (lv_at hl 2 rfl) ?_
    refine lv_icmp_gt (tgt := 14) hx hb dX10_in_7 (by decide) (fun q => ?_) (fun q => ?_)
    · have h := u_pos q h
      refine lv_iconst (v := 0) hx hb dX10_in_14 (by decide) ?_
      obtain ⟨rfl, rfl⟩ := u_end h
      exact u_zret hx hb hr hlk G (by decide) dX10_in_15
    · have h := u_neg q h
      refine lv_iconst (v := 1) hx hb dX10_in_10 (by decide) ?_
      refine lv_goto (tgt := 15) hx hb dX10_in_11 (by decide) ?_
      obtain ⟨rfl, rfl⟩ := u_end h
      exact u_zret hx hb hr hlk G (by decide) dX10_in_15
/-! X10_meets -/
def f_X10_meets (σ : St) (v1 : Int32) : Option (Int32 × St) :=
  ul (us σ 0 0 v1) fun σ1 =>
  ui v1 6 <|
  ui v1 6 <|
  ul (us σ1 1 v1.toNatClampNeg ((σ1 1 v1.toNatClampNeg) + 1)) fun σ4 =>
  some (((-3) : Int32), σ4)
theorem fi_X10_meets_10 : ∀ w ∈ u_ws RX10 TX10 44, w ∈ wsX10_meets := by decide +kernel
set_option maxHeartbeats 4000000 in
set_option maxRecDepth 100000 in
theorem c_X10_meets (l : Launch) (D : va_G) (ad : Nat → Nat) (cs : Nat → ClassId) (J : uJ 34 ad) (σ : St) (v1 : Int32) (r : Int32) (σ' : St) (h : f_X10_meets σ v1 = some (r, σ')) : uMi l yX10_meets wsX10_meets { frames := 0, cells := 0, slots := 0, locals := 0 } D vwCl (tyM cs) 34 ad (enM ad cs) [.ref (ad 0), .int v1] σ r σ' := by
  refine u_met (Qf := uQi D vwCl 34 ad (enM ad cs) r σ') (cc := cX10_meets) (maxL := 2) (ret := (some .int)) (lv := [(0, .ref (ad 0)), (1, .int v1)]) J (by decide) rfl (Nat.le_of_ble_eq_true rfl) rfl rfl rfl ?_
  intro p e s m args below meth c ls hx hb C hr hlk G hl
  unfold f_X10_meets at h
  obtain ⟨H, eH⟩ : ∃ H, H = s.heap := ⟨_, rfl⟩
  obtain ⟨locs, eL⟩ : ∃ locs : List Loc, locs = [] := ⟨_, rfl⟩
  refine u_start eH eL G ?_
  clear G eH eL
  intro G
  refine lv_aload_n hx hb dX10_meets_0 rfl (lv_at hl 0 rfl) ?_
  refine lv_iload_n hx hb dX10_meets_1 rfl (lv_at hl 1 rfl) ?_
  refine u_put (x := v1) (ty := .int) C G obM_0 (ci := 10) (N := 44) (Cn := RX10) (T := TX10) rfl fi_X10_meets_10 tyX10 tyX10_ok nmX10 0 (by decide) (by decide +kernel) rfl (by decide +kernel) rfl rfl (fun f => by simp) (fun f => rfl) dX10_meets_2 (fun H locs G => ?_)
  obtain ⟨σ1, eσ1, h⟩ := ul_of h
  replace G := uG_eq eσ1 G
  refine lv_aload_n hx hb dX10_meets_5 rfl (lv_at hl 0 rfl) ?_
  refine u_get (v := .ref (ad 1)) C G obM_0 (ci := 10) (N := 44) (Cn := RX10) (T := TX10) rfl fi_X10_meets_10 1 (by decide) (by decide +kernel) rfl dX10_meets_6 ?_
  refine lv_iload_n hx hb dX10_meets_9 rfl (lv_at hl 1 rfl) ?_
  refine lv_dup2_11 hx hb dX10_meets_10 rfl rfl ?_
  obtain ⟨g2, h⟩ := ui_of h
  refine u_iald C G arM_1 (t0 := 0) rfl g2 dX10_meets_11 ?_
  refine lv_iconst (v := 1) hx hb dX10_meets_12 (by decide) ?_
  refine lv_iadd hx hb dX10_meets_13 ?_
  obtain ⟨g3, h⟩ := ui_of h
  refine u_iast C G arM_1 (t0 := 0) rfl g3 dX10_meets_14 (fun H locs G => ?_)
  obtain ⟨σ4, eσ4, h⟩ := ul_of h
  replace G := uG_eq eσ4 G
  refine lv_bipush (v := (-3)) hx hb dX10_meets_15 (by decide) ?_
  obtain ⟨rfl, rfl⟩ := u_end h
  exact u_iret hx hb hr hlk G dX10_meets_17
/-! X10_isLetter -/
def f_X10_isLetter (σ : St) (v0 : Int32) : Option (Int32 × St) :=
  ub (f_X10_in σ v0 (97 : Int32) (122 : Int32)) fun r1 σ2 =>
  ug (unz r1) <|
  some (r1, σ2)
set_option maxHeartbeats 4000000 in
set_option maxRecDepth 100000 in
theorem c_X10_isLetter (l : Launch) (D : va_G) (ad : Nat → Nat) (cs : Nat → ClassId) (J : uJ 34 ad) (σ : St) (v0 : Int32) (r : Int32) (σ' : St) (h : f_X10_isLetter σ v0 = some (r, σ')) : uMi l yX10_isLetter wsX10_isLetter { frames := 1, cells := 0, slots := 0, locals := 22 } D vwCl (tyM cs) 34 ad (enM ad cs) [.int v0] σ r σ' := by
  refine u_met (Qf := uQi D vwCl 34 ad (enM ad cs) r σ') (cc := cX10_isLetter) (maxL := 1) (ret := (some .boolean)) (lv := [(0, .int v0)]) J (by decide) rfl (Nat.le_of_ble_eq_true rfl) rfl rfl rfl ?_
  intro p e s m args below meth c ls hx hb C hr hlk G hl
  unfold f_X10_isLetter at h
  obtain ⟨H, eH⟩ : ∃ H, H = s.heap := ⟨_, rfl⟩
  obtain ⟨locs, eL⟩ : ∃ locs : List Loc, locs = [] := ⟨_, rfl⟩
  refine u_start eH eL G ?_
  clear G eH eL
  intro G
  refine lv_iload_n hx hb dX10_isLetter_0 rfl (lv_at hl 0 rfl) ?_
  refine lv_bipush (v := 97) hx hb dX10_isLetter_1 (by decide) ?_
  refine lv_bipush (v := 122) hx hb dX10_isLetter_3 (by decide) ?_
  obtain ⟨r1, σ2, er1, h⟩ := ub_of h
  refine u_callSi (As := [.int v0, .int 97, .int 122]) (rest := []) C G (c_X10_in l D ad cs C.2.2.1 σ v0 (97 : Int32) (122 : Int32) r1 σ2 er1) (va_cwS 3 C.1.2.2.2.2 gX10_isLetter_X10_in rfl rfl rfl (by decide +kernel) ⟨Nat.le_of_ble_eq_true rfl, Nat.le_of_ble_eq_true rfl⟩) rfl hl rfl (Nat.le_of_ble_eq_true rfl) dX10_isLetter_5 (fun H locs G => ?_)
  obtain ⟨gz, h⟩ := ug_of h
  obtain ⟨rfl, rfl⟩ := u_end h
  exact u_zret hx hb hr hlk G gz dX10_isLetter_8
/-! X10_letter -/
def f_X10_letter (σ : St) (v1 : Int32) (v2 : Int32) : Option (Int32 × St) :=
  ub (f_X10_isLetter σ v1) fun r1 σ2 =>
  if r1 = 0 then
    some (((-1) : Int32), σ2)
  else
    ub (f_X10_in σ2 v2 (0 : Int32) (32767 : Int32)) fun r3 σ4 =>
    if r3 = 0 then
      some (((-1) : Int32), σ4)
    else
      ui (v1 - 97) 26 <|
      ul (σ4 2 (v1 - 97).toNatClampNeg) fun x6 =>
      ui (v1 - 97) 26 <|
      ul (us σ4 2 (v1 - 97).toNatClampNeg v2) fun σ8 =>
      some (x6, σ8)
theorem fi_X10_letter_10 : ∀ w ∈ u_ws RX10 TX10 44, w ∈ wsX10_letter := by decide +kernel
set_option maxHeartbeats 4000000 in
set_option maxRecDepth 100000 in
theorem c_X10_letter (l : Launch) (D : va_G) (ad : Nat → Nat) (cs : Nat → ClassId) (J : uJ 34 ad) (σ : St) (v1 : Int32) (v2 : Int32) (r : Int32) (σ' : St) (h : f_X10_letter σ v1 v2 = some (r, σ')) : uMi l yX10_letter wsX10_letter { frames := 2, cells := 0, slots := 0, locals := 42 } D vwCl (tyM cs) 34 ad (enM ad cs) [.ref (ad 0), .int v1, .int v2] σ r σ' := by
  refine u_met (Qf := uQi D vwCl 34 ad (enM ad cs) r σ') (cc := cX10_letter) (maxL := 4) (ret := (some .int)) (lv := [(0, .ref (ad 0)), (1, .int v1), (2, .int v2)]) J (by decide) rfl (Nat.le_of_ble_eq_true rfl) rfl rfl rfl ?_
  intro p e s m args below meth c ls hx hb C hr hlk G hl
  unfold f_X10_letter at h
  obtain ⟨H, eH⟩ : ∃ H, H = s.heap := ⟨_, rfl⟩
  obtain ⟨locs, eL⟩ : ∃ locs : List Loc, locs = [] := ⟨_, rfl⟩
  refine u_start eH eL G ?_
  clear G eH eL
  intro G
  refine lv_iload_n hx hb dX10_letter_0 rfl (lv_at hl 1 rfl) ?_
  obtain ⟨r1, σ2, er1, h⟩ := ub_of h
  refine u_callSi (As := [.int v1]) (rest := []) C G (c_X10_isLetter l D ad cs C.2.2.1 σ v1 r1 σ2 er1) (va_cwS 1 C.1.2.2.2.2 gX10_letter_X10_isLetter rfl rfl rfl (by decide +kernel) ⟨Nat.le_of_ble_eq_true rfl, Nat.le_of_ble_eq_true rfl⟩) rfl hl rfl (Nat.le_of_ble_eq_true rfl) dX10_letter_1 (fun H locs G => ?_)
  refine lv_if_eq (tgt := 18) hx hb dX10_letter_4 (by decide) (fun q => ?_) (fun q => ?_)
  · have h := u_pos q h
    refine lv_iconst (v := (-1)) hx hb dX10_letter_18 (by decide) ?_
    obtain ⟨rfl, rfl⟩ := u_end h
    exact u_iret hx hb hr hlk G dX10_letter_19
  · have h := u_neg q h
    refine lv_iload_n hx hb dX10_letter_7 rfl (lv_at hl 2 rfl) ?_
    refine lv_iconst (v := 0) hx hb dX10_letter_8 (by decide) ?_
    refine lv_sipush (v := 32767) hx hb dX10_letter_9 (by decide) ?_
    obtain ⟨r3, σ4, er3, h⟩ := ub_of h
    refine u_callSi (As := [.int v2, .int 0, .int 32767]) (rest := []) C G (c_X10_in l D ad cs C.2.2.1 σ2 v2 (0 : Int32) (32767 : Int32) r3 σ4 er3) (va_cwS 3 C.1.2.2.2.2 gX10_letter_X10_in rfl rfl rfl (by decide +kernel) ⟨Nat.le_of_ble_eq_true rfl, Nat.le_of_ble_eq_true rfl⟩) rfl hl rfl (Nat.le_of_ble_eq_true rfl) dX10_letter_12 (fun H locs G => ?_)
    refine lv_if_ne (tgt := 20) hx hb dX10_letter_15 (by decide) (fun q => ?_) (fun q => ?_)
    · have h := u_neg q h
      refine lv_aload_n hx hb dX10_letter_20 rfl (lv_at hl 0 rfl) ?_
      refine u_get (v := .ref (ad 2)) C G obM_0 (ci := 10) (N := 44) (Cn := RX10) (T := TX10) rfl fi_X10_letter_10 3 (by decide) (by decide +kernel) rfl dX10_letter_21 ?_
      refine lv_iload_n hx hb dX10_letter_24 rfl (lv_at hl 1 rfl) ?_
      refine lv_bipush (v := 97) hx hb dX10_letter_25 (by decide) ?_
      refine lv_isub hx hb dX10_letter_27 ?_
      obtain ⟨g5, h⟩ := ui_of h
      refine u_iald C G arM_2 (t0 := 0) rfl g5 dX10_letter_28 ?_
      obtain ⟨x6, ex6, h⟩ := ul_of h
      refine u_nmi ex6 ?_
      refine lv_istore_n (lv' := [(3, .int x6), (0, .ref (ad 0)), (1, .int v1), (2, .int v2)]) hx hb dX10_letter_29 rfl hl (by decide) rfl (fun ls hl => ?_)
      refine lv_aload_n hx hb dX10_letter_30 rfl (lv_at hl 1 rfl) ?_
      refine u_get (v := .ref (ad 2)) C G obM_0 (ci := 10) (N := 44) (Cn := RX10) (T := TX10) rfl fi_X10_letter_10 3 (by decide) (by decide +kernel) rfl dX10_letter_31 ?_
      refine lv_iload_n hx hb dX10_letter_34 rfl (lv_at hl 2 rfl) ?_
      refine lv_bipush (v := 97) hx hb dX10_letter_35 (by decide) ?_
      refine lv_isub hx hb dX10_letter_37 ?_
      refine lv_iload_n hx hb dX10_letter_38 rfl (lv_at hl 3 rfl) ?_
      obtain ⟨g7, h⟩ := ui_of h
      refine u_iast C G arM_2 (t0 := 0) rfl g7 dX10_letter_39 (fun H locs G => ?_)
      obtain ⟨σ8, eσ8, h⟩ := ul_of h
      replace G := uG_eq eσ8 G
      refine lv_iload_n hx hb dX10_letter_40 rfl (lv_at hl 0 rfl) ?_
      obtain ⟨rfl, rfl⟩ := u_end h
      exact u_iret hx hb hr hlk G dX10_letter_41
    · have h := u_pos q h
      refine lv_iconst (v := (-1)) hx hb dX10_letter_18 (by decide) ?_
      obtain ⟨rfl, rfl⟩ := u_end h
      exact u_iret hx hb hr hlk G dX10_letter_19
/-! X10_isSheet -/
def f_X10_isSheet (σ : St) (v0 : Int32) : Option (Int32 × St) :=
  ub (f_X10_in σ v0 (0 : Int32) (3 : Int32)) fun r1 σ2 =>
  ug (unz r1) <|
  some (r1, σ2)
set_option maxHeartbeats 4000000 in
set_option maxRecDepth 100000 in
theorem c_X10_isSheet (l : Launch) (D : va_G) (ad : Nat → Nat) (cs : Nat → ClassId) (J : uJ 34 ad) (σ : St) (v0 : Int32) (r : Int32) (σ' : St) (h : f_X10_isSheet σ v0 = some (r, σ')) : uMi l yX10_isSheet wsX10_isSheet { frames := 1, cells := 0, slots := 0, locals := 22 } D vwCl (tyM cs) 34 ad (enM ad cs) [.int v0] σ r σ' := by
  refine u_met (Qf := uQi D vwCl 34 ad (enM ad cs) r σ') (cc := cX10_isSheet) (maxL := 1) (ret := (some .boolean)) (lv := [(0, .int v0)]) J (by decide) rfl (Nat.le_of_ble_eq_true rfl) rfl rfl rfl ?_
  intro p e s m args below meth c ls hx hb C hr hlk G hl
  unfold f_X10_isSheet at h
  obtain ⟨H, eH⟩ : ∃ H, H = s.heap := ⟨_, rfl⟩
  obtain ⟨locs, eL⟩ : ∃ locs : List Loc, locs = [] := ⟨_, rfl⟩
  refine u_start eH eL G ?_
  clear G eH eL
  intro G
  refine lv_iload_n hx hb dX10_isSheet_0 rfl (lv_at hl 0 rfl) ?_
  refine lv_iconst (v := 0) hx hb dX10_isSheet_1 (by decide) ?_
  refine lv_iconst (v := 3) hx hb dX10_isSheet_2 (by decide) ?_
  obtain ⟨r1, σ2, er1, h⟩ := ub_of h
  refine u_callSi (As := [.int v0, .int 0, .int 3]) (rest := []) C G (c_X10_in l D ad cs C.2.2.1 σ v0 (0 : Int32) (3 : Int32) r1 σ2 er1) (va_cwS 3 C.1.2.2.2.2 gX10_isSheet_X10_in rfl rfl rfl (by decide +kernel) ⟨Nat.le_of_ble_eq_true rfl, Nat.le_of_ble_eq_true rfl⟩) rfl hl rfl (Nat.le_of_ble_eq_true rfl) dX10_isSheet_3 (fun H locs G => ?_)
  obtain ⟨gz, h⟩ := ug_of h
  obtain ⟨rfl, rfl⟩ := u_end h
  exact u_zret hx hb hr hlk G gz dX10_isSheet_6
/-! X10_looked -/
def f_X10_looked (σ : St) (v1 : Int32) : Option (Int32 × St) :=
  ub (f_X10_isSheet σ v1) fun r1 σ2 =>
  if r1 = 0 then
    some (((-1) : Int32), σ2)
  else
    ui v1 4 <|
    if 0 ≤ (σ2 3 v1.toNatClampNeg) then
      some ((0 : Int32), σ2)
    else
      ub (f_X10_meets σ2 (1 : Int32)) fun r4 σ5 =>
      some (r4, σ5)
theorem fi_X10_looked_10 : ∀ w ∈ u_ws RX10 TX10 44, w ∈ wsX10_looked := by decide +kernel
set_option maxHeartbeats 4000000 in
set_option maxRecDepth 100000 in
theorem c_X10_looked (l : Launch) (D : va_G) (ad : Nat → Nat) (cs : Nat → ClassId) (J : uJ 34 ad) (σ : St) (v1 : Int32) (r : Int32) (σ' : St) (h : f_X10_looked σ v1 = some (r, σ')) : uMi l yX10_looked wsX10_looked { frames := 2, cells := 0, slots := 0, locals := 42 } D vwCl (tyM cs) 34 ad (enM ad cs) [.ref (ad 0), .int v1] σ r σ' := by
  refine u_met (Qf := uQi D vwCl 34 ad (enM ad cs) r σ') (cc := cX10_looked) (maxL := 2) (ret := (some .int)) (lv := [(0, .ref (ad 0)), (1, .int v1)]) J (by decide) rfl (Nat.le_of_ble_eq_true rfl) rfl rfl rfl ?_
  intro p e s m args below meth c ls hx hb C hr hlk G hl
  unfold f_X10_looked at h
  obtain ⟨H, eH⟩ : ∃ H, H = s.heap := ⟨_, rfl⟩
  obtain ⟨locs, eL⟩ : ∃ locs : List Loc, locs = [] := ⟨_, rfl⟩
  refine u_start eH eL G ?_
  clear G eH eL
  intro G
  refine lv_iload_n hx hb dX10_looked_0 rfl (lv_at hl 1 rfl) ?_
  obtain ⟨r1, σ2, er1, h⟩ := ub_of h
  refine u_callSi (As := [.int v1]) (rest := []) C G (c_X10_isSheet l D ad cs C.2.2.1 σ v1 r1 σ2 er1) (va_cwS 1 C.1.2.2.2.2 gX10_looked_X10_isSheet rfl rfl rfl (by decide +kernel) ⟨Nat.le_of_ble_eq_true rfl, Nat.le_of_ble_eq_true rfl⟩) rfl hl rfl (Nat.le_of_ble_eq_true rfl) dX10_looked_1 (fun H locs G => ?_)
  refine lv_if_ne (tgt := 11) hx hb dX10_looked_4 (by decide) (fun q => ?_) (fun q => ?_)
  · have h := u_neg q h
    refine lv_aload_n hx hb dX10_looked_11 rfl (lv_at hl 0 rfl) ?_
    refine u_get (v := .ref (ad 3)) C G obM_0 (ci := 10) (N := 44) (Cn := RX10) (T := TX10) rfl fi_X10_looked_10 4 (by decide) (by decide +kernel) rfl dX10_looked_12 ?_
    refine lv_iload_n hx hb dX10_looked_15 rfl (lv_at hl 1 rfl) ?_
    obtain ⟨g3, h⟩ := ui_of h
    refine u_iald C G arM_3 (t0 := 0) rfl g3 dX10_looked_16 ?_
    refine lv_if_ge (tgt := 28) hx hb dX10_looked_17 (by decide) (fun q => ?_) (fun q => ?_)
    · have h := u_pos q h
      refine lv_iconst (v := 0) hx hb dX10_looked_28 (by decide) ?_
      obtain ⟨rfl, rfl⟩ := u_end h
      exact u_iret hx hb hr hlk G dX10_looked_29
    · have h := u_neg q h
      refine lv_aload_n hx hb dX10_looked_20 rfl (lv_at hl 0 rfl) ?_
      refine lv_iconst (v := 1) hx hb dX10_looked_21 (by decide) ?_
      obtain ⟨r4, σ5, er4, h⟩ := ub_of h
      refine u_callVi (As := [.int 1]) (rest := []) C G (c_X10_meets l D ad cs C.2.2.1 σ2 (1 : Int32) r4 σ5 er4) (cwV 1 C.1.2.2.2.2 gX10_looked_X10_meets rfl rfl rfl (by decide +kernel) ⟨Nat.le_of_ble_eq_true rfl, Nat.le_of_ble_eq_true rfl⟩) obM_0 (ci := 10) (T := TX10) rfl rfl hl rfl (Nat.le_of_ble_eq_true rfl) dX10_looked_22 (fun H locs G => ?_)
      refine lv_goto (tgt := 29) hx hb dX10_looked_25 (by decide) ?_
      obtain ⟨rfl, rfl⟩ := u_end h
      exact u_iret hx hb hr hlk G dX10_looked_29
  · have h := u_pos q h
    refine lv_iconst (v := (-1)) hx hb dX10_looked_7 (by decide) ?_
    refine lv_goto (tgt := 29) hx hb dX10_looked_8 (by decide) ?_
    obtain ⟨rfl, rfl⟩ := u_end h
    exact u_iret hx hb hr hlk G dX10_looked_29
/-! X10_sheet -/
def f_X10_sheet_34 : Nat → St → Int32 → Int32 → Int32 → Option (Int32 × St)
  | 0, _, _, _, _ => none
  | fuel + 1, σ, v1, v2, v3 =>
    if 10 ≤ v3 then
      some (v2, σ)
    else
      ui ((10 * v1) + v3) 40 <|
      ul (us σ 4 ((10 * v1) + v3).toNatClampNeg 97) fun σ8 =>
      ul (v3 + 1) fun x9 =>
      f_X10_sheet_34 fuel σ8 v1 v2 x9
def f_X10_sheet (σ : St) (v1 : Int32) (v2 : Int32) : Option (Int32 × St) :=
  ub (f_X10_isSheet σ v1) fun r1 σ2 =>
  if r1 = 0 then
    some (((-1) : Int32), σ2)
  else
    if v2 ≤ 10 then
      if 0 ≤ v2 then
        ui v1 4 <|
        ul (us σ2 3 v1.toNatClampNeg v2) fun σ4 =>
        f_X10_sheet_34 fu σ4 v1 v2 0
      else
        ub (f_X10_meets σ2 (5 : Int32)) fun r5 σ6 =>
        some (r5, σ6)
    else
      some (((-1) : Int32), σ2)
theorem fi_X10_sheet_10 : ∀ w ∈ u_ws RX10 TX10 44, w ∈ wsX10_sheet := by decide +kernel
set_option maxHeartbeats 4000000 in
set_option maxRecDepth 100000 in
theorem w_X10_sheet_34 {p : Program} {l : Launch} {e : Env} {s : State} {m : MethodId} {args : Array Value} {below : List Frame} {meth : Method} {c : Code} {D : va_G} {ad : Nat → Nat} {cs : Nat → ClassId} (C : uC p { frames := 2, cells := 0, slots := 0, locals := 42 } s m args c cX10_sheet 4 wsX10_sheet RX10 D vwCl (tyM cs) 34 ad (uAd 34 ad s.heap.size) 0 0) (hr : meth.sig.returnType = (some .int)) (hlk : meth.locks = false) {r : Int32} {σ' : St} :
    ∀ (n : Nat) (σ : St) (v1 : Int32) (v2 : Int32) (v3 : Int32), f_X10_sheet_34 n σ v1 v2 v3 = some (r, σ') → ∀ (H : Heap) (locs : List Loc) (ls : Array Slot), uG D vwCl 34 ad (enM ad cs) (uAd 34 ad s.heap.size) s σ H locs → lv_has ls 4 [(0, .ref (ad 0)), (1, .int v1), (2, .int v2), (3, .int v3)] → W p l e { frames := 2, cells := 0, slots := 0, locals := 42 } s m args below meth c H locs 0 0 (MQ below (uQi D vwCl 34 ad (enM ad cs) r σ' s.heap.size) args s 0 0 (uAd 34 ad s.heap.size)) (F0 m 34 ls []) := by
  have hx := C.1.1
  have hb := C.1.2.1
  intro n
  induction n with
  | zero => intro σ v1 v2 v3  h; exact absurd h (by simp [f_X10_sheet_34])
  | succ fuel ih =>
    intro σ v1 v2 v3  h H locs ls G hl
    rw [f_X10_sheet_34] at h
    refine lv_iload_n hx hb dX10_sheet_34 rfl (lv_at hl 3 rfl) ?_
    refine lv_bipush (v := 10) hx hb dX10_sheet_35 (by decide) ?_
    refine lv_icmp_ge (tgt := 59) hx hb dX10_sheet_37 (by decide) (fun q => ?_) (fun q => ?_)
    · have h := u_pos q h
      refine lv_iload_n hx hb dX10_sheet_59 rfl (lv_at hl 2 rfl) ?_
      obtain ⟨rfl, rfl⟩ := u_end h
      exact u_iret hx hb hr hlk G dX10_sheet_60
    · have h := u_neg q h
      refine lv_aload_n hx hb dX10_sheet_40 rfl (lv_at hl 0 rfl) ?_
      refine u_get (v := .ref (ad 4)) C G obM_0 (ci := 10) (N := 44) (Cn := RX10) (T := TX10) rfl fi_X10_sheet_10 5 (by decide) (by decide +kernel) rfl dX10_sheet_41 ?_
      refine lv_bipush (v := 10) hx hb dX10_sheet_44 (by decide) ?_
      refine lv_iload_n hx hb dX10_sheet_46 rfl (lv_at hl 1 rfl) ?_
      refine lv_imul hx hb dX10_sheet_47 ?_
      refine lv_iload_n hx hb dX10_sheet_48 rfl (lv_at hl 3 rfl) ?_
      refine lv_iadd hx hb dX10_sheet_49 ?_
      refine lv_bipush (v := 97) hx hb dX10_sheet_50 (by decide) ?_
      obtain ⟨g7, h⟩ := ui_of h
      refine u_iast C G arM_4 (t0 := 0) rfl g7 dX10_sheet_52 (fun H locs G => ?_)
      obtain ⟨σ8, eσ8, h⟩ := ul_of h
      replace G := uG_eq eσ8 G
      obtain ⟨x9, ex9, h⟩ := ul_of h
      refine lv_iinc (v := x9) (lv' := [(3, .int x9), (0, .ref (ad 0)), (1, .int v1), (2, .int v2)]) hx hb dX10_sheet_53 hl (k := 3) rfl (by rw [ex9]; rfl) (by decide) rfl (fun ls hl => ?_)
      refine lv_goto (tgt := 34) hx hb dX10_sheet_56 (by decide) ?_
      exact ih σ8 v1 v2 x9 h H locs ls G (lv_sub hl [1, 2, 3, 0] rfl)
set_option maxHeartbeats 4000000 in
set_option maxRecDepth 100000 in
theorem c_X10_sheet (l : Launch) (D : va_G) (ad : Nat → Nat) (cs : Nat → ClassId) (J : uJ 34 ad) (σ : St) (v1 : Int32) (v2 : Int32) (r : Int32) (σ' : St) (h : f_X10_sheet σ v1 v2 = some (r, σ')) : uMi l yX10_sheet wsX10_sheet { frames := 2, cells := 0, slots := 0, locals := 42 } D vwCl (tyM cs) 34 ad (enM ad cs) [.ref (ad 0), .int v1, .int v2] σ r σ' := by
  refine u_met (Qf := uQi D vwCl 34 ad (enM ad cs) r σ') (cc := cX10_sheet) (maxL := 4) (ret := (some .int)) (lv := [(0, .ref (ad 0)), (1, .int v1), (2, .int v2)]) J (by decide) rfl (Nat.le_of_ble_eq_true rfl) rfl rfl rfl ?_
  intro p e s m args below meth c ls hx hb C hr hlk G hl
  unfold f_X10_sheet at h
  obtain ⟨H, eH⟩ : ∃ H, H = s.heap := ⟨_, rfl⟩
  obtain ⟨locs, eL⟩ : ∃ locs : List Loc, locs = [] := ⟨_, rfl⟩
  refine u_start eH eL G ?_
  clear G eH eL
  intro G
  refine lv_iload_n hx hb dX10_sheet_0 rfl (lv_at hl 1 rfl) ?_
  obtain ⟨r1, σ2, er1, h⟩ := ub_of h
  refine u_callSi (As := [.int v1]) (rest := []) C G (c_X10_isSheet l D ad cs C.2.2.1 σ v1 r1 σ2 er1) (va_cwS 1 C.1.2.2.2.2 gX10_sheet_X10_isSheet rfl rfl rfl (by decide +kernel) ⟨Nat.le_of_ble_eq_true rfl, Nat.le_of_ble_eq_true rfl⟩) rfl hl rfl (Nat.le_of_ble_eq_true rfl) dX10_sheet_1 (fun H locs G => ?_)
  refine lv_if_eq (tgt := 13) hx hb dX10_sheet_4 (by decide) (fun q => ?_) (fun q => ?_)
  · have h := u_pos q h
    refine lv_iconst (v := (-1)) hx hb dX10_sheet_13 (by decide) ?_
    obtain ⟨rfl, rfl⟩ := u_end h
    exact u_iret hx hb hr hlk G dX10_sheet_14
  · have h := u_neg q h
    refine lv_iload_n hx hb dX10_sheet_7 rfl (lv_at hl 2 rfl) ?_
    refine lv_bipush (v := 10) hx hb dX10_sheet_8 (by decide) ?_
    refine lv_icmp_le (tgt := 15) hx hb dX10_sheet_10 (by decide) (fun q => ?_) (fun q => ?_)
    · have h := u_pos q h
      refine lv_iload_n hx hb dX10_sheet_15 rfl (lv_at hl 2 rfl) ?_
      refine lv_if_ge (tgt := 25) hx hb dX10_sheet_16 (by decide) (fun q => ?_) (fun q => ?_)
      · have h := u_pos q h
        refine lv_aload_n hx hb dX10_sheet_25 rfl (lv_at hl 0 rfl) ?_
        refine u_get (v := .ref (ad 3)) C G obM_0 (ci := 10) (N := 44) (Cn := RX10) (T := TX10) rfl fi_X10_sheet_10 4 (by decide) (by decide +kernel) rfl dX10_sheet_26 ?_
        refine lv_iload_n hx hb dX10_sheet_29 rfl (lv_at hl 1 rfl) ?_
        refine lv_iload_n hx hb dX10_sheet_30 rfl (lv_at hl 2 rfl) ?_
        obtain ⟨g3, h⟩ := ui_of h
        refine u_iast C G arM_3 (t0 := 0) rfl g3 dX10_sheet_31 (fun H locs G => ?_)
        obtain ⟨σ4, eσ4, h⟩ := ul_of h
        replace G := uG_eq eσ4 G
        refine lv_iconst (v := 0) hx hb dX10_sheet_32 (by decide) ?_
        refine lv_istore_n (lv' := [(3, .int 0), (0, .ref (ad 0)), (1, .int v1), (2, .int v2)]) hx hb dX10_sheet_33 rfl hl (by decide) rfl (fun ls hl => ?_)
        exact w_X10_sheet_34 C hr hlk fu σ4 v1 v2 0 h H locs ls G (lv_sub hl [1, 2, 3, 0] rfl)
      · have h := u_neg q h
        refine lv_aload_n hx hb dX10_sheet_19 rfl (lv_at hl 0 rfl) ?_
        refine lv_iconst (v := 5) hx hb dX10_sheet_20 (by decide) ?_
        obtain ⟨r5, σ6, er5, h⟩ := ub_of h
        refine u_callVi (As := [.int 5]) (rest := []) C G (c_X10_meets l D ad cs C.2.2.1 σ2 (5 : Int32) r5 σ6 er5) (cwV 1 C.1.2.2.2.2 gX10_sheet_X10_meets rfl rfl rfl (by decide +kernel) ⟨Nat.le_of_ble_eq_true rfl, Nat.le_of_ble_eq_true rfl⟩) obM_0 (ci := 10) (T := TX10) rfl rfl hl rfl (Nat.le_of_ble_eq_true rfl) dX10_sheet_21 (fun H locs G => ?_)
        obtain ⟨rfl, rfl⟩ := u_end h
        exact u_iret hx hb hr hlk G dX10_sheet_24
    · have h := u_neg q h
      refine lv_iconst (v := (-1)) hx hb dX10_sheet_13 (by decide) ?_
      obtain ⟨rfl, rfl⟩ := u_end h
      exact u_iret hx hb hr hlk G dX10_sheet_14
/-! X10_lay -/
def f_X10_lay (σ : St) (v1 : Int32) (v2 : Int32) (v3 : Int32) : Option (Int32 × St) :=
  ub (f_X10_looked σ v1) fun r1 σ2 =>
  if 0 ≤ r1 then
    ui v1 4 <|
    ub (f_X10_in σ2 v2 (0 : Int32) ((σ2 3 v1.toNatClampNeg) - 1)) fun r4 σ5 =>
    if r4 = 0 then
      ub (f_X10_meets σ5 (2 : Int32)) fun r10 σ11 =>
      some (r10, σ11)
    else
      ui ((10 * v1) + v2) 40 <|
      ul (σ5 4 ((10 * v1) + v2).toNatClampNeg) fun x7 =>
      ui ((10 * v1) + v2) 40 <|
      ul (us σ5 4 ((10 * v1) + v2).toNatClampNeg v3.toInt8.toInt32) fun σ9 =>
      some ((x7 + 1000), σ9)
  else
    some (r1, σ2)
theorem fi_X10_lay_10 : ∀ w ∈ u_ws RX10 TX10 44, w ∈ wsX10_lay := by decide +kernel
set_option maxHeartbeats 4000000 in
set_option maxRecDepth 100000 in
theorem c_X10_lay (l : Launch) (D : va_G) (ad : Nat → Nat) (cs : Nat → ClassId) (J : uJ 34 ad) (σ : St) (v1 : Int32) (v2 : Int32) (v3 : Int32) (r : Int32) (σ' : St) (h : f_X10_lay σ v1 v2 v3 = some (r, σ')) : uMi l yX10_lay wsX10_lay { frames := 3, cells := 0, slots := 0, locals := 63 } D vwCl (tyM cs) 34 ad (enM ad cs) [.ref (ad 0), .int v1, .int v2, .int v3] σ r σ' := by
  refine u_met (Qf := uQi D vwCl 34 ad (enM ad cs) r σ') (cc := cX10_lay) (maxL := 6) (ret := (some .int)) (lv := [(0, .ref (ad 0)), (1, .int v1), (2, .int v2), (3, .int v3)]) J (by decide) rfl (Nat.le_of_ble_eq_true rfl) rfl rfl rfl ?_
  intro p e s m args below meth c ls hx hb C hr hlk G hl
  unfold f_X10_lay at h
  obtain ⟨H, eH⟩ : ∃ H, H = s.heap := ⟨_, rfl⟩
  obtain ⟨locs, eL⟩ : ∃ locs : List Loc, locs = [] := ⟨_, rfl⟩
  refine u_start eH eL G ?_
  clear G eH eL
  intro G
  refine lv_aload_n hx hb dX10_lay_0 rfl (lv_at hl 0 rfl) ?_
  refine lv_iload_n hx hb dX10_lay_1 rfl (lv_at hl 1 rfl) ?_
  obtain ⟨r1, σ2, er1, h⟩ := ub_of h
  refine u_callVi (As := [.int v1]) (rest := []) C G (c_X10_looked l D ad cs C.2.2.1 σ v1 r1 σ2 er1) (cwV 1 C.1.2.2.2.2 gX10_lay_X10_looked rfl rfl rfl (by decide +kernel) ⟨Nat.le_of_ble_eq_true rfl, Nat.le_of_ble_eq_true rfl⟩) obM_0 (ci := 10) (T := TX10) rfl rfl hl rfl (Nat.le_of_ble_eq_true rfl) dX10_lay_2 (fun H locs G => ?_)
  refine lv_istore (lv' := [(4, .int r1), (0, .ref (ad 0)), (1, .int v1), (2, .int v2), (3, .int v3)]) hx hb dX10_lay_5 hl (by decide) rfl (fun ls hl => ?_)
  refine lv_iload hx hb dX10_lay_7 (lv_at hl 0 rfl) ?_
  refine lv_if_ge (tgt := 15) hx hb dX10_lay_9 (by decide) (fun q => ?_) (fun q => ?_)
  · have h := u_pos q h
    refine lv_iload_n hx hb dX10_lay_15 rfl (lv_at hl 3 rfl) ?_
    refine lv_iconst (v := 0) hx hb dX10_lay_16 (by decide) ?_
    refine lv_aload_n hx hb dX10_lay_17 rfl (lv_at hl 1 rfl) ?_
    refine u_get (v := .ref (ad 3)) C G obM_0 (ci := 10) (N := 44) (Cn := RX10) (T := TX10) rfl fi_X10_lay_10 4 (by decide) (by decide +kernel) rfl dX10_lay_18 ?_
    refine lv_iload_n hx hb dX10_lay_21 rfl (lv_at hl 2 rfl) ?_
    obtain ⟨g3, h⟩ := ui_of h
    refine u_iald C G arM_3 (t0 := 0) rfl g3 dX10_lay_22 ?_
    refine lv_iconst (v := 1) hx hb dX10_lay_23 (by decide) ?_
    refine lv_isub hx hb dX10_lay_24 ?_
    obtain ⟨r4, σ5, er4, h⟩ := ub_of h
    refine u_callSi (As := [.int v2, .int 0, .int ((σ2 3 v1.toNatClampNeg) - 1)]) (rest := []) C G (c_X10_in l D ad cs C.2.2.1 σ2 v2 (0 : Int32) ((σ2 3 v1.toNatClampNeg) - 1) r4 σ5 er4) (va_cwS 3 C.1.2.2.2.2 gX10_lay_X10_in rfl rfl rfl (by decide +kernel) ⟨Nat.le_of_ble_eq_true rfl, Nat.le_of_ble_eq_true rfl⟩) rfl hl rfl (Nat.le_of_ble_eq_true rfl) dX10_lay_25 (fun H locs G => ?_)
    refine lv_if_ne (tgt := 37) hx hb dX10_lay_28 (by decide) (fun q => ?_) (fun q => ?_)
    · have h := u_neg q h
      refine lv_aload_n hx hb dX10_lay_37 rfl (lv_at hl 1 rfl) ?_
      refine u_get (v := .ref (ad 4)) C G obM_0 (ci := 10) (N := 44) (Cn := RX10) (T := TX10) rfl fi_X10_lay_10 5 (by decide) (by decide +kernel) rfl dX10_lay_38 ?_
      refine lv_bipush (v := 10) hx hb dX10_lay_41 (by decide) ?_
      refine lv_iload_n hx hb dX10_lay_43 rfl (lv_at hl 2 rfl) ?_
      refine lv_imul hx hb dX10_lay_44 ?_
      refine lv_iload_n hx hb dX10_lay_45 rfl (lv_at hl 3 rfl) ?_
      refine lv_iadd hx hb dX10_lay_46 ?_
      obtain ⟨g6, h⟩ := ui_of h
      refine u_iald C G arM_4 (t0 := 0) rfl g6 dX10_lay_47 ?_
      obtain ⟨x7, ex7, h⟩ := ul_of h
      refine u_nmi ex7 ?_
      refine lv_istore (lv' := [(5, .int x7), (4, .int r1), (0, .ref (ad 0)), (1, .int v1), (2, .int v2), (3, .int v3)]) hx hb dX10_lay_48 hl (by decide) rfl (fun ls hl => ?_)
      refine lv_aload_n hx hb dX10_lay_50 rfl (lv_at hl 2 rfl) ?_
      refine u_get (v := .ref (ad 4)) C G obM_0 (ci := 10) (N := 44) (Cn := RX10) (T := TX10) rfl fi_X10_lay_10 5 (by decide) (by decide +kernel) rfl dX10_lay_51 ?_
      refine lv_bipush (v := 10) hx hb dX10_lay_54 (by decide) ?_
      refine lv_iload_n hx hb dX10_lay_56 rfl (lv_at hl 3 rfl) ?_
      refine lv_imul hx hb dX10_lay_57 ?_
      refine lv_iload_n hx hb dX10_lay_58 rfl (lv_at hl 4 rfl) ?_
      refine lv_iadd hx hb dX10_lay_59 ?_
      refine lv_iload_n hx hb dX10_lay_60 rfl (lv_at hl 5 rfl) ?_
      refine lv_i2b hx hb dX10_lay_61 rfl ?_
      obtain ⟨g8, h⟩ := ui_of h
      refine u_iast C G arM_4 (t0 := 0) rfl g8 dX10_lay_62 (fun H locs G => ?_)
      obtain ⟨σ9, eσ9, h⟩ := ul_of h
      replace G := uG_eq eσ9 G
      refine lv_iload hx hb dX10_lay_63 (lv_at hl 0 rfl) ?_
      refine lv_sipush (v := 1000) hx hb dX10_lay_65 (by decide) ?_
      refine lv_iadd hx hb dX10_lay_68 ?_
      obtain ⟨rfl, rfl⟩ := u_end h
      exact u_iret hx hb hr hlk G dX10_lay_69
    · have h := u_pos q h
      refine lv_aload_n hx hb dX10_lay_31 rfl (lv_at hl 1 rfl) ?_
      refine lv_iconst (v := 2) hx hb dX10_lay_32 (by decide) ?_
      obtain ⟨r10, σ11, er10, h⟩ := ub_of h
      refine u_callVi (As := [.int 2]) (rest := []) C G (c_X10_meets l D ad cs C.2.2.1 σ5 (2 : Int32) r10 σ11 er10) (cwV 1 C.1.2.2.2.2 gX10_lay_X10_meets rfl rfl rfl (by decide +kernel) ⟨Nat.le_of_ble_eq_true rfl, Nat.le_of_ble_eq_true rfl⟩) obM_0 (ci := 10) (T := TX10) rfl rfl hl rfl (Nat.le_of_ble_eq_true rfl) dX10_lay_33 (fun H locs G => ?_)
      obtain ⟨rfl, rfl⟩ := u_end h
      exact u_iret hx hb hr hlk G dX10_lay_36
  · have h := u_neg q h
    refine lv_iload hx hb dX10_lay_12 (lv_at hl 0 rfl) ?_
    obtain ⟨rfl, rfl⟩ := u_end h
    exact u_iret hx hb hr hlk G dX10_lay_14
/-! X10_tear -/
def f_X10_tear (σ : St) (v1 : Int32) : Option (Int32 × St) :=
  ub (f_X10_looked σ v1) fun r1 σ2 =>
  if 0 ≤ r1 then
    ui v1 4 <|
    ul (us σ2 3 v1.toNatClampNeg (-9)) fun σ4 =>
    some ((1 : Int32), σ4)
  else
    some (r1, σ2)
theorem fi_X10_tear_10 : ∀ w ∈ u_ws RX10 TX10 44, w ∈ wsX10_tear := by decide +kernel
set_option maxHeartbeats 4000000 in
set_option maxRecDepth 100000 in
theorem c_X10_tear (l : Launch) (D : va_G) (ad : Nat → Nat) (cs : Nat → ClassId) (J : uJ 34 ad) (σ : St) (v1 : Int32) (r : Int32) (σ' : St) (h : f_X10_tear σ v1 = some (r, σ')) : uMi l yX10_tear wsX10_tear { frames := 3, cells := 0, slots := 0, locals := 63 } D vwCl (tyM cs) 34 ad (enM ad cs) [.ref (ad 0), .int v1] σ r σ' := by
  refine u_met (Qf := uQi D vwCl 34 ad (enM ad cs) r σ') (cc := cX10_tear) (maxL := 3) (ret := (some .int)) (lv := [(0, .ref (ad 0)), (1, .int v1)]) J (by decide) rfl (Nat.le_of_ble_eq_true rfl) rfl rfl rfl ?_
  intro p e s m args below meth c ls hx hb C hr hlk G hl
  unfold f_X10_tear at h
  obtain ⟨H, eH⟩ : ∃ H, H = s.heap := ⟨_, rfl⟩
  obtain ⟨locs, eL⟩ : ∃ locs : List Loc, locs = [] := ⟨_, rfl⟩
  refine u_start eH eL G ?_
  clear G eH eL
  intro G
  refine lv_aload_n hx hb dX10_tear_0 rfl (lv_at hl 0 rfl) ?_
  refine lv_iload_n hx hb dX10_tear_1 rfl (lv_at hl 1 rfl) ?_
  obtain ⟨r1, σ2, er1, h⟩ := ub_of h
  refine u_callVi (As := [.int v1]) (rest := []) C G (c_X10_looked l D ad cs C.2.2.1 σ v1 r1 σ2 er1) (cwV 1 C.1.2.2.2.2 gX10_tear_X10_looked rfl rfl rfl (by decide +kernel) ⟨Nat.le_of_ble_eq_true rfl, Nat.le_of_ble_eq_true rfl⟩) obM_0 (ci := 10) (T := TX10) rfl rfl hl rfl (Nat.le_of_ble_eq_true rfl) dX10_tear_2 (fun H locs G => ?_)
  refine lv_istore_n (lv' := [(2, .int r1), (0, .ref (ad 0)), (1, .int v1)]) hx hb dX10_tear_5 rfl hl (by decide) rfl (fun ls hl => ?_)
  refine lv_iload_n hx hb dX10_tear_6 rfl (lv_at hl 0 rfl) ?_
  refine lv_if_ge (tgt := 12) hx hb dX10_tear_7 (by decide) (fun q => ?_) (fun q => ?_)
  · have h := u_pos q h
    refine lv_aload_n hx hb dX10_tear_12 rfl (lv_at hl 1 rfl) ?_
    refine u_get (v := .ref (ad 3)) C G obM_0 (ci := 10) (N := 44) (Cn := RX10) (T := TX10) rfl fi_X10_tear_10 4 (by decide) (by decide +kernel) rfl dX10_tear_13 ?_
    refine lv_iload_n hx hb dX10_tear_16 rfl (lv_at hl 2 rfl) ?_
    refine lv_bipush (v := (-9)) hx hb dX10_tear_17 (by decide) ?_
    obtain ⟨g3, h⟩ := ui_of h
    refine u_iast C G arM_3 (t0 := 0) rfl g3 dX10_tear_19 (fun H locs G => ?_)
    obtain ⟨σ4, eσ4, h⟩ := ul_of h
    replace G := uG_eq eσ4 G
    refine lv_iconst (v := 1) hx hb dX10_tear_20 (by decide) ?_
    obtain ⟨rfl, rfl⟩ := u_end h
    exact u_iret hx hb hr hlk G dX10_tear_21
  · have h := u_neg q h
    refine lv_iload_n hx hb dX10_tear_10 rfl (lv_at hl 0 rfl) ?_
    obtain ⟨rfl, rfl⟩ := u_end h
    exact u_iret hx hb hr hlk G dX10_tear_11
/-! X10_copy -/
def f_X10_copy_141 : Nat → St → Int32 → Int32 → Int32 → Int32 → Option (Int32 × St)
  | 0, _, _, _, _, _ => none
  | fuel + 1, σ, v3, v4, v5, v6 =>
    if v5 ≤ v6 then
      some ((1 : Int32), σ)
    else
      ui v6 10 <|
      ui (((10 * v3) + v4) + v6) 40 <|
      ul (us σ 4 (((10 * v3) + v4) + v6).toNatClampNeg (σ 5 v6.toNatClampNeg)) fun σ29 =>
      ul (v6 + 1) fun x30 =>
      f_X10_copy_141 fuel σ29 v3 v4 v5 x30
def f_X10_copy_104 : Nat → St → Int32 → Int32 → Int32 → Int32 → Int32 → Int32 → Option (Int32 × St)
  | 0, _, _, _, _, _, _, _ => none
  | fuel + 1, σ, v1, v2, v3, v4, v5, v6 =>
    if v5 ≤ v6 then
      f_X10_copy_141 fu σ v3 v4 v5 0
    else
      ui (((10 * v1) + v2) + v6) 40 <|
      ui v6 10 <|
      ul (us σ 5 v6.toNatClampNeg (σ 4 (((10 * v1) + v2) + v6).toNatClampNeg)) fun σ25 =>
      ul (v6 + 1) fun x26 =>
      f_X10_copy_104 fuel σ25 v1 v2 v3 v4 v5 x26
def f_X10_copy (σ : St) (v1 : Int32) (v2 : Int32) (v3 : Int32) (v4 : Int32) (v5 : Int32) : Option (Int32 × St) :=
  ub (f_X10_isSheet σ v1) fun r1 σ2 =>
  if r1 = 0 then
    some (((-1) : Int32), σ2)
  else
    ub (f_X10_isSheet σ2 v3) fun r3 σ4 =>
    if r3 = 0 then
      some (((-1) : Int32), σ4)
    else
      if 0 ≤ v5 then
        ui v1 4 <|
        if (σ4 3 v1.toNatClampNeg) < 0 then
          ub (f_X10_meets σ4 (1 : Int32)) fun r6 σ7 =>
          some (r6, σ7)
        else
          ui v3 4 <|
          if 0 ≤ (σ4 3 v3.toNatClampNeg) then
            if v2 < 0 then
              ub (f_X10_meets σ4 (2 : Int32)) fun r9 σ10 =>
              some (r9, σ10)
            else
              if v4 < 0 then
                ub (f_X10_meets σ4 (2 : Int32)) fun r11 σ12 =>
                some (r11, σ12)
              else
                ui v1 4 <|
                if 0 < (lg_cmp (v2.toInt64 + v5.toInt64) ((σ4 3 v1.toNatClampNeg).toInt64)) then
                  ub (f_X10_meets σ4 (2 : Int32)) fun r14 σ15 =>
                  some (r14, σ15)
                else
                  ui v3 4 <|
                  if (lg_cmp (v4.toInt64 + v5.toInt64) ((σ4 3 v3.toNatClampNeg).toInt64)) ≤ 0 then
                    f_X10_copy_104 fu σ4 v1 v2 v3 v4 v5 0
                  else
                    ub (f_X10_meets σ4 (2 : Int32)) fun r17 σ18 =>
                    some (r17, σ18)
          else
            ub (f_X10_meets σ4 (1 : Int32)) fun r19 σ20 =>
            some (r19, σ20)
      else
        ub (f_X10_meets σ4 (5 : Int32)) fun r21 σ22 =>
        some (r21, σ22)
theorem fi_X10_copy_10 : ∀ w ∈ u_ws RX10 TX10 44, w ∈ wsX10_copy := by decide +kernel
set_option maxHeartbeats 4000000 in
set_option maxRecDepth 100000 in
theorem w_X10_copy_141 {p : Program} {l : Launch} {e : Env} {s : State} {m : MethodId} {args : Array Value} {below : List Frame} {meth : Method} {c : Code} {D : va_G} {ad : Nat → Nat} {cs : Nat → ClassId} (C : uC p { frames := 2, cells := 0, slots := 0, locals := 42 } s m args c cX10_copy 7 wsX10_copy RX10 D vwCl (tyM cs) 34 ad (uAd 34 ad s.heap.size) 0 0) (hr : meth.sig.returnType = (some .int)) (hlk : meth.locks = false) {r : Int32} {σ' : St} :
    ∀ (n : Nat) (σ : St) (v3 : Int32) (v4 : Int32) (v5 : Int32) (v6 : Int32), f_X10_copy_141 n σ v3 v4 v5 v6 = some (r, σ') → ∀ (H : Heap) (locs : List Loc) (ls : Array Slot), uG D vwCl 34 ad (enM ad cs) (uAd 34 ad s.heap.size) s σ H locs → lv_has ls 7 [(0, .ref (ad 0)), (3, .int v3), (4, .int v4), (5, .int v5), (6, .int v6)] → W p l e { frames := 2, cells := 0, slots := 0, locals := 42 } s m args below meth c H locs 0 0 (MQ below (uQi D vwCl 34 ad (enM ad cs) r σ' s.heap.size) args s 0 0 (uAd 34 ad s.heap.size)) (F0 m 141 ls []) := by
  have hx := C.1.1
  have hb := C.1.2.1
  intro n
  induction n with
  | zero => intro σ v3 v4 v5 v6  h; exact absurd h (by simp [f_X10_copy_141])
  | succ fuel ih =>
    intro σ v3 v4 v5 v6  h H locs ls G hl
    rw [f_X10_copy_141] at h
    refine lv_iload hx hb dX10_copy_141 (lv_at hl 4 rfl) ?_
    refine lv_iload hx hb dX10_copy_143 (lv_at hl 3 rfl) ?_
    refine lv_icmp_ge (tgt := 176) hx hb dX10_copy_145 (by decide) (fun q => ?_) (fun q => ?_)
    · have h := u_pos q h
      refine lv_iconst (v := 1) hx hb dX10_copy_176 (by decide) ?_
      obtain ⟨rfl, rfl⟩ := u_end h
      exact u_iret hx hb hr hlk G dX10_copy_177
    · have h := u_neg q h
      refine lv_aload_n hx hb dX10_copy_148 rfl (lv_at hl 0 rfl) ?_
      refine u_get (v := .ref (ad 4)) C G obM_0 (ci := 10) (N := 44) (Cn := RX10) (T := TX10) rfl fi_X10_copy_10 5 (by decide) (by decide +kernel) rfl dX10_copy_149 ?_
      refine lv_bipush (v := 10) hx hb dX10_copy_152 (by decide) ?_
      refine lv_iload_n hx hb dX10_copy_154 rfl (lv_at hl 1 rfl) ?_
      refine lv_imul hx hb dX10_copy_155 ?_
      refine lv_iload hx hb dX10_copy_156 (lv_at hl 2 rfl) ?_
      refine lv_iadd hx hb dX10_copy_158 ?_
      refine lv_iload hx hb dX10_copy_159 (lv_at hl 4 rfl) ?_
      refine lv_iadd hx hb dX10_copy_161 ?_
      refine lv_aload_n hx hb dX10_copy_162 rfl (lv_at hl 0 rfl) ?_
      refine u_get (v := .ref (ad 5)) C G obM_0 (ci := 10) (N := 44) (Cn := RX10) (T := TX10) rfl fi_X10_copy_10 6 (by decide) (by decide +kernel) rfl dX10_copy_163 ?_
      refine lv_iload hx hb dX10_copy_166 (lv_at hl 4 rfl) ?_
      obtain ⟨g27, h⟩ := ui_of h
      refine u_iald C G arM_5 (t0 := 0) rfl g27 dX10_copy_168 ?_
      obtain ⟨g28, h⟩ := ui_of h
      refine u_iast C G arM_4 (t0 := 0) rfl g28 dX10_copy_169 (fun H locs G => ?_)
      obtain ⟨σ29, eσ29, h⟩ := ul_of h
      replace G := uG_eq eσ29 G
      obtain ⟨x30, ex30, h⟩ := ul_of h
      refine lv_iinc (v := x30) (lv' := [(6, .int x30), (0, .ref (ad 0)), (3, .int v3), (4, .int v4), (5, .int v5)]) hx hb dX10_copy_170 hl (k := 4) rfl (by rw [ex30]; rfl) (by decide) rfl (fun ls hl => ?_)
      refine lv_goto (tgt := 141) hx hb dX10_copy_173 (by decide) ?_
      exact ih σ29 v3 v4 v5 x30 h H locs ls G (lv_sub hl [1, 2, 3, 4, 0] rfl)
set_option maxHeartbeats 4000000 in
set_option maxRecDepth 100000 in
theorem w_X10_copy_104 {p : Program} {l : Launch} {e : Env} {s : State} {m : MethodId} {args : Array Value} {below : List Frame} {meth : Method} {c : Code} {D : va_G} {ad : Nat → Nat} {cs : Nat → ClassId} (C : uC p { frames := 2, cells := 0, slots := 0, locals := 42 } s m args c cX10_copy 7 wsX10_copy RX10 D vwCl (tyM cs) 34 ad (uAd 34 ad s.heap.size) 0 0) (hr : meth.sig.returnType = (some .int)) (hlk : meth.locks = false) {r : Int32} {σ' : St} :
    ∀ (n : Nat) (σ : St) (v1 : Int32) (v2 : Int32) (v3 : Int32) (v4 : Int32) (v5 : Int32) (v6 : Int32), f_X10_copy_104 n σ v1 v2 v3 v4 v5 v6 = some (r, σ') → ∀ (H : Heap) (locs : List Loc) (ls : Array Slot), uG D vwCl 34 ad (enM ad cs) (uAd 34 ad s.heap.size) s σ H locs → lv_has ls 7 [(0, .ref (ad 0)), (1, .int v1), (2, .int v2), (3, .int v3), (4, .int v4), (5, .int v5), (6, .int v6)] → W p l e { frames := 2, cells := 0, slots := 0, locals := 42 } s m args below meth c H locs 0 0 (MQ below (uQi D vwCl 34 ad (enM ad cs) r σ' s.heap.size) args s 0 0 (uAd 34 ad s.heap.size)) (F0 m 104 ls []) := by
  have hx := C.1.1
  have hb := C.1.2.1
  intro n
  induction n with
  | zero => intro σ v1 v2 v3 v4 v5 v6  h; exact absurd h (by simp [f_X10_copy_104])
  | succ fuel ih =>
    intro σ v1 v2 v3 v4 v5 v6  h H locs ls G hl
    rw [f_X10_copy_104] at h
    refine lv_iload hx hb dX10_copy_104 (lv_at hl 6 rfl) ?_
    refine lv_iload hx hb dX10_copy_106 (lv_at hl 5 rfl) ?_
    refine lv_icmp_ge (tgt := 138) hx hb dX10_copy_108 (by decide) (fun q => ?_) (fun q => ?_)
    · have h := u_pos q h
      refine lv_iconst (v := 0) hx hb dX10_copy_138 (by decide) ?_
      refine lv_istore (lv' := [(6, .int 0), (0, .ref (ad 0)), (1, .int v1), (2, .int v2), (3, .int v3), (4, .int v4), (5, .int v5)]) hx hb dX10_copy_139 hl (by decide) rfl (fun ls hl => ?_)
      exact w_X10_copy_141 C hr hlk fu σ v3 v4 v5 0 h H locs ls G (lv_sub hl [1, 4, 5, 6, 0] rfl)
    · have h := u_neg q h
      refine lv_aload_n hx hb dX10_copy_111 rfl (lv_at hl 0 rfl) ?_
      refine u_get (v := .ref (ad 5)) C G obM_0 (ci := 10) (N := 44) (Cn := RX10) (T := TX10) rfl fi_X10_copy_10 6 (by decide) (by decide +kernel) rfl dX10_copy_112 ?_
      refine lv_iload hx hb dX10_copy_115 (lv_at hl 6 rfl) ?_
      refine lv_aload_n hx hb dX10_copy_117 rfl (lv_at hl 0 rfl) ?_
      refine u_get (v := .ref (ad 4)) C G obM_0 (ci := 10) (N := 44) (Cn := RX10) (T := TX10) rfl fi_X10_copy_10 5 (by decide) (by decide +kernel) rfl dX10_copy_118 ?_
      refine lv_bipush (v := 10) hx hb dX10_copy_121 (by decide) ?_
      refine lv_iload_n hx hb dX10_copy_123 rfl (lv_at hl 1 rfl) ?_
      refine lv_imul hx hb dX10_copy_124 ?_
      refine lv_iload_n hx hb dX10_copy_125 rfl (lv_at hl 2 rfl) ?_
      refine lv_iadd hx hb dX10_copy_126 ?_
      refine lv_iload hx hb dX10_copy_127 (lv_at hl 6 rfl) ?_
      refine lv_iadd hx hb dX10_copy_129 ?_
      obtain ⟨g23, h⟩ := ui_of h
      refine u_iald C G arM_4 (t0 := 0) rfl g23 dX10_copy_130 ?_
      obtain ⟨g24, h⟩ := ui_of h
      refine u_iast C G arM_5 (t0 := 0) rfl g24 dX10_copy_131 (fun H locs G => ?_)
      obtain ⟨σ25, eσ25, h⟩ := ul_of h
      replace G := uG_eq eσ25 G
      obtain ⟨x26, ex26, h⟩ := ul_of h
      refine lv_iinc (v := x26) (lv' := [(6, .int x26), (0, .ref (ad 0)), (1, .int v1), (2, .int v2), (3, .int v3), (4, .int v4), (5, .int v5)]) hx hb dX10_copy_132 hl (k := 6) rfl (by rw [ex26]; rfl) (by decide) rfl (fun ls hl => ?_)
      refine lv_goto (tgt := 104) hx hb dX10_copy_135 (by decide) ?_
      exact ih σ25 v1 v2 v3 v4 v5 x26 h H locs ls G (lv_sub hl [1, 2, 3, 4, 5, 6, 0] rfl)
set_option maxHeartbeats 4000000 in
set_option maxRecDepth 100000 in
theorem c_X10_copy (l : Launch) (D : va_G) (ad : Nat → Nat) (cs : Nat → ClassId) (J : uJ 34 ad) (σ : St) (v1 : Int32) (v2 : Int32) (v3 : Int32) (v4 : Int32) (v5 : Int32) (r : Int32) (σ' : St) (h : f_X10_copy σ v1 v2 v3 v4 v5 = some (r, σ')) : uMi l yX10_copy wsX10_copy { frames := 2, cells := 0, slots := 0, locals := 42 } D vwCl (tyM cs) 34 ad (enM ad cs) [.ref (ad 0), .int v1, .int v2, .int v3, .int v4, .int v5] σ r σ' := by
  refine u_met (Qf := uQi D vwCl 34 ad (enM ad cs) r σ') (cc := cX10_copy) (maxL := 7) (ret := (some .int)) (lv := [(0, .ref (ad 0)), (1, .int v1), (2, .int v2), (3, .int v3), (4, .int v4), (5, .int v5)]) J (by decide) rfl (Nat.le_of_ble_eq_true rfl) rfl rfl rfl ?_
  intro p e s m args below meth c ls hx hb C hr hlk G hl
  unfold f_X10_copy at h
  obtain ⟨H, eH⟩ : ∃ H, H = s.heap := ⟨_, rfl⟩
  obtain ⟨locs, eL⟩ : ∃ locs : List Loc, locs = [] := ⟨_, rfl⟩
  refine u_start eH eL G ?_
  clear G eH eL
  intro G
  refine lv_iload_n hx hb dX10_copy_0 rfl (lv_at hl 1 rfl) ?_
  obtain ⟨r1, σ2, er1, h⟩ := ub_of h
  refine u_callSi (As := [.int v1]) (rest := []) C G (c_X10_isSheet l D ad cs C.2.2.1 σ v1 r1 σ2 er1) (va_cwS 1 C.1.2.2.2.2 gX10_copy_X10_isSheet rfl rfl rfl (by decide +kernel) ⟨Nat.le_of_ble_eq_true rfl, Nat.le_of_ble_eq_true rfl⟩) rfl hl rfl (Nat.le_of_ble_eq_true rfl) dX10_copy_1 (fun H locs G => ?_)
  refine lv_if_eq (tgt := 14) hx hb dX10_copy_4 (by decide) (fun q => ?_) (fun q => ?_)
  · have h := u_pos q h
    refine lv_iconst (v := (-1)) hx hb dX10_copy_14 (by decide) ?_
    obtain ⟨rfl, rfl⟩ := u_end h
    exact u_iret hx hb hr hlk G dX10_copy_15
  · have h := u_neg q h
    refine lv_iload_n hx hb dX10_copy_7 rfl (lv_at hl 3 rfl) ?_
    obtain ⟨r3, σ4, er3, h⟩ := ub_of h
    refine u_callSi (As := [.int v3]) (rest := []) C G (c_X10_isSheet l D ad cs C.2.2.1 σ2 v3 r3 σ4 er3) (va_cwS 1 C.1.2.2.2.2 gX10_copy_X10_isSheet rfl rfl rfl (by decide +kernel) ⟨Nat.le_of_ble_eq_true rfl, Nat.le_of_ble_eq_true rfl⟩) rfl hl rfl (Nat.le_of_ble_eq_true rfl) dX10_copy_8 (fun H locs G => ?_)
    refine lv_if_ne (tgt := 16) hx hb dX10_copy_11 (by decide) (fun q => ?_) (fun q => ?_)
    · have h := u_neg q h
      refine lv_iload hx hb dX10_copy_16 (lv_at hl 5 rfl) ?_
      refine lv_if_ge (tgt := 27) hx hb dX10_copy_18 (by decide) (fun q => ?_) (fun q => ?_)
      · have h := u_pos q h
        refine lv_aload_n hx hb dX10_copy_27 rfl (lv_at hl 0 rfl) ?_
        refine u_get (v := .ref (ad 3)) C G obM_0 (ci := 10) (N := 44) (Cn := RX10) (T := TX10) rfl fi_X10_copy_10 4 (by decide) (by decide +kernel) rfl dX10_copy_28 ?_
        refine lv_iload_n hx hb dX10_copy_31 rfl (lv_at hl 1 rfl) ?_
        obtain ⟨g5, h⟩ := ui_of h
        refine u_iald C G arM_3 (t0 := 0) rfl g5 dX10_copy_32 ?_
        refine lv_if_lt (tgt := 45) hx hb dX10_copy_33 (by decide) (fun q => ?_) (fun q => ?_)
        · have h := u_pos q h
          refine lv_aload_n hx hb dX10_copy_45 rfl (lv_at hl 0 rfl) ?_
          refine lv_iconst (v := 1) hx hb dX10_copy_46 (by decide) ?_
          obtain ⟨r6, σ7, er6, h⟩ := ub_of h
          refine u_callVi (As := [.int 1]) (rest := []) C G (c_X10_meets l D ad cs C.2.2.1 σ4 (1 : Int32) r6 σ7 er6) (cwV 1 C.1.2.2.2.2 gX10_copy_X10_meets rfl rfl rfl (by decide +kernel) ⟨Nat.le_of_ble_eq_true rfl, Nat.le_of_ble_eq_true rfl⟩) obM_0 (ci := 10) (T := TX10) rfl rfl hl rfl (Nat.le_of_ble_eq_true rfl) dX10_copy_47 (fun H locs G => ?_)
          obtain ⟨rfl, rfl⟩ := u_end h
          exact u_iret hx hb hr hlk G dX10_copy_50
        · have h := u_neg q h
          refine lv_aload_n hx hb dX10_copy_36 rfl (lv_at hl 0 rfl) ?_
          refine u_get (v := .ref (ad 3)) C G obM_0 (ci := 10) (N := 44) (Cn := RX10) (T := TX10) rfl fi_X10_copy_10 4 (by decide) (by decide +kernel) rfl dX10_copy_37 ?_
          refine lv_iload_n hx hb dX10_copy_40 rfl (lv_at hl 3 rfl) ?_
          obtain ⟨g8, h⟩ := ui_of h
          refine u_iald C G arM_3 (t0 := 0) rfl g8 dX10_copy_41 ?_
          refine lv_if_ge (tgt := 51) hx hb dX10_copy_42 (by decide) (fun q => ?_) (fun q => ?_)
          · have h := u_pos q h
            refine lv_iload_n hx hb dX10_copy_51 rfl (lv_at hl 2 rfl) ?_
            refine lv_if_lt (tgt := 95) hx hb dX10_copy_52 (by decide) (fun q => ?_) (fun q => ?_)
            · have h := u_pos q h
              refine lv_aload_n hx hb dX10_copy_95 rfl (lv_at hl 0 rfl) ?_
              refine lv_iconst (v := 2) hx hb dX10_copy_96 (by decide) ?_
              obtain ⟨r9, σ10, er9, h⟩ := ub_of h
              refine u_callVi (As := [.int 2]) (rest := []) C G (c_X10_meets l D ad cs C.2.2.1 σ4 (2 : Int32) r9 σ10 er9) (cwV 1 C.1.2.2.2.2 gX10_copy_X10_meets rfl rfl rfl (by decide +kernel) ⟨Nat.le_of_ble_eq_true rfl, Nat.le_of_ble_eq_true rfl⟩) obM_0 (ci := 10) (T := TX10) rfl rfl hl rfl (Nat.le_of_ble_eq_true rfl) dX10_copy_97 (fun H locs G => ?_)
              obtain ⟨rfl, rfl⟩ := u_end h
              exact u_iret hx hb hr hlk G dX10_copy_100
            · have h := u_neg q h
              refine lv_iload hx hb dX10_copy_55 (lv_at hl 4 rfl) ?_
              refine lv_if_lt (tgt := 95) hx hb dX10_copy_57 (by decide) (fun q => ?_) (fun q => ?_)
              · have h := u_pos q h
                refine lv_aload_n hx hb dX10_copy_95 rfl (lv_at hl 0 rfl) ?_
                refine lv_iconst (v := 2) hx hb dX10_copy_96 (by decide) ?_
                obtain ⟨r11, σ12, er11, h⟩ := ub_of h
                refine u_callVi (As := [.int 2]) (rest := []) C G (c_X10_meets l D ad cs C.2.2.1 σ4 (2 : Int32) r11 σ12 er11) (cwV 1 C.1.2.2.2.2 gX10_copy_X10_meets rfl rfl rfl (by decide +kernel) ⟨Nat.le_of_ble_eq_true rfl, Nat.le_of_ble_eq_true rfl⟩) obM_0 (ci := 10) (T := TX10) rfl rfl hl rfl (Nat.le_of_ble_eq_true rfl) dX10_copy_97 (fun H locs G => ?_)
                obtain ⟨rfl, rfl⟩ := u_end h
                exact u_iret hx hb hr hlk G dX10_copy_100
              · have h := u_neg q h
                refine lv_iload_n hx hb dX10_copy_60 rfl (lv_at hl 2 rfl) ?_
                refine lv_i2l hx hb dX10_copy_61 rfl ?_
                refine lv_iload hx hb dX10_copy_62 (lv_at hl 5 rfl) ?_
                refine lv_i2l hx hb dX10_copy_64 rfl ?_
                refine lv_ladd hx hb dX10_copy_65 ?_
                refine lv_aload_n hx hb dX10_copy_66 rfl (lv_at hl 0 rfl) ?_
                refine u_get (v := .ref (ad 3)) C G obM_0 (ci := 10) (N := 44) (Cn := RX10) (T := TX10) rfl fi_X10_copy_10 4 (by decide) (by decide +kernel) rfl dX10_copy_67 ?_
                refine lv_iload_n hx hb dX10_copy_70 rfl (lv_at hl 1 rfl) ?_
                obtain ⟨g13, h⟩ := ui_of h
                refine u_iald C G arM_3 (t0 := 0) rfl g13 dX10_copy_71 ?_
                refine lv_i2l hx hb dX10_copy_72 rfl ?_
                refine W.lcmp hx hb dX10_copy_73 ?_
                refine lv_if_gt (tgt := 95) hx hb dX10_copy_74 (by decide) (fun q => ?_) (fun q => ?_)
                · have h := u_pos q h
                  refine lv_aload_n hx hb dX10_copy_95 rfl (lv_at hl 0 rfl) ?_
                  refine lv_iconst (v := 2) hx hb dX10_copy_96 (by decide) ?_
                  obtain ⟨r14, σ15, er14, h⟩ := ub_of h
                  refine u_callVi (As := [.int 2]) (rest := []) C G (c_X10_meets l D ad cs C.2.2.1 σ4 (2 : Int32) r14 σ15 er14) (cwV 1 C.1.2.2.2.2 gX10_copy_X10_meets rfl rfl rfl (by decide +kernel) ⟨Nat.le_of_ble_eq_true rfl, Nat.le_of_ble_eq_true rfl⟩) obM_0 (ci := 10) (T := TX10) rfl rfl hl rfl (Nat.le_of_ble_eq_true rfl) dX10_copy_97 (fun H locs G => ?_)
                  obtain ⟨rfl, rfl⟩ := u_end h
                  exact u_iret hx hb hr hlk G dX10_copy_100
                · have h := u_neg q h
                  refine lv_iload hx hb dX10_copy_77 (lv_at hl 4 rfl) ?_
                  refine lv_i2l hx hb dX10_copy_79 rfl ?_
                  refine lv_iload hx hb dX10_copy_80 (lv_at hl 5 rfl) ?_
                  refine lv_i2l hx hb dX10_copy_82 rfl ?_
                  refine lv_ladd hx hb dX10_copy_83 ?_
                  refine lv_aload_n hx hb dX10_copy_84 rfl (lv_at hl 0 rfl) ?_
                  refine u_get (v := .ref (ad 3)) C G obM_0 (ci := 10) (N := 44) (Cn := RX10) (T := TX10) rfl fi_X10_copy_10 4 (by decide) (by decide +kernel) rfl dX10_copy_85 ?_
                  refine lv_iload_n hx hb dX10_copy_88 rfl (lv_at hl 3 rfl) ?_
                  obtain ⟨g16, h⟩ := ui_of h
                  refine u_iald C G arM_3 (t0 := 0) rfl g16 dX10_copy_89 ?_
                  refine lv_i2l hx hb dX10_copy_90 rfl ?_
                  refine W.lcmp hx hb dX10_copy_91 ?_
                  refine lv_if_le (tgt := 101) hx hb dX10_copy_92 (by decide) (fun q => ?_) (fun q => ?_)
                  · have h := u_pos q h
                    refine lv_iconst (v := 0) hx hb dX10_copy_101 (by decide) ?_
                    refine lv_istore (lv' := [(6, .int 0), (0, .ref (ad 0)), (1, .int v1), (2, .int v2), (3, .int v3), (4, .int v4), (5, .int v5)]) hx hb dX10_copy_102 hl (by decide) rfl (fun ls hl => ?_)
                    exact w_X10_copy_104 C hr hlk fu σ4 v1 v2 v3 v4 v5 0 h H locs ls G (lv_sub hl [1, 2, 3, 4, 5, 6, 0] rfl)
                  · have h := u_neg q h
                    refine lv_aload_n hx hb dX10_copy_95 rfl (lv_at hl 0 rfl) ?_
                    refine lv_iconst (v := 2) hx hb dX10_copy_96 (by decide) ?_
                    obtain ⟨r17, σ18, er17, h⟩ := ub_of h
                    refine u_callVi (As := [.int 2]) (rest := []) C G (c_X10_meets l D ad cs C.2.2.1 σ4 (2 : Int32) r17 σ18 er17) (cwV 1 C.1.2.2.2.2 gX10_copy_X10_meets rfl rfl rfl (by decide +kernel) ⟨Nat.le_of_ble_eq_true rfl, Nat.le_of_ble_eq_true rfl⟩) obM_0 (ci := 10) (T := TX10) rfl rfl hl rfl (Nat.le_of_ble_eq_true rfl) dX10_copy_97 (fun H locs G => ?_)
                    obtain ⟨rfl, rfl⟩ := u_end h
                    exact u_iret hx hb hr hlk G dX10_copy_100
          · have h := u_neg q h
            refine lv_aload_n hx hb dX10_copy_45 rfl (lv_at hl 0 rfl) ?_
            refine lv_iconst (v := 1) hx hb dX10_copy_46 (by decide) ?_
            obtain ⟨r19, σ20, er19, h⟩ := ub_of h
            refine u_callVi (As := [.int 1]) (rest := []) C G (c_X10_meets l D ad cs C.2.2.1 σ4 (1 : Int32) r19 σ20 er19) (cwV 1 C.1.2.2.2.2 gX10_copy_X10_meets rfl rfl rfl (by decide +kernel) ⟨Nat.le_of_ble_eq_true rfl, Nat.le_of_ble_eq_true rfl⟩) obM_0 (ci := 10) (T := TX10) rfl rfl hl rfl (Nat.le_of_ble_eq_true rfl) dX10_copy_47 (fun H locs G => ?_)
            obtain ⟨rfl, rfl⟩ := u_end h
            exact u_iret hx hb hr hlk G dX10_copy_50
      · have h := u_neg q h
        refine lv_aload_n hx hb dX10_copy_21 rfl (lv_at hl 0 rfl) ?_
        refine lv_iconst (v := 5) hx hb dX10_copy_22 (by decide) ?_
        obtain ⟨r21, σ22, er21, h⟩ := ub_of h
        refine u_callVi (As := [.int 5]) (rest := []) C G (c_X10_meets l D ad cs C.2.2.1 σ4 (5 : Int32) r21 σ22 er21) (cwV 1 C.1.2.2.2.2 gX10_copy_X10_meets rfl rfl rfl (by decide +kernel) ⟨Nat.le_of_ble_eq_true rfl, Nat.le_of_ble_eq_true rfl⟩) obM_0 (ci := 10) (T := TX10) rfl rfl hl rfl (Nat.le_of_ble_eq_true rfl) dX10_copy_23 (fun H locs G => ?_)
        obtain ⟨rfl, rfl⟩ := u_end h
        exact u_iret hx hb hr hlk G dX10_copy_26
    · have h := u_pos q h
      refine lv_iconst (v := (-1)) hx hb dX10_copy_14 (by decide) ?_
      obtain ⟨rfl, rfl⟩ := u_end h
      exact u_iret hx hb hr hlk G dX10_copy_15
/-! X10_lettersOn -/
def f_X10_lettersOn_4 : Nat → St → Int32 → Int32 → Int32 → Option (Int32 × St)
  | 0, _, _, _, _ => none
  | fuel + 1, σ, v1, v2, v3 =>
    ui v1 4 <|
    if (σ 3 v1.toNatClampNeg) ≤ v3 then
      some (v2, σ)
    else
      ui ((10 * v1) + v3) 40 <|
      ub (f_X10_isLetter σ (σ 4 ((10 * v1) + v3).toNatClampNeg)) fun r3 σ4 =>
      if r3 = 0 then
        ul (v2 + 0) fun x5 =>
        ul (v3 + 1) fun x6 =>
        f_X10_lettersOn_4 fuel σ4 v1 x5 x6
      else
        ul (v2 + 1) fun x7 =>
        ul (v3 + 1) fun x8 =>
        f_X10_lettersOn_4 fuel σ4 v1 x7 x8
def f_X10_lettersOn (σ : St) (v1 : Int32) : Option (Int32 × St) :=
  f_X10_lettersOn_4 fu σ v1 0 0
theorem fi_X10_lettersOn_10 : ∀ w ∈ u_ws RX10 TX10 44, w ∈ wsX10_lettersOn := by decide +kernel
set_option maxHeartbeats 4000000 in
set_option maxRecDepth 100000 in
theorem w_X10_lettersOn_4 {p : Program} {l : Launch} {e : Env} {s : State} {m : MethodId} {args : Array Value} {below : List Frame} {meth : Method} {c : Code} {D : va_G} {ad : Nat → Nat} {cs : Nat → ClassId} (C : uC p { frames := 2, cells := 0, slots := 0, locals := 42 } s m args c cX10_lettersOn 4 wsX10_lettersOn RX10 D vwCl (tyM cs) 34 ad (uAd 34 ad s.heap.size) 0 0) (hr : meth.sig.returnType = (some .int)) (hlk : meth.locks = false) {r : Int32} {σ' : St} :
    ∀ (n : Nat) (σ : St) (v1 : Int32) (v2 : Int32) (v3 : Int32), f_X10_lettersOn_4 n σ v1 v2 v3 = some (r, σ') → ∀ (H : Heap) (locs : List Loc) (ls : Array Slot), uG D vwCl 34 ad (enM ad cs) (uAd 34 ad s.heap.size) s σ H locs → lv_has ls 4 [(0, .ref (ad 0)), (1, .int v1), (2, .int v2), (3, .int v3)] → W p l e { frames := 2, cells := 0, slots := 0, locals := 42 } s m args below meth c H locs 0 0 (MQ below (uQi D vwCl 34 ad (enM ad cs) r σ' s.heap.size) args s 0 0 (uAd 34 ad s.heap.size)) (F0 m 4 ls []) := by
  have hx := C.1.1
  have hb := C.1.2.1
  intro n
  induction n with
  | zero => intro σ v1 v2 v3  h; exact absurd h (by simp [f_X10_lettersOn_4])
  | succ fuel ih =>
    intro σ v1 v2 v3  h H locs ls G hl
    rw [f_X10_lettersOn_4] at h
    refine lv_iload_n hx hb dX10_lettersOn_4 rfl (lv_at hl 3 rfl) ?_
    refine lv_aload_n hx hb dX10_lettersOn_5 rfl (lv_at hl 0 rfl) ?_
    refine u_get (v := .ref (ad 3)) C G obM_0 (ci := 10) (N := 44) (Cn := RX10) (T := TX10) rfl fi_X10_lettersOn_10 4 (by decide) (by decide +kernel) rfl dX10_lettersOn_6 ?_
    refine lv_iload_n hx hb dX10_lettersOn_9 rfl (lv_at hl 1 rfl) ?_
    obtain ⟨g1, h⟩ := ui_of h
    refine u_iald C G arM_3 (t0 := 0) rfl g1 dX10_lettersOn_10 ?_
    refine lv_icmp_ge (tgt := 45) hx hb dX10_lettersOn_11 (by decide) (fun q => ?_) (fun q => ?_)
    · have h := u_pos q h
      refine lv_iload_n hx hb dX10_lettersOn_45 rfl (lv_at hl 2 rfl) ?_
      obtain ⟨rfl, rfl⟩ := u_end h
      exact u_iret hx hb hr hlk G dX10_lettersOn_46
    · have h := u_neg q h
      refine lv_iload_n hx hb dX10_lettersOn_14 rfl (lv_at hl 2 rfl) ?_
      refine lv_aload_n hx hb dX10_lettersOn_15 rfl (lv_at hl 0 rfl) ?_
      refine u_get (v := .ref (ad 4)) C G obM_0 (ci := 10) (N := 44) (Cn := RX10) (T := TX10) rfl fi_X10_lettersOn_10 5 (by decide) (by decide +kernel) rfl dX10_lettersOn_16 ?_
      refine lv_bipush (v := 10) hx hb dX10_lettersOn_19 (by decide) ?_
      refine lv_iload_n hx hb dX10_lettersOn_21 rfl (lv_at hl 1 rfl) ?_
      refine lv_imul hx hb dX10_lettersOn_22 ?_
      refine lv_iload_n hx hb dX10_lettersOn_23 rfl (lv_at hl 3 rfl) ?_
      refine lv_iadd hx hb dX10_lettersOn_24 ?_
      obtain ⟨g2, h⟩ := ui_of h
      refine u_iald C G arM_4 (t0 := 0) rfl g2 dX10_lettersOn_25 ?_
      obtain ⟨r3, σ4, er3, h⟩ := ub_of h
      refine u_callSi (As := [.int (σ 4 ((10 * v1) + v3).toNatClampNeg)]) (rest := [.int v2]) C G (c_X10_isLetter l D ad cs C.2.2.1 σ (σ 4 ((10 * v1) + v3).toNatClampNeg) r3 σ4 er3) (va_cwS 1 C.1.2.2.2.2 gX10_lettersOn_X10_isLetter rfl rfl rfl (by decide +kernel) ⟨Nat.le_of_ble_eq_true rfl, Nat.le_of_ble_eq_true rfl⟩) rfl hl rfl (Nat.le_of_ble_eq_true rfl) dX10_lettersOn_26 (fun H locs G => ?_)
      refine lv_if_eq (tgt := 36) hx hb dX10_lettersOn_29 (by decide) (fun q => ?_) (fun q => ?_)
      · have h := u_pos q h
        refine lv_iconst (v := 0) hx hb dX10_lettersOn_36 (by decide) ?_
        refine lv_iadd hx hb dX10_lettersOn_37 ?_
        obtain ⟨x5, ex5, h⟩ := ul_of h
        refine u_nmi ex5 ?_
        refine lv_istore_n (lv' := [(2, .int x5), (0, .ref (ad 0)), (1, .int v1), (3, .int v3)]) hx hb dX10_lettersOn_38 rfl hl (by decide) rfl (fun ls hl => ?_)
        obtain ⟨x6, ex6, h⟩ := ul_of h
        refine lv_iinc (v := x6) (lv' := [(3, .int x6), (2, .int x5), (0, .ref (ad 0)), (1, .int v1)]) hx hb dX10_lettersOn_39 hl (k := 3) rfl (by rw [ex6]; rfl) (by decide) rfl (fun ls hl => ?_)
        refine lv_goto (tgt := 4) hx hb dX10_lettersOn_42 (by decide) ?_
        exact ih σ4 v1 x5 x6 h H locs ls G (lv_sub hl [2, 3, 1, 0] rfl)
      · have h := u_neg q h
        refine lv_iconst (v := 1) hx hb dX10_lettersOn_32 (by decide) ?_
        refine lv_goto (tgt := 37) hx hb dX10_lettersOn_33 (by decide) ?_
        refine lv_iadd hx hb dX10_lettersOn_37 ?_
        obtain ⟨x7, ex7, h⟩ := ul_of h
        refine u_nmi ex7 ?_
        refine lv_istore_n (lv' := [(2, .int x7), (0, .ref (ad 0)), (1, .int v1), (3, .int v3)]) hx hb dX10_lettersOn_38 rfl hl (by decide) rfl (fun ls hl => ?_)
        obtain ⟨x8, ex8, h⟩ := ul_of h
        refine lv_iinc (v := x8) (lv' := [(3, .int x8), (2, .int x7), (0, .ref (ad 0)), (1, .int v1)]) hx hb dX10_lettersOn_39 hl (k := 3) rfl (by rw [ex8]; rfl) (by decide) rfl (fun ls hl => ?_)
        refine lv_goto (tgt := 4) hx hb dX10_lettersOn_42 (by decide) ?_
        exact ih σ4 v1 x7 x8 h H locs ls G (lv_sub hl [2, 3, 1, 0] rfl)
set_option maxHeartbeats 4000000 in
set_option maxRecDepth 100000 in
theorem c_X10_lettersOn (l : Launch) (D : va_G) (ad : Nat → Nat) (cs : Nat → ClassId) (J : uJ 34 ad) (σ : St) (v1 : Int32) (r : Int32) (σ' : St) (h : f_X10_lettersOn σ v1 = some (r, σ')) : uMi l yX10_lettersOn wsX10_lettersOn { frames := 2, cells := 0, slots := 0, locals := 42 } D vwCl (tyM cs) 34 ad (enM ad cs) [.ref (ad 0), .int v1] σ r σ' := by
  refine u_met (Qf := uQi D vwCl 34 ad (enM ad cs) r σ') (cc := cX10_lettersOn) (maxL := 4) (ret := (some .int)) (lv := [(0, .ref (ad 0)), (1, .int v1)]) J (by decide) rfl (Nat.le_of_ble_eq_true rfl) rfl rfl rfl ?_
  intro p e s m args below meth c ls hx hb C hr hlk G hl
  unfold f_X10_lettersOn at h
  obtain ⟨H, eH⟩ : ∃ H, H = s.heap := ⟨_, rfl⟩
  obtain ⟨locs, eL⟩ : ∃ locs : List Loc, locs = [] := ⟨_, rfl⟩
  refine u_start eH eL G ?_
  clear G eH eL
  intro G
  refine lv_iconst (v := 0) hx hb dX10_lettersOn_0 (by decide) ?_
  refine lv_istore_n (lv' := [(2, .int 0), (0, .ref (ad 0)), (1, .int v1)]) hx hb dX10_lettersOn_1 rfl hl (by decide) rfl (fun ls hl => ?_)
  refine lv_iconst (v := 0) hx hb dX10_lettersOn_2 (by decide) ?_
  refine lv_istore_n (lv' := [(3, .int 0), (2, .int 0), (0, .ref (ad 0)), (1, .int v1)]) hx hb dX10_lettersOn_3 rfl hl (by decide) rfl (fun ls hl => ?_)
  exact w_X10_lettersOn_4 C hr hlk fu σ v1 0 0 h H locs ls G (lv_sub hl [2, 3, 1, 0] rfl)
/-! X10_put -/
def f_X10_put_26 : Nat → St → Int32 → Int32 → Int32 → Int32 → Int32 → Int32 → Int32 → Int32 → Option (Int32 × St)
  | 0, _, _, _, _, _, _, _, _, _ => none
  | fuel + 1, σ, v1, v2, v3, v4, v5, v6, v7, v8 =>
    ui v1 4 <|
    if (σ 3 v1.toNatClampNeg) ≤ v8 then
      ui (σ 0 7) 16 <|
      ul (us σ 6 (σ 0 7).toNatClampNeg v2) fun σ9 =>
      ui (σ9 0 7) 16 <|
      ul (us σ9 7 (σ9 0 7).toNatClampNeg v7) fun σ11 =>
      ui (σ11 0 7) 16 <|
      ul (us σ11 10 (σ11 0 7).toNatClampNeg v3) fun σ13 =>
      ui (σ13 0 7) 16 <|
      ul (us σ13 11 (σ13 0 7).toNatClampNeg v4) fun σ15 =>
      ui (σ15 0 7) 16 <|
      ul (us σ15 12 (σ15 0 7).toNatClampNeg v5) fun σ17 =>
      ui (σ17 0 7) 16 <|
      ul (us σ17 13 (σ17 0 7).toNatClampNeg v6) fun σ19 =>
      ul (us σ19 0 7 ((σ19 0 7) + 1)) fun σ20 =>
      some (((σ20 0 7) - 1), σ20)
    else
      ui ((10 * v1) + v8) 40 <|
      ul (σ 4 ((10 * v1) + v8).toNatClampNeg) fun x22 =>
      ub (f_X10_isLetter σ x22) fun r23 σ24 =>
      if r23 = 0 then
        ul (v8 + 1) fun x25 =>
        f_X10_put_26 fuel σ24 v1 v2 v3 v4 v5 v6 v7 x25
      else
        ui ((8 * (σ24 0 7)) + v7) 128 <|
        ul (us σ24 8 ((8 * (σ24 0 7)) + v7).toNatClampNeg (x22 - 97)) fun σ27 =>
        ul (v7 + 1) fun x28 =>
        ul (v8 + 1) fun x29 =>
        f_X10_put_26 fuel σ27 v1 v2 v3 v4 v5 v6 x28 x29
def f_X10_put (σ : St) (v1 : Int32) (v2 : Int32) (v3 : Int32) (v4 : Int32) (v5 : Int32) (v6 : Int32) : Option (Int32 × St) :=
  ub (f_X10_lettersOn σ v1) fun r1 σ2 =>
  ub (f_X10_in σ2 r1 (1 : Int32) (8 : Int32)) fun r3 σ4 =>
  if r3 = 0 then
    ub (f_X10_meets σ4 (5 : Int32)) fun r5 σ6 =>
    some (r5, σ6)
  else
    f_X10_put_26 fu σ4 v1 v2 v3 v4 v5 v6 0 0
theorem fi_X10_put_10 : ∀ w ∈ u_ws RX10 TX10 44, w ∈ wsX10_put := by decide +kernel
set_option maxHeartbeats 4000000 in
set_option maxRecDepth 100000 in
theorem w_X10_put_26 {p : Program} {l : Launch} {e : Env} {s : State} {m : MethodId} {args : Array Value} {below : List Frame} {meth : Method} {c : Code} {D : va_G} {ad : Nat → Nat} {cs : Nat → ClassId} (C : uC p { frames := 3, cells := 0, slots := 0, locals := 65 } s m args c cX10_put 10 wsX10_put RX10 D vwCl (tyM cs) 34 ad (uAd 34 ad s.heap.size) 0 0) (hr : meth.sig.returnType = (some .int)) (hlk : meth.locks = false) {r : Int32} {σ' : St} :
    ∀ (n : Nat) (σ : St) (v1 : Int32) (v2 : Int32) (v3 : Int32) (v4 : Int32) (v5 : Int32) (v6 : Int32) (v7 : Int32) (v8 : Int32), f_X10_put_26 n σ v1 v2 v3 v4 v5 v6 v7 v8 = some (r, σ') → ∀ (H : Heap) (locs : List Loc) (ls : Array Slot), uG D vwCl 34 ad (enM ad cs) (uAd 34 ad s.heap.size) s σ H locs → lv_has ls 10 [(0, .ref (ad 0)), (1, .int v1), (2, .int v2), (3, .int v3), (4, .int v4), (5, .int v5), (6, .int v6), (7, .int v7), (8, .int v8)] → W p l e { frames := 3, cells := 0, slots := 0, locals := 65 } s m args below meth c H locs 0 0 (MQ below (uQi D vwCl 34 ad (enM ad cs) r σ' s.heap.size) args s 0 0 (uAd 34 ad s.heap.size)) (F0 m 26 ls []) := by
  have hx := C.1.1
  have hb := C.1.2.1
  intro n
  induction n with
  | zero => intro σ v1 v2 v3 v4 v5 v6 v7 v8  h; exact absurd h (by simp [f_X10_put_26])
  | succ fuel ih =>
    intro σ v1 v2 v3 v4 v5 v6 v7 v8  h H locs ls G hl
    rw [f_X10_put_26] at h
    refine lv_iload hx hb dX10_put_26 (lv_at hl 8 rfl) ?_
    refine lv_aload_n hx hb dX10_put_28 rfl (lv_at hl 0 rfl) ?_
    refine u_get (v := .ref (ad 3)) C G obM_0 (ci := 10) (N := 44) (Cn := RX10) (T := TX10) rfl fi_X10_put_10 4 (by decide) (by decide +kernel) rfl dX10_put_29 ?_
    refine lv_iload_n hx hb dX10_put_32 rfl (lv_at hl 1 rfl) ?_
    obtain ⟨g7, h⟩ := ui_of h
    refine u_iald C G arM_3 (t0 := 0) rfl g7 dX10_put_33 ?_
    refine lv_icmp_ge (tgt := 88) hx hb dX10_put_34 (by decide) (fun q => ?_) (fun q => ?_)
    · have h := u_pos q h
      refine lv_aload_n hx hb dX10_put_88 rfl (lv_at hl 0 rfl) ?_
      refine u_get (v := .ref (ad 6)) C G obM_0 (ci := 10) (N := 44) (Cn := RX10) (T := TX10) rfl fi_X10_put_10 8 (by decide) (by decide +kernel) rfl dX10_put_89 ?_
      refine lv_aload_n hx hb dX10_put_92 rfl (lv_at hl 0 rfl) ?_
      refine u_get (v := .int (σ 0 7)) C G obM_0 (ci := 10) (N := 44) (Cn := RX10) (T := TX10) rfl fi_X10_put_10 7 (by decide) (by decide +kernel) rfl dX10_put_93 ?_
      refine lv_iload_n hx hb dX10_put_96 rfl (lv_at hl 2 rfl) ?_
      obtain ⟨g8, h⟩ := ui_of h
      refine u_iast C G arM_6 (t0 := 0) rfl g8 dX10_put_97 (fun H locs G => ?_)
      obtain ⟨σ9, eσ9, h⟩ := ul_of h
      replace G := uG_eq eσ9 G
      refine lv_aload_n hx hb dX10_put_98 rfl (lv_at hl 0 rfl) ?_
      refine u_get (v := .ref (ad 7)) C G obM_0 (ci := 10) (N := 44) (Cn := RX10) (T := TX10) rfl fi_X10_put_10 9 (by decide) (by decide +kernel) rfl dX10_put_99 ?_
      refine lv_aload_n hx hb dX10_put_102 rfl (lv_at hl 0 rfl) ?_
      refine u_get (v := .int (σ9 0 7)) C G obM_0 (ci := 10) (N := 44) (Cn := RX10) (T := TX10) rfl fi_X10_put_10 7 (by decide) (by decide +kernel) rfl dX10_put_103 ?_
      refine lv_iload hx hb dX10_put_106 (lv_at hl 7 rfl) ?_
      obtain ⟨g10, h⟩ := ui_of h
      refine u_iast C G arM_7 (t0 := 0) rfl g10 dX10_put_108 (fun H locs G => ?_)
      obtain ⟨σ11, eσ11, h⟩ := ul_of h
      replace G := uG_eq eσ11 G
      refine lv_aload_n hx hb dX10_put_109 rfl (lv_at hl 0 rfl) ?_
      refine u_get (v := .ref (ad 10)) C G obM_0 (ci := 10) (N := 44) (Cn := RX10) (T := TX10) rfl fi_X10_put_10 12 (by decide) (by decide +kernel) rfl dX10_put_110 ?_
      refine lv_aload_n hx hb dX10_put_113 rfl (lv_at hl 0 rfl) ?_
      refine u_get (v := .int (σ11 0 7)) C G obM_0 (ci := 10) (N := 44) (Cn := RX10) (T := TX10) rfl fi_X10_put_10 7 (by decide) (by decide +kernel) rfl dX10_put_114 ?_
      refine lv_iload_n hx hb dX10_put_117 rfl (lv_at hl 3 rfl) ?_
      obtain ⟨g12, h⟩ := ui_of h
      refine u_iast C G arM_10 (t0 := 0) rfl g12 dX10_put_118 (fun H locs G => ?_)
      obtain ⟨σ13, eσ13, h⟩ := ul_of h
      replace G := uG_eq eσ13 G
      refine lv_aload_n hx hb dX10_put_119 rfl (lv_at hl 0 rfl) ?_
      refine u_get (v := .ref (ad 11)) C G obM_0 (ci := 10) (N := 44) (Cn := RX10) (T := TX10) rfl fi_X10_put_10 13 (by decide) (by decide +kernel) rfl dX10_put_120 ?_
      refine lv_aload_n hx hb dX10_put_123 rfl (lv_at hl 0 rfl) ?_
      refine u_get (v := .int (σ13 0 7)) C G obM_0 (ci := 10) (N := 44) (Cn := RX10) (T := TX10) rfl fi_X10_put_10 7 (by decide) (by decide +kernel) rfl dX10_put_124 ?_
      refine lv_iload hx hb dX10_put_127 (lv_at hl 4 rfl) ?_
      obtain ⟨g14, h⟩ := ui_of h
      refine u_iast C G arM_11 (t0 := 0) rfl g14 dX10_put_129 (fun H locs G => ?_)
      obtain ⟨σ15, eσ15, h⟩ := ul_of h
      replace G := uG_eq eσ15 G
      refine lv_aload_n hx hb dX10_put_130 rfl (lv_at hl 0 rfl) ?_
      refine u_get (v := .ref (ad 12)) C G obM_0 (ci := 10) (N := 44) (Cn := RX10) (T := TX10) rfl fi_X10_put_10 14 (by decide) (by decide +kernel) rfl dX10_put_131 ?_
      refine lv_aload_n hx hb dX10_put_134 rfl (lv_at hl 0 rfl) ?_
      refine u_get (v := .int (σ15 0 7)) C G obM_0 (ci := 10) (N := 44) (Cn := RX10) (T := TX10) rfl fi_X10_put_10 7 (by decide) (by decide +kernel) rfl dX10_put_135 ?_
      refine lv_iload hx hb dX10_put_138 (lv_at hl 5 rfl) ?_
      obtain ⟨g16, h⟩ := ui_of h
      refine u_iast C G arM_12 (t0 := 0) rfl g16 dX10_put_140 (fun H locs G => ?_)
      obtain ⟨σ17, eσ17, h⟩ := ul_of h
      replace G := uG_eq eσ17 G
      refine lv_aload_n hx hb dX10_put_141 rfl (lv_at hl 0 rfl) ?_
      refine u_get (v := .ref (ad 13)) C G obM_0 (ci := 10) (N := 44) (Cn := RX10) (T := TX10) rfl fi_X10_put_10 15 (by decide) (by decide +kernel) rfl dX10_put_142 ?_
      refine lv_aload_n hx hb dX10_put_145 rfl (lv_at hl 0 rfl) ?_
      refine u_get (v := .int (σ17 0 7)) C G obM_0 (ci := 10) (N := 44) (Cn := RX10) (T := TX10) rfl fi_X10_put_10 7 (by decide) (by decide +kernel) rfl dX10_put_146 ?_
      refine lv_iload hx hb dX10_put_149 (lv_at hl 6 rfl) ?_
      obtain ⟨g18, h⟩ := ui_of h
      refine u_iast C G arM_13 (t0 := 0) rfl g18 dX10_put_151 (fun H locs G => ?_)
      obtain ⟨σ19, eσ19, h⟩ := ul_of h
      replace G := uG_eq eσ19 G
      refine lv_aload_n hx hb dX10_put_152 rfl (lv_at hl 0 rfl) ?_
      refine lv_dup hx hb dX10_put_153 rfl ?_
      refine u_get (v := .int (σ19 0 7)) C G obM_0 (ci := 10) (N := 44) (Cn := RX10) (T := TX10) rfl fi_X10_put_10 7 (by decide) (by decide +kernel) rfl dX10_put_154 ?_
      refine lv_iconst (v := 1) hx hb dX10_put_157 (by decide) ?_
      refine lv_iadd hx hb dX10_put_158 ?_
      refine u_put (x := ((σ19 0 7) + 1)) (ty := .int) C G obM_0 (ci := 10) (N := 44) (Cn := RX10) (T := TX10) rfl fi_X10_put_10 tyX10 tyX10_ok nmX10 7 (by decide) (by decide +kernel) rfl (by decide +kernel) rfl rfl (fun f => by simp) (fun f => rfl) dX10_put_159 (fun H locs G => ?_)
      obtain ⟨σ20, eσ20, h⟩ := ul_of h
      replace G := uG_eq eσ20 G
      refine lv_aload_n hx hb dX10_put_162 rfl (lv_at hl 0 rfl) ?_
      refine u_get (v := .int (σ20 0 7)) C G obM_0 (ci := 10) (N := 44) (Cn := RX10) (T := TX10) rfl fi_X10_put_10 7 (by decide) (by decide +kernel) rfl dX10_put_163 ?_
      refine lv_iconst (v := 1) hx hb dX10_put_166 (by decide) ?_
      refine lv_isub hx hb dX10_put_167 ?_
      obtain ⟨rfl, rfl⟩ := u_end h
      exact u_iret hx hb hr hlk G dX10_put_168
    · have h := u_neg q h
      refine lv_aload_n hx hb dX10_put_37 rfl (lv_at hl 0 rfl) ?_
      refine u_get (v := .ref (ad 4)) C G obM_0 (ci := 10) (N := 44) (Cn := RX10) (T := TX10) rfl fi_X10_put_10 5 (by decide) (by decide +kernel) rfl dX10_put_38 ?_
      refine lv_bipush (v := 10) hx hb dX10_put_41 (by decide) ?_
      refine lv_iload_n hx hb dX10_put_43 rfl (lv_at hl 1 rfl) ?_
      refine lv_imul hx hb dX10_put_44 ?_
      refine lv_iload hx hb dX10_put_45 (lv_at hl 8 rfl) ?_
      refine lv_iadd hx hb dX10_put_47 ?_
      obtain ⟨g21, h⟩ := ui_of h
      refine u_iald C G arM_4 (t0 := 0) rfl g21 dX10_put_48 ?_
      obtain ⟨x22, ex22, h⟩ := ul_of h
      refine u_nmi ex22 ?_
      refine lv_istore (lv' := [(9, .int x22), (0, .ref (ad 0)), (1, .int v1), (2, .int v2), (3, .int v3), (4, .int v4), (5, .int v5), (6, .int v6), (7, .int v7), (8, .int v8)]) hx hb dX10_put_49 hl (by decide) rfl (fun ls hl => ?_)
      refine lv_iload hx hb dX10_put_51 (lv_at hl 0 rfl) ?_
      obtain ⟨r23, σ24, er23, h⟩ := ub_of h
      refine u_callSi (As := [.int x22]) (rest := []) C G (c_X10_isLetter l D ad cs C.2.2.1 σ x22 r23 σ24 er23) (va_cwS 1 C.1.2.2.2.2 gX10_put_X10_isLetter rfl rfl rfl (by decide +kernel) ⟨Nat.le_of_ble_eq_true rfl, Nat.le_of_ble_eq_true rfl⟩) rfl hl rfl (Nat.le_of_ble_eq_true rfl) dX10_put_53 (fun H locs G => ?_)
      refine lv_if_eq (tgt := 82) hx hb dX10_put_56 (by decide) (fun q => ?_) (fun q => ?_)
      · have h := u_pos q h
        obtain ⟨x25, ex25, h⟩ := ul_of h
        refine lv_iinc (v := x25) (lv' := [(8, .int x25), (9, .int x22), (0, .ref (ad 0)), (1, .int v1), (2, .int v2), (3, .int v3), (4, .int v4), (5, .int v5), (6, .int v6), (7, .int v7)]) hx hb dX10_put_82 hl (k := 9) rfl (by rw [ex25]; rfl) (by decide) rfl (fun ls hl => ?_)
        refine lv_goto (tgt := 26) hx hb dX10_put_85 (by decide) ?_
        exact ih σ24 v1 v2 v3 v4 v5 v6 v7 x25 h H locs ls G (lv_sub hl [2, 3, 4, 5, 6, 7, 8, 9, 0] rfl)
      · have h := u_neg q h
        refine lv_aload_n hx hb dX10_put_59 rfl (lv_at hl 1 rfl) ?_
        refine u_get (v := .ref (ad 8)) C G obM_0 (ci := 10) (N := 44) (Cn := RX10) (T := TX10) rfl fi_X10_put_10 10 (by decide) (by decide +kernel) rfl dX10_put_60 ?_
        refine lv_bipush (v := 8) hx hb dX10_put_63 (by decide) ?_
        refine lv_aload_n hx hb dX10_put_65 rfl (lv_at hl 1 rfl) ?_
        refine u_get (v := .int (σ24 0 7)) C G obM_0 (ci := 10) (N := 44) (Cn := RX10) (T := TX10) rfl fi_X10_put_10 7 (by decide) (by decide +kernel) rfl dX10_put_66 ?_
        refine lv_imul hx hb dX10_put_69 ?_
        refine lv_iload hx hb dX10_put_70 (lv_at hl 8 rfl) ?_
        refine lv_iadd hx hb dX10_put_72 ?_
        refine lv_iload hx hb dX10_put_73 (lv_at hl 0 rfl) ?_
        refine lv_bipush (v := 97) hx hb dX10_put_75 (by decide) ?_
        refine lv_isub hx hb dX10_put_77 ?_
        obtain ⟨g26, h⟩ := ui_of h
        refine u_iast C G arM_8 (t0 := 0) rfl g26 dX10_put_78 (fun H locs G => ?_)
        obtain ⟨σ27, eσ27, h⟩ := ul_of h
        replace G := uG_eq eσ27 G
        obtain ⟨x28, ex28, h⟩ := ul_of h
        refine lv_iinc (v := x28) (lv' := [(7, .int x28), (9, .int x22), (0, .ref (ad 0)), (1, .int v1), (2, .int v2), (3, .int v3), (4, .int v4), (5, .int v5), (6, .int v6), (8, .int v8)]) hx hb dX10_put_79 hl (k := 8) rfl (by rw [ex28]; rfl) (by decide) rfl (fun ls hl => ?_)
        obtain ⟨x29, ex29, h⟩ := ul_of h
        refine lv_iinc (v := x29) (lv' := [(8, .int x29), (7, .int x28), (9, .int x22), (0, .ref (ad 0)), (1, .int v1), (2, .int v2), (3, .int v3), (4, .int v4), (5, .int v5), (6, .int v6)]) hx hb dX10_put_82 hl (k := 9) rfl (by rw [ex29]; rfl) (by decide) rfl (fun ls hl => ?_)
        refine lv_goto (tgt := 26) hx hb dX10_put_85 (by decide) ?_
        exact ih σ27 v1 v2 v3 v4 v5 v6 x28 x29 h H locs ls G (lv_sub hl [3, 4, 5, 6, 7, 8, 9, 1, 0] rfl)
set_option maxHeartbeats 4000000 in
set_option maxRecDepth 100000 in
theorem c_X10_put (l : Launch) (D : va_G) (ad : Nat → Nat) (cs : Nat → ClassId) (J : uJ 34 ad) (σ : St) (v1 : Int32) (v2 : Int32) (v3 : Int32) (v4 : Int32) (v5 : Int32) (v6 : Int32) (r : Int32) (σ' : St) (h : f_X10_put σ v1 v2 v3 v4 v5 v6 = some (r, σ')) : uMi l yX10_put wsX10_put { frames := 3, cells := 0, slots := 0, locals := 65 } D vwCl (tyM cs) 34 ad (enM ad cs) [.ref (ad 0), .int v1, .int v2, .int v3, .int v4, .int v5, .int v6] σ r σ' := by
  refine u_met (Qf := uQi D vwCl 34 ad (enM ad cs) r σ') (cc := cX10_put) (maxL := 10) (ret := (some .int)) (lv := [(0, .ref (ad 0)), (1, .int v1), (2, .int v2), (3, .int v3), (4, .int v4), (5, .int v5), (6, .int v6)]) J (by decide) rfl (Nat.le_of_ble_eq_true rfl) rfl rfl rfl ?_
  intro p e s m args below meth c ls hx hb C hr hlk G hl
  unfold f_X10_put at h
  obtain ⟨H, eH⟩ : ∃ H, H = s.heap := ⟨_, rfl⟩
  obtain ⟨locs, eL⟩ : ∃ locs : List Loc, locs = [] := ⟨_, rfl⟩
  refine u_start eH eL G ?_
  clear G eH eL
  intro G
  refine lv_aload_n hx hb dX10_put_0 rfl (lv_at hl 0 rfl) ?_
  refine lv_iload_n hx hb dX10_put_1 rfl (lv_at hl 1 rfl) ?_
  obtain ⟨r1, σ2, er1, h⟩ := ub_of h
  refine u_callVi (As := [.int v1]) (rest := []) C G (c_X10_lettersOn l D ad cs C.2.2.1 σ v1 r1 σ2 er1) (cwV 1 C.1.2.2.2.2 gX10_put_X10_lettersOn rfl rfl rfl (by decide +kernel) ⟨Nat.le_of_ble_eq_true rfl, Nat.le_of_ble_eq_true rfl⟩) obM_0 (ci := 10) (T := TX10) rfl rfl hl rfl (Nat.le_of_ble_eq_true rfl) dX10_put_2 (fun H locs G => ?_)
  refine lv_iconst (v := 1) hx hb dX10_put_5 (by decide) ?_
  refine lv_bipush (v := 8) hx hb dX10_put_6 (by decide) ?_
  obtain ⟨r3, σ4, er3, h⟩ := ub_of h
  refine u_callSi (As := [.int r1, .int 1, .int 8]) (rest := []) C G (c_X10_in l D ad cs C.2.2.1 σ2 r1 (1 : Int32) (8 : Int32) r3 σ4 er3) (va_cwS 3 C.1.2.2.2.2 gX10_put_X10_in rfl rfl rfl (by decide +kernel) ⟨Nat.le_of_ble_eq_true rfl, Nat.le_of_ble_eq_true rfl⟩) rfl hl rfl (Nat.le_of_ble_eq_true rfl) dX10_put_8 (fun H locs G => ?_)
  refine lv_if_ne (tgt := 20) hx hb dX10_put_11 (by decide) (fun q => ?_) (fun q => ?_)
  · have h := u_neg q h
    refine lv_iconst (v := 0) hx hb dX10_put_20 (by decide) ?_
    refine lv_istore (lv' := [(7, .int 0), (0, .ref (ad 0)), (1, .int v1), (2, .int v2), (3, .int v3), (4, .int v4), (5, .int v5), (6, .int v6)]) hx hb dX10_put_21 hl (by decide) rfl (fun ls hl => ?_)
    refine lv_iconst (v := 0) hx hb dX10_put_23 (by decide) ?_
    refine lv_istore (lv' := [(8, .int 0), (7, .int 0), (0, .ref (ad 0)), (1, .int v1), (2, .int v2), (3, .int v3), (4, .int v4), (5, .int v5), (6, .int v6)]) hx hb dX10_put_24 hl (by decide) rfl (fun ls hl => ?_)
    exact w_X10_put_26 C hr hlk fu σ4 v1 v2 v3 v4 v5 v6 0 0 h H locs ls G (lv_sub hl [2, 3, 4, 5, 6, 7, 8, 1, 0] rfl)
  · have h := u_pos q h
    refine lv_aload_n hx hb dX10_put_14 rfl (lv_at hl 0 rfl) ?_
    refine lv_iconst (v := 5) hx hb dX10_put_15 (by decide) ?_
    obtain ⟨r5, σ6, er5, h⟩ := ub_of h
    refine u_callVi (As := [.int 5]) (rest := []) C G (c_X10_meets l D ad cs C.2.2.1 σ4 (5 : Int32) r5 σ6 er5) (cwV 1 C.1.2.2.2.2 gX10_put_X10_meets rfl rfl rfl (by decide +kernel) ⟨Nat.le_of_ble_eq_true rfl, Nat.le_of_ble_eq_true rfl⟩) obM_0 (ci := 10) (T := TX10) rfl rfl hl rfl (Nat.le_of_ble_eq_true rfl) dX10_put_16 (fun H locs G => ?_)
    obtain ⟨rfl, rfl⟩ := u_end h
    exact u_iret hx hb hr hlk G dX10_put_19
/-! X10_word -/
def f_X10_word (σ : St) (v1 : Int32) : Option (Int32 × St) :=
  ub (f_X10_isSheet σ v1) fun r1 σ2 =>
  if r1 = 0 then
    some (((-1) : Int32), σ2)
  else
    if (σ2 0 7) = 16 then
      some (((-2) : Int32), σ2)
    else
      ui v1 4 <|
      if 0 ≤ (σ2 3 v1.toNatClampNeg) then
        ub (f_X10_put σ2 v1 (0 : Int32) ((-9) : Int32) ((-9) : Int32) ((-9) : Int32) ((-9) : Int32)) fun r4 σ5 =>
        some (r4, σ5)
      else
        ub (f_X10_meets σ2 (1 : Int32)) fun r6 σ7 =>
        some (r6, σ7)
theorem fi_X10_word_10 : ∀ w ∈ u_ws RX10 TX10 44, w ∈ wsX10_word := by decide +kernel
set_option maxHeartbeats 4000000 in
set_option maxRecDepth 100000 in
theorem c_X10_word (l : Launch) (D : va_G) (ad : Nat → Nat) (cs : Nat → ClassId) (J : uJ 34 ad) (σ : St) (v1 : Int32) (r : Int32) (σ' : St) (h : f_X10_word σ v1 = some (r, σ')) : uMi l yX10_word wsX10_word { frames := 4, cells := 0, slots := 0, locals := 94 } D vwCl (tyM cs) 34 ad (enM ad cs) [.ref (ad 0), .int v1] σ r σ' := by
  refine u_met (Qf := uQi D vwCl 34 ad (enM ad cs) r σ') (cc := cX10_word) (maxL := 2) (ret := (some .int)) (lv := [(0, .ref (ad 0)), (1, .int v1)]) J (by decide) rfl (Nat.le_of_ble_eq_true rfl) rfl rfl rfl ?_
  intro p e s m args below meth c ls hx hb C hr hlk G hl
  unfold f_X10_word at h
  obtain ⟨H, eH⟩ : ∃ H, H = s.heap := ⟨_, rfl⟩
  obtain ⟨locs, eL⟩ : ∃ locs : List Loc, locs = [] := ⟨_, rfl⟩
  refine u_start eH eL G ?_
  clear G eH eL
  intro G
  refine lv_iload_n hx hb dX10_word_0 rfl (lv_at hl 1 rfl) ?_
  obtain ⟨r1, σ2, er1, h⟩ := ub_of h
  refine u_callSi (As := [.int v1]) (rest := []) C G (c_X10_isSheet l D ad cs C.2.2.1 σ v1 r1 σ2 er1) (va_cwS 1 C.1.2.2.2.2 gX10_word_X10_isSheet rfl rfl rfl (by decide +kernel) ⟨Nat.le_of_ble_eq_true rfl, Nat.le_of_ble_eq_true rfl⟩) rfl hl rfl (Nat.le_of_ble_eq_true rfl) dX10_word_1 (fun H locs G => ?_)
  refine lv_if_ne (tgt := 9) hx hb dX10_word_4 (by decide) (fun q => ?_) (fun q => ?_)
  · have h := u_neg q h
    refine lv_aload_n hx hb dX10_word_9 rfl (lv_at hl 0 rfl) ?_
    refine u_get (v := .int (σ2 0 7)) C G obM_0 (ci := 10) (N := 44) (Cn := RX10) (T := TX10) rfl fi_X10_word_10 7 (by decide) (by decide +kernel) rfl dX10_word_10 ?_
    refine lv_bipush (v := 16) hx hb dX10_word_13 (by decide) ?_
    refine lv_icmp_ne (tgt := 21) hx hb dX10_word_15 (by decide) (fun q => ?_) (fun q => ?_)
    · have h := u_neg q h
      refine lv_aload_n hx hb dX10_word_21 rfl (lv_at hl 0 rfl) ?_
      refine u_get (v := .ref (ad 3)) C G obM_0 (ci := 10) (N := 44) (Cn := RX10) (T := TX10) rfl fi_X10_word_10 4 (by decide) (by decide +kernel) rfl dX10_word_22 ?_
      refine lv_iload_n hx hb dX10_word_25 rfl (lv_at hl 1 rfl) ?_
      obtain ⟨g3, h⟩ := ui_of h
      refine u_iald C G arM_3 (t0 := 0) rfl g3 dX10_word_26 ?_
      refine lv_if_ge (tgt := 38) hx hb dX10_word_27 (by decide) (fun q => ?_) (fun q => ?_)
      · have h := u_pos q h
        refine lv_aload_n hx hb dX10_word_38 rfl (lv_at hl 0 rfl) ?_
        refine lv_iload_n hx hb dX10_word_39 rfl (lv_at hl 1 rfl) ?_
        refine lv_iconst (v := 0) hx hb dX10_word_40 (by decide) ?_
        refine lv_bipush (v := (-9)) hx hb dX10_word_41 (by decide) ?_
        refine lv_bipush (v := (-9)) hx hb dX10_word_43 (by decide) ?_
        refine lv_bipush (v := (-9)) hx hb dX10_word_45 (by decide) ?_
        refine lv_bipush (v := (-9)) hx hb dX10_word_47 (by decide) ?_
        obtain ⟨r4, σ5, er4, h⟩ := ub_of h
        refine u_callVi (As := [.int v1, .int 0, .int (-9), .int (-9), .int (-9), .int (-9)]) (rest := []) C G (c_X10_put l D ad cs C.2.2.1 σ2 v1 (0 : Int32) ((-9) : Int32) ((-9) : Int32) ((-9) : Int32) ((-9) : Int32) r4 σ5 er4) (cwV 6 C.1.2.2.2.2 gX10_word_X10_put rfl rfl rfl (by decide +kernel) ⟨Nat.le_of_ble_eq_true rfl, Nat.le_of_ble_eq_true rfl⟩) obM_0 (ci := 10) (T := TX10) rfl rfl hl rfl (Nat.le_of_ble_eq_true rfl) dX10_word_49 (fun H locs G => ?_)
        obtain ⟨rfl, rfl⟩ := u_end h
        exact u_iret hx hb hr hlk G dX10_word_52
      · have h := u_neg q h
        refine lv_aload_n hx hb dX10_word_30 rfl (lv_at hl 0 rfl) ?_
        refine lv_iconst (v := 1) hx hb dX10_word_31 (by decide) ?_
        obtain ⟨r6, σ7, er6, h⟩ := ub_of h
        refine u_callVi (As := [.int 1]) (rest := []) C G (c_X10_meets l D ad cs C.2.2.1 σ2 (1 : Int32) r6 σ7 er6) (cwV 1 C.1.2.2.2.2 gX10_word_X10_meets rfl rfl rfl (by decide +kernel) ⟨Nat.le_of_ble_eq_true rfl, Nat.le_of_ble_eq_true rfl⟩) obM_0 (ci := 10) (T := TX10) rfl rfl hl rfl (Nat.le_of_ble_eq_true rfl) dX10_word_32 (fun H locs G => ?_)
        refine lv_goto (tgt := 52) hx hb dX10_word_35 (by decide) ?_
        obtain ⟨rfl, rfl⟩ := u_end h
        exact u_iret hx hb hr hlk G dX10_word_52
    · have h := u_pos q h
      refine lv_bipush (v := (-2)) hx hb dX10_word_18 (by decide) ?_
      obtain ⟨rfl, rfl⟩ := u_end h
      exact u_iret hx hb hr hlk G dX10_word_20
  · have h := u_pos q h
    refine lv_iconst (v := (-1)) hx hb dX10_word_7 (by decide) ?_
    obtain ⟨rfl, rfl⟩ := u_end h
    exact u_iret hx hb hr hlk G dX10_word_8
/-! X10_isWord -/
def f_X10_isWord (σ : St) (v1 : Int32) : Option (Int32 × St) :=
  ub (f_X10_in σ v1 (0 : Int32) ((σ 0 7) - 1)) fun r1 σ2 =>
  ug (unz r1) <|
  some (r1, σ2)
theorem fi_X10_isWord_10 : ∀ w ∈ u_ws RX10 TX10 44, w ∈ wsX10_isWord := by decide +kernel
set_option maxHeartbeats 4000000 in
set_option maxRecDepth 100000 in
theorem c_X10_isWord (l : Launch) (D : va_G) (ad : Nat → Nat) (cs : Nat → ClassId) (J : uJ 34 ad) (σ : St) (v1 : Int32) (r : Int32) (σ' : St) (h : f_X10_isWord σ v1 = some (r, σ')) : uMi l yX10_isWord wsX10_isWord { frames := 1, cells := 0, slots := 0, locals := 22 } D vwCl (tyM cs) 34 ad (enM ad cs) [.ref (ad 0), .int v1] σ r σ' := by
  refine u_met (Qf := uQi D vwCl 34 ad (enM ad cs) r σ') (cc := cX10_isWord) (maxL := 2) (ret := (some .boolean)) (lv := [(0, .ref (ad 0)), (1, .int v1)]) J (by decide) rfl (Nat.le_of_ble_eq_true rfl) rfl rfl rfl ?_
  intro p e s m args below meth c ls hx hb C hr hlk G hl
  unfold f_X10_isWord at h
  obtain ⟨H, eH⟩ : ∃ H, H = s.heap := ⟨_, rfl⟩
  obtain ⟨locs, eL⟩ : ∃ locs : List Loc, locs = [] := ⟨_, rfl⟩
  refine u_start eH eL G ?_
  clear G eH eL
  intro G
  refine lv_iload_n hx hb dX10_isWord_0 rfl (lv_at hl 1 rfl) ?_
  refine lv_iconst (v := 0) hx hb dX10_isWord_1 (by decide) ?_
  refine lv_aload_n hx hb dX10_isWord_2 rfl (lv_at hl 0 rfl) ?_
  refine u_get (v := .int (σ 0 7)) C G obM_0 (ci := 10) (N := 44) (Cn := RX10) (T := TX10) rfl fi_X10_isWord_10 7 (by decide) (by decide +kernel) rfl dX10_isWord_3 ?_
  refine lv_iconst (v := 1) hx hb dX10_isWord_6 (by decide) ?_
  refine lv_isub hx hb dX10_isWord_7 ?_
  obtain ⟨r1, σ2, er1, h⟩ := ub_of h
  refine u_callSi (As := [.int v1, .int 0, .int ((σ 0 7) - 1)]) (rest := []) C G (c_X10_in l D ad cs C.2.2.1 σ v1 (0 : Int32) ((σ 0 7) - 1) r1 σ2 er1) (va_cwS 3 C.1.2.2.2.2 gX10_isWord_X10_in rfl rfl rfl (by decide +kernel) ⟨Nat.le_of_ble_eq_true rfl, Nat.le_of_ble_eq_true rfl⟩) rfl hl rfl (Nat.le_of_ble_eq_true rfl) dX10_isWord_8 (fun H locs G => ?_)
  obtain ⟨gz, h⟩ := ug_of h
  obtain ⟨rfl, rfl⟩ := u_end h
  exact u_zret hx hb hr hlk G gz dX10_isWord_11
/-! X10_isFirm -/
def f_X10_isFirm (σ : St) (v1 : Int32) : Option (Int32 × St) :=
  ui v1 16 <|
  if (σ 6 v1.toNatClampNeg) = 1 then
    some ((1 : Int32), σ)
  else
    ui v1 16 <|
    if (σ 6 v1.toNatClampNeg) = 2 then
      some ((1 : Int32), σ)
    else
      some ((0 : Int32), σ)
theorem fi_X10_isFirm_10 : ∀ w ∈ u_ws RX10 TX10 44, w ∈ wsX10_isFirm := by decide +kernel
set_option maxHeartbeats 4000000 in
set_option maxRecDepth 100000 in
theorem c_X10_isFirm (l : Launch) (D : va_G) (ad : Nat → Nat) (cs : Nat → ClassId) (J : uJ 34 ad) (σ : St) (v1 : Int32) (r : Int32) (σ' : St) (h : f_X10_isFirm σ v1 = some (r, σ')) : uMi l yX10_isFirm wsX10_isFirm { frames := 0, cells := 0, slots := 0, locals := 0 } D vwCl (tyM cs) 34 ad (enM ad cs) [.ref (ad 0), .int v1] σ r σ' := by
  refine u_met (Qf := uQi D vwCl 34 ad (enM ad cs) r σ') (cc := cX10_isFirm) (maxL := 2) (ret := (some .boolean)) (lv := [(0, .ref (ad 0)), (1, .int v1)]) J (by decide) rfl (Nat.le_of_ble_eq_true rfl) rfl rfl rfl ?_
  intro p e s m args below meth c ls hx hb C hr hlk G hl
  unfold f_X10_isFirm at h
  obtain ⟨H, eH⟩ : ∃ H, H = s.heap := ⟨_, rfl⟩
  obtain ⟨locs, eL⟩ : ∃ locs : List Loc, locs = [] := ⟨_, rfl⟩
  refine u_start eH eL G ?_
  clear G eH eL
  intro G
  refine lv_aload_n hx hb dX10_isFirm_0 rfl (lv_at hl 0 rfl) ?_
  refine u_get (v := .ref (ad 6)) C G obM_0 (ci := 10) (N := 44) (Cn := RX10) (T := TX10) rfl fi_X10_isFirm_10 8 (by decide) (by decide +kernel) rfl dX10_isFirm_1 ?_
  refine lv_iload_n hx hb dX10_isFirm_4 rfl (lv_at hl 1 rfl) ?_
  obtain ⟨g1, h⟩ := ui_of h
  refine u_iald C G arM_6 (t0 := 0) rfl g1 dX10_isFirm_5 ?_
  refine lv_iconst (v := 1) hx hb dX10_isFirm_6 (by decide) ?_
  refine lv_icmp_eq (tgt := 20) hx hb dX10_isFirm_7 (by decide) (fun q => ?_) (fun q => ?_)
  · have h := u_pos q h
    refine lv_iconst (v := 1) hx hb dX10_isFirm_20 (by decide) ?_
    refine lv_goto (tgt := 25) hx hb dX10_isFirm_21 (by decide) ?_
    obtain ⟨rfl, rfl⟩ := u_end h
    exact u_zret hx hb hr hlk G (by decide) dX10_isFirm_25
  · have h := u_neg q h
    refine lv_aload_n hx hb dX10_isFirm_10 rfl (lv_at hl 0 rfl) ?_
    refine u_get (v := .ref (ad 6)) C G obM_0 (ci := 10) (N := 44) (Cn := RX10) (T := TX10) rfl fi_X10_isFirm_10 8 (by decide) (by decide +kernel) rfl dX10_isFirm_11 ?_
    refine lv_iload_n hx hb dX10_isFirm_14 rfl (lv_at hl 1 rfl) ?_
    obtain ⟨g2, h⟩ := ui_of h
    refine u_iald C G arM_6 (t0 := 0) rfl g2 dX10_isFirm_15 ?_
    refine lv_iconst (v := 2) hx hb dX10_isFirm_16 (by decide) ?_
    refine lv_icmp_ne (tgt := 24) hx hb dX10_isFirm_17 (by decide) (fun q => ?_) (fun q => ?_)
    · have h := u_neg q h
      refine lv_iconst (v := 0) hx hb dX10_isFirm_24 (by decide) ?_
      obtain ⟨rfl, rfl⟩ := u_end h
      exact u_zret hx hb hr hlk G (by decide) dX10_isFirm_25
    · have h := u_pos q h
      refine lv_iconst (v := 1) hx hb dX10_isFirm_20 (by decide) ?_
      refine lv_goto (tgt := 25) hx hb dX10_isFirm_21 (by decide) ?_
      obtain ⟨rfl, rfl⟩ := u_end h
      exact u_zret hx hb hr hlk G (by decide) dX10_isFirm_25
/-! X10_isYear -/
def f_X10_isYear (σ : St) (v0 : Int32) : Option (Int32 × St) :=
  ub (f_X10_in σ v0 (1700 : Int32) (2100 : Int32)) fun r1 σ2 =>
  ug (unz r1) <|
  some (r1, σ2)
set_option maxHeartbeats 4000000 in
set_option maxRecDepth 100000 in
theorem c_X10_isYear (l : Launch) (D : va_G) (ad : Nat → Nat) (cs : Nat → ClassId) (J : uJ 34 ad) (σ : St) (v0 : Int32) (r : Int32) (σ' : St) (h : f_X10_isYear σ v0 = some (r, σ')) : uMi l yX10_isYear wsX10_isYear { frames := 1, cells := 0, slots := 0, locals := 22 } D vwCl (tyM cs) 34 ad (enM ad cs) [.int v0] σ r σ' := by
  refine u_met (Qf := uQi D vwCl 34 ad (enM ad cs) r σ') (cc := cX10_isYear) (maxL := 1) (ret := (some .boolean)) (lv := [(0, .int v0)]) J (by decide) rfl (Nat.le_of_ble_eq_true rfl) rfl rfl rfl ?_
  intro p e s m args below meth c ls hx hb C hr hlk G hl
  unfold f_X10_isYear at h
  obtain ⟨H, eH⟩ : ∃ H, H = s.heap := ⟨_, rfl⟩
  obtain ⟨locs, eL⟩ : ∃ locs : List Loc, locs = [] := ⟨_, rfl⟩
  refine u_start eH eL G ?_
  clear G eH eL
  intro G
  refine lv_iload_n hx hb dX10_isYear_0 rfl (lv_at hl 0 rfl) ?_
  refine lv_sipush (v := 1700) hx hb dX10_isYear_1 (by decide) ?_
  refine lv_sipush (v := 2100) hx hb dX10_isYear_4 (by decide) ?_
  obtain ⟨r1, σ2, er1, h⟩ := ub_of h
  refine u_callSi (As := [.int v0, .int 1700, .int 2100]) (rest := []) C G (c_X10_in l D ad cs C.2.2.1 σ v0 (1700 : Int32) (2100 : Int32) r1 σ2 er1) (va_cwS 3 C.1.2.2.2.2 gX10_isYear_X10_in rfl rfl rfl (by decide +kernel) ⟨Nat.le_of_ble_eq_true rfl, Nat.le_of_ble_eq_true rfl⟩) rfl hl rfl (Nat.le_of_ble_eq_true rfl) dX10_isYear_7 (fun H locs G => ?_)
  obtain ⟨gz, h⟩ := ug_of h
  obtain ⟨rfl, rfl⟩ := u_end h
  exact u_zret hx hb hr hlk G gz dX10_isYear_10
/-! X10_isHouse -/
def f_X10_isHouse (σ : St) (v0 : Int32) : Option (Int32 × St) :=
  ub (f_X10_in σ v0 (1 : Int32) (200 : Int32)) fun r1 σ2 =>
  ug (unz r1) <|
  some (r1, σ2)
set_option maxHeartbeats 4000000 in
set_option maxRecDepth 100000 in
theorem c_X10_isHouse (l : Launch) (D : va_G) (ad : Nat → Nat) (cs : Nat → ClassId) (J : uJ 34 ad) (σ : St) (v0 : Int32) (r : Int32) (σ' : St) (h : f_X10_isHouse σ v0 = some (r, σ')) : uMi l yX10_isHouse wsX10_isHouse { frames := 1, cells := 0, slots := 0, locals := 22 } D vwCl (tyM cs) 34 ad (enM ad cs) [.int v0] σ r σ' := by
  refine u_met (Qf := uQi D vwCl 34 ad (enM ad cs) r σ') (cc := cX10_isHouse) (maxL := 1) (ret := (some .boolean)) (lv := [(0, .int v0)]) J (by decide) rfl (Nat.le_of_ble_eq_true rfl) rfl rfl rfl ?_
  intro p e s m args below meth c ls hx hb C hr hlk G hl
  unfold f_X10_isHouse at h
  obtain ⟨H, eH⟩ : ∃ H, H = s.heap := ⟨_, rfl⟩
  obtain ⟨locs, eL⟩ : ∃ locs : List Loc, locs = [] := ⟨_, rfl⟩
  refine u_start eH eL G ?_
  clear G eH eL
  intro G
  refine lv_iload_n hx hb dX10_isHouse_0 rfl (lv_at hl 0 rfl) ?_
  refine lv_iconst (v := 1) hx hb dX10_isHouse_1 (by decide) ?_
  refine lv_sipush (v := 200) hx hb dX10_isHouse_2 (by decide) ?_
  obtain ⟨r1, σ2, er1, h⟩ := ub_of h
  refine u_callSi (As := [.int v0, .int 1, .int 200]) (rest := []) C G (c_X10_in l D ad cs C.2.2.1 σ v0 (1 : Int32) (200 : Int32) r1 σ2 er1) (va_cwS 3 C.1.2.2.2.2 gX10_isHouse_X10_in rfl rfl rfl (by decide +kernel) ⟨Nat.le_of_ble_eq_true rfl, Nat.le_of_ble_eq_true rfl⟩) rfl hl rfl (Nat.le_of_ble_eq_true rfl) dX10_isHouse_5 (fun H locs G => ?_)
  obtain ⟨gz, h⟩ := ug_of h
  obtain ⟨rfl, rfl⟩ := u_end h
  exact u_zret hx hb hr hlk G gz dX10_isHouse_8
