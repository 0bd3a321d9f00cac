/-! X9_counted -/
def f_X9_counted_81 : Nat → St → Int32 → Int32 → Option (Int32 × St)
  | 0, _, _, _ => none
  | fuel + 1, σ, v2, v3 =>
    if 4 ≤ v3 then
      some (v2, σ)
    else
      ui v3 4 <|
      ul (v2 + (σ (35 + 9 * v3.toNatClampNeg) 4)) fun x11 =>
      ul (v3 + 1) fun x12 =>
      f_X9_counted_81 fuel σ x11 x12
def f_X9_counted_54 : Nat → St → Int32 → Int32 → Option (Int32 × St)
  | 0, _, _, _ => none
  | fuel + 1, σ, v2, v3 =>
    if 4 ≤ v3 then
      some (v2, σ)
    else
      ui v3 4 <|
      ub (f_X2_sizeKnown σ v3.toNatClampNeg) fun r5 σ6 =>
      ul (v2 + r5) fun x7 =>
      ul (v3 + 1) fun x8 =>
      f_X9_counted_54 fuel σ6 x7 x8
def f_X9_counted (σ : St) (v1 : Int32) : Option (Int32 × St) :=
  if v1 = 0 then
    some ((σ 8 9), σ)
  else
    if v1 = 1 then
      ub (f_X8_sizeThere σ) fun r1 σ2 =>
      some (r1, σ2)
    else
      if v1 = 2 then
        f_X9_counted_54 fu σ 0 0
      else
        if v1 = 3 then
          f_X9_counted_81 fu σ 0 0
        else
          if v1 = 4 then
            some ((σ 80 2), σ)
          else
            some ((σ 83 3), σ)
theorem fi_X9_counted_0 : ∀ w ∈ u_ws RX0 TX0 3, w ∈ wsX9_counted := by decide +kernel
theorem fi_X9_counted_2 : ∀ w ∈ u_ws RX2 TX2 5, w ∈ wsX9_counted := by decide +kernel
theorem fi_X9_counted_7 : ∀ w ∈ u_ws RX7 TX7 4, w ∈ wsX9_counted := by decide +kernel
theorem fi_X9_counted_8 : ∀ w ∈ u_ws RX8 TX8 10, w ∈ wsX9_counted := by decide +kernel
theorem fi_X9_counted_9 : ∀ w ∈ u_ws RX9 TX9 14, w ∈ wsX9_counted := by decide +kernel
set_option maxHeartbeats 4000000 in
set_option maxRecDepth 100000 in
theorem w_X9_counted_81 {p : Program} {l : Launch} {e : Env} {s : State} {m : MethodId} {args : Array Value} {below : List Frame} {meth : Method} {c : Code} {D : va_G} {ad : Nat → Nat} {cs : Nat → ClassId} (C : uC p { frames := 2, cells := 0, slots := 0, locals := 43 } s m args c cX9_counted 4 wsX9_counted RX9 D vwCl (tyX cs) 99 ad (uAd 99 ad s.heap.size) 0 0) (hr : meth.sig.returnType = (some .int)) (hlk : meth.locks = false) {r : Int32} {σ' : St} :
    ∀ (n : Nat) (σ : St) (v2 : Int32) (v3 : Int32), f_X9_counted_81 n σ v2 v3 = some (r, σ') → ∀ (H : Heap) (locs : List Loc) (ls : Array Slot), uG D vwCl 99 ad (enX ad cs) (uAd 99 ad s.heap.size) s σ H locs → lv_has ls 4 [(0, .ref (ad 0)), (2, .int v2), (3, .int v3)] → W p l e { frames := 2, cells := 0, slots := 0, locals := 43 } s m args below meth c H locs 0 0 (MQ below (uQi D vwCl 99 ad (enX ad cs) r σ' s.heap.size) args s 0 0 (uAd 99 ad s.heap.size)) (F0 m 81 ls []) := by
  have hx := C.1.1
  have hb := C.1.2.1
  intro n
  induction n with
  | zero => intro σ v2 v3  h; exact absurd h (by simp [f_X9_counted_81])
  | succ fuel ih =>
    intro σ v2 v3  h H locs ls G hl
    rw [f_X9_counted_81] at h
    refine lv_iload_n hx hb dX9_counted_81 rfl (lv_at hl 2 rfl) ?_
    refine lv_iconst (v := 4) hx hb dX9_counted_82 (by decide) ?_
    refine lv_icmp_ge (tgt := 104) hx hb dX9_counted_83 (by decide) (fun q => ?_) (fun q => ?_)
    · have h := u_pos q h
      refine lv_iload_n hx hb dX9_counted_104 rfl (lv_at hl 1 rfl) ?_
      obtain ⟨rfl, rfl⟩ := u_end h
      exact u_iret hx hb hr hlk G dX9_counted_105
    · have h := u_neg q h
      refine lv_iload_n hx hb dX9_counted_86 rfl (lv_at hl 1 rfl) ?_
      refine lv_aload_n hx hb dX9_counted_87 rfl (lv_at hl 0 rfl) ?_
      refine u_get (v := .ref (ad 34)) C G obX_0 (ci := 9) (N := 14) (Cn := RX9) (T := TX9) rfl fi_X9_counted_9 2 (by decide) (by decide +kernel) rfl dX9_counted_88 ?_
      refine lv_iload_n hx hb dX9_counted_91 rfl (lv_at hl 2 rfl) ?_
      obtain ⟨g9, h⟩ := ui_of h
      refine u_aald C G rrX_34 (t0 := 3) rfl rfl g9 dX9_counted_92 (fun b10 => ?_)
      refine u_get (v := .int (σ (35 + 9 * v3.toNatClampNeg) 4)) C G (obX_line b10) (ci := 2) (N := 5) (Cn := RX2) (T := TX2) rfl fi_X9_counted_2 4 (by decide) (by decide +kernel) rfl dX9_counted_93 ?_
      refine lv_iadd hx hb dX9_counted_96 ?_
      obtain ⟨x11, ex11, h⟩ := ul_of h
      refine u_nmi ex11 ?_
      refine lv_istore_n (lv' := [(2, .int x11), (0, .ref (ad 0)), (3, .int v3)]) hx hb dX9_counted_97 rfl hl (by decide) rfl (fun ls hl => ?_)
      obtain ⟨x12, ex12, h⟩ := ul_of h
      refine lv_iinc (v := x12) (lv' := [(3, .int x12), (2, .int x11), (0, .ref (ad 0))]) hx hb dX9_counted_98 hl (k := 2) rfl (by rw [ex12]; rfl) (by decide) rfl (fun ls hl => ?_)
      refine lv_goto (tgt := 81) hx hb dX9_counted_101 (by decide) ?_
      exact ih σ x11 x12 h H locs ls G (lv_sub hl [2, 1, 0] rfl)
set_option maxHeartbeats 4000000 in
set_option maxRecDepth 100000 in
theorem w_X9_counted_54 {p : Program} {l : Launch} {e : Env} {s : State} {m : MethodId} {args : Array Value} {below : List Frame} {meth : Method} {c : Code} {D : va_G} {ad : Nat → Nat} {cs : Nat → ClassId} (C : uC p { frames := 2, cells := 0, slots := 0, locals := 43 } s m args c cX9_counted 4 wsX9_counted RX9 D vwCl (tyX cs) 99 ad (uAd 99 ad s.heap.size) 0 0) (hr : meth.sig.returnType = (some .int)) (hlk : meth.locks = false) {r : Int32} {σ' : St} :
    ∀ (n : Nat) (σ : St) (v2 : Int32) (v3 : Int32), f_X9_counted_54 n σ v2 v3 = some (r, σ') → ∀ (H : Heap) (locs : List Loc) (ls : Array Slot), uG D vwCl 99 ad (enX ad cs) (uAd 99 ad s.heap.size) s σ H locs → lv_has ls 4 [(0, .ref (ad 0)), (2, .int v2), (3, .int v3)] → W p l e { frames := 2, cells := 0, slots := 0, locals := 43 } s m args below meth c H locs 0 0 (MQ below (uQi D vwCl 99 ad (enX ad cs) r σ' s.heap.size) args s 0 0 (uAd 99 ad s.heap.size)) (F0 m 54 ls []) := by
  have hx := C.1.1
  have hb := C.1.2.1
  intro n
  induction n with
  | zero => intro σ v2 v3  h; exact absurd h (by simp [f_X9_counted_54])
  | succ fuel ih =>
    intro σ v2 v3  h H locs ls G hl
    rw [f_X9_counted_54] at h
    refine lv_iload_n hx hb dX9_counted_54 rfl (lv_at hl 2 rfl) ?_
    refine lv_iconst (v := 4) hx hb dX9_counted_55 (by decide) ?_
    refine lv_icmp_ge (tgt := 77) hx hb dX9_counted_56 (by decide) (fun q => ?_) (fun q => ?_)
    · have h := u_pos q h
      refine lv_iload_n hx hb dX9_counted_77 rfl (lv_at hl 1 rfl) ?_
      obtain ⟨rfl, rfl⟩ := u_end h
      exact u_iret hx hb hr hlk G dX9_counted_78
    · have h := u_neg q h
      refine lv_iload_n hx hb dX9_counted_59 rfl (lv_at hl 1 rfl) ?_
      refine lv_aload_n hx hb dX9_counted_60 rfl (lv_at hl 0 rfl) ?_
      refine u_get (v := .ref (ad 34)) C G obX_0 (ci := 9) (N := 14) (Cn := RX9) (T := TX9) rfl fi_X9_counted_9 2 (by decide) (by decide +kernel) rfl dX9_counted_61 ?_
      refine lv_iload_n hx hb dX9_counted_64 rfl (lv_at hl 2 rfl) ?_
      obtain ⟨g3, h⟩ := ui_of h
      refine u_aald C G rrX_34 (t0 := 3) rfl rfl g3 dX9_counted_65 (fun b4 => ?_)
      obtain ⟨r5, σ6, er5, h⟩ := ub_of h
      refine u_callVi (As := []) (rest := [.int v2]) C G (c_X2_sizeKnown l D ad cs C.2.2.1 σ v3.toNatClampNeg b4 r5 σ6 er5) (cwV 0 C.1.2.2.2.2 gX9_counted_X2_sizeKnown rfl rfl rfl (by decide +kernel) ⟨Nat.le_of_ble_eq_true rfl, Nat.le_of_ble_eq_true rfl⟩) (obX_line b4) (ci := 2) (T := TX2) rfl rfl hl rfl (Nat.le_of_ble_eq_true rfl) dX9_counted_66 (fun H locs G => ?_)
      refine lv_iadd hx hb dX9_counted_69 ?_
      obtain ⟨x7, ex7, h⟩ := ul_of h
      refine u_nmi ex7 ?_
      refine lv_istore_n (lv' := [(2, .int x7), (0, .ref (ad 0)), (3, .int v3)]) hx hb dX9_counted_70 rfl hl (by decide) rfl (fun ls hl => ?_)
      obtain ⟨x8, ex8, h⟩ := ul_of h
      refine lv_iinc (v := x8) (lv' := [(3, .int x8), (2, .int x7), (0, .ref (ad 0))]) hx hb dX9_counted_71 hl (k := 2) rfl (by rw [ex8]; rfl) (by decide) rfl (fun ls hl => ?_)
      refine lv_goto (tgt := 54) hx hb dX9_counted_74 (by decide) ?_
      exact ih σ6 x7 x8 h H locs ls G (lv_sub hl [2, 1, 0] rfl)
set_option maxHeartbeats 4000000 in
set_option maxRecDepth 100000 in
theorem c_X9_counted (l : Launch) (D : va_G) (ad : Nat → Nat) (cs : Nat → ClassId) (J : uJ 99 ad) (σ : St) (v1 : Int32) (r : Int32) (σ' : St) (h : f_X9_counted σ v1 = some (r, σ')) : uMi l yX9_counted wsX9_counted { frames := 2, cells := 0, slots := 0, locals := 43 } D vwCl (tyX cs) 99 ad (enX ad cs) [.ref (ad 0), .int v1] σ r σ' := by
  refine u_met (Qf := uQi D vwCl 99 ad (enX ad cs) r σ') (cc := cX9_counted) (maxL := 4) (ret := (some .int)) (lv := [(0, .ref (ad 0)), (1, .int v1)]) J (by decide) rfl (Nat.le_of_ble_eq_true rfl) rfl rfl rfl ?_
  intro p e s m args below meth c ls hx hb C hr hlk G hl
  unfold f_X9_counted at h
  obtain ⟨H, eH⟩ : ∃ H, H = s.heap := ⟨_, rfl⟩
  obtain ⟨locs, eL⟩ : ∃ locs : List Loc, locs = [] := ⟨_, rfl⟩
  refine u_start eH eL G ?_
  clear G eH eL
  intro G
  refine lv_iconst (v := 0) hx hb dX9_counted_0 (by decide) ?_
  refine lv_istore_n (lv' := [(2, .int 0), (0, .ref (ad 0)), (1, .int v1)]) hx hb dX9_counted_1 rfl hl (by decide) rfl (fun ls hl => ?_)
  refine lv_iload_n hx hb dX9_counted_2 rfl (lv_at hl 2 rfl) ?_
  by_cases q0 : v1 = 0
  · have h := u_pos q0 h
    refine lv_tableIn (off := 33) (tgt := 36) hx hb dX9_counted_3 (by rw [q0]; decide) (by rw [q0]; decide) (by rw [q0]; decide) (by decide) ?_
    refine lv_aload_n hx hb dX9_counted_36 rfl (lv_at hl 1 rfl) ?_
    refine u_get (v := .ref (ad 8)) C G obX_0 (ci := 9) (N := 14) (Cn := RX9) (T := TX9) rfl fi_X9_counted_9 1 (by decide) (by decide +kernel) rfl dX9_counted_37 ?_
    refine u_get (v := .int (σ 8 9)) C G obX_8 (ci := 8) (N := 10) (Cn := RX8) (T := TX8) rfl fi_X9_counted_8 9 (by decide) (by decide +kernel) rfl dX9_counted_40 ?_
    obtain ⟨rfl, rfl⟩ := u_end h
    exact u_iret hx hb hr hlk G dX9_counted_43
  · have h := u_neg q0 h
    by_cases q1 : v1 = 1
    · have h := u_pos q1 h
      refine lv_tableIn (off := 41) (tgt := 44) hx hb dX9_counted_3 (by rw [q1]; decide) (by rw [q1]; decide) (by rw [q1]; decide) (by decide) ?_
      refine lv_aload_n hx hb dX9_counted_44 rfl (lv_at hl 1 rfl) ?_
      refine u_get (v := .ref (ad 8)) C G obX_0 (ci := 9) (N := 14) (Cn := RX9) (T := TX9) rfl fi_X9_counted_9 1 (by decide) (by decide +kernel) rfl dX9_counted_45 ?_
      obtain ⟨r1, σ2, er1, h⟩ := ub_of h
      refine u_callVi (As := []) (rest := []) C G (c_X8_sizeThere l D ad cs C.2.2.1 σ r1 σ2 er1) (cwV 0 C.1.2.2.2.2 gX9_counted_X8_sizeThere rfl rfl rfl (by decide +kernel) ⟨Nat.le_of_ble_eq_true rfl, Nat.le_of_ble_eq_true rfl⟩) obX_8 (ci := 8) (T := TX8) rfl rfl hl rfl (Nat.le_of_ble_eq_true rfl) dX9_counted_48 (fun H locs G => ?_)
      obtain ⟨rfl, rfl⟩ := u_end h
      exact u_iret hx hb hr hlk G dX9_counted_51
    · have h := u_neg q1 h
      by_cases q2 : v1 = 2
      · have h := u_pos q2 h
        refine lv_tableIn (off := 49) (tgt := 52) hx hb dX9_counted_3 (by rw [q2]; decide) (by rw [q2]; decide) (by rw [q2]; decide) (by decide) ?_
        refine lv_iconst (v := 0) hx hb dX9_counted_52 (by decide) ?_
        refine lv_istore_n (lv' := [(3, .int 0), (2, .int 0), (0, .ref (ad 0)), (1, .int v1)]) hx hb dX9_counted_53 rfl hl (by decide) rfl (fun ls hl => ?_)
        exact w_X9_counted_54 C hr hlk fu σ 0 0 h H locs ls G (lv_sub hl [2, 1, 0] rfl)
      · have h := u_neg q2 h
        by_cases q3 : v1 = 3
        · have h := u_pos q3 h
          refine lv_tableIn (off := 76) (tgt := 79) hx hb dX9_counted_3 (by rw [q3]; decide) (by rw [q3]; decide) (by rw [q3]; decide) (by decide) ?_
          refine lv_iconst (v := 0) hx hb dX9_counted_79 (by decide) ?_
          refine lv_istore_n (lv' := [(3, .int 0), (2, .int 0), (0, .ref (ad 0)), (1, .int v1)]) hx hb dX9_counted_80 rfl hl (by decide) rfl (fun ls hl => ?_)
          exact w_X9_counted_81 C hr hlk fu σ 0 0 h H locs ls G (lv_sub hl [2, 1, 0] rfl)
        · have h := u_neg q3 h
          by_cases q4 : v1 = 4
          · have h := u_pos q4 h
            refine lv_tableIn (off := 103) (tgt := 106) hx hb dX9_counted_3 (by rw [q4]; decide) (by rw [q4]; decide) (by rw [q4]; decide) (by decide) ?_
            refine lv_aload_n hx hb dX9_counted_106 rfl (lv_at hl 1 rfl) ?_
            refine u_get (v := .ref (ad 80)) C G obX_0 (ci := 9) (N := 14) (Cn := RX9) (T := TX9) rfl fi_X9_counted_9 5 (by decide) (by decide +kernel) rfl dX9_counted_107 ?_
            refine u_get (v := .int (σ 80 2)) C G obX_80 (ci := 0) (N := 3) (Cn := RX0) (T := TX0) rfl fi_X9_counted_0 2 (by decide) (by decide +kernel) rfl dX9_counted_110 ?_
            obtain ⟨rfl, rfl⟩ := u_end h
            exact u_iret hx hb hr hlk G dX9_counted_113
          · have h := u_neg q4 h
            refine lv_tableOut (tgt := 114) hx hb dX9_counted_3 (by have := (trivial : True); have n0 := lv_neT q0 (a := 0) (by decide); have n1 := lv_neT q1 (a := 1) (by decide); have n2 := lv_neT q2 (a := 2) (by decide); have n3 := lv_neT q3 (a := 3) (by decide); have n4 := lv_neT q4 (a := 4) (by decide); omega) (by decide) ?_
            refine lv_aload_n hx hb dX9_counted_114 rfl (lv_at hl 1 rfl) ?_
            refine u_get (v := .ref (ad 83)) C G obX_0 (ci := 9) (N := 14) (Cn := RX9) (T := TX9) rfl fi_X9_counted_9 6 (by decide) (by decide +kernel) rfl dX9_counted_115 ?_
            refine u_get (v := .int (σ 83 3)) C G obX_83 (ci := 7) (N := 4) (Cn := RX7) (T := TX7) rfl fi_X9_counted_7 3 (by decide) (by decide +kernel) rfl dX9_counted_118 ?_
            obtain ⟨rfl, rfl⟩ := u_end h
            exact u_iret hx hb hr hlk G dX9_counted_121
/-! X9_count -/
def f_X9_count (σ : St) (v1 : Int32) : Option (Int32 × St) :=
  if v1 < 0 then
    some (((-1) : Int32), σ)
  else
    if v1 ≤ 5 then
      ub (f_X9_counted σ v1) fun r1 σ2 =>
      some (r1, σ2)
    else
      some (((-1) : Int32), σ)
set_option maxHeartbeats 4000000 in
set_option maxRecDepth 100000 in
theorem c_X9_count (l : Launch) (D : va_G) (ad : Nat → Nat) (cs : Nat → ClassId) (J : uJ 99 ad) (σ : St) (v1 : Int32) (r : Int32) (σ' : St) (h : f_X9_count σ v1 = some (r, σ')) : uMi l yX9_count wsX9_count { frames := 3, cells := 0, slots := 0, locals := 66 } D vwCl (tyX cs) 99 ad (enX ad cs) [.ref (ad 0), .int v1] σ r σ' := by
  refine u_met (Qf := uQi D vwCl 99 ad (enX ad cs) r σ') (cc := cX9_count) (maxL := 2) (ret := (some .int)) (lv := [(0, .ref (ad 0)), (1, .int v1)]) J (by decide) rfl (Nat.le_of_ble_eq_true rfl) rfl rfl rfl ?_
  intro p e s m args below meth c ls hx hb C hr hlk G hl
  unfold f_X9_count at h
  obtain ⟨H, eH⟩ : ∃ H, H = s.heap := ⟨_, rfl⟩
  obtain ⟨locs, eL⟩ : ∃ locs : List Loc, locs = [] := ⟨_, rfl⟩
  refine u_start eH eL G ?_
  clear G eH eL
  intro G
  refine lv_iload_n hx hb dX9_count_0 rfl (lv_at hl 1 rfl) ?_
  refine lv_if_lt (tgt := 9) hx hb dX9_count_1 (by decide) (fun q => ?_) (fun q => ?_)
  · have h := u_pos q h
    refine lv_iconst (v := (-1)) hx hb dX9_count_9 (by decide) ?_
    obtain ⟨rfl, rfl⟩ := u_end h
    exact u_iret hx hb hr hlk G dX9_count_10
  · have h := u_neg q h
    refine lv_iload_n hx hb dX9_count_4 rfl (lv_at hl 1 rfl) ?_
    refine lv_iconst (v := 5) hx hb dX9_count_5 (by decide) ?_
    refine lv_icmp_le (tgt := 11) hx hb dX9_count_6 (by decide) (fun q => ?_) (fun q => ?_)
    · have h := u_pos q h
      refine lv_aload_n hx hb dX9_count_11 rfl (lv_at hl 0 rfl) ?_
      refine lv_iload_n hx hb dX9_count_12 rfl (lv_at hl 1 rfl) ?_
      obtain ⟨r1, σ2, er1, h⟩ := ub_of h
      refine u_callVi (As := [.int v1]) (rest := []) C G (c_X9_counted l D ad cs C.2.2.1 σ v1 r1 σ2 er1) (cwV 1 C.1.2.2.2.2 gX9_count_X9_counted rfl rfl rfl (by decide +kernel) ⟨Nat.le_of_ble_eq_true rfl, Nat.le_of_ble_eq_true rfl⟩) obX_0 (ci := 9) (T := TX9) rfl rfl hl rfl (Nat.le_of_ble_eq_true rfl) dX9_count_13 (fun H locs G => ?_)
      obtain ⟨rfl, rfl⟩ := u_end h
      exact u_iret hx hb hr hlk G dX9_count_16
    · have h := u_neg q h
      refine lv_iconst (v := (-1)) hx hb dX9_count_9 (by decide) ?_
      obtain ⟨rfl, rfl⟩ := u_end h
      exact u_iret hx hb hr hlk G dX9_count_10
/-! X9_finding -/
def f_X9_finding (σ : St) : Option (Int32 × St) :=
  some ((σ 0 12), σ)
theorem fi_X9_finding_9 : ∀ w ∈ u_ws RX9 TX9 14, w ∈ wsX9_finding := by decide +kernel
set_option maxHeartbeats 4000000 in
set_option maxRecDepth 100000 in
theorem c_X9_finding (l : Launch) (D : va_G) (ad : Nat → Nat) (cs : Nat → ClassId) (J : uJ 99 ad) (σ : St) (r : Int32) (σ' : St) (h : f_X9_finding σ = some (r, σ')) : uMi l yX9_finding wsX9_finding { frames := 0, cells := 0, slots := 0, locals := 0 } D vwCl (tyX cs) 99 ad (enX ad cs) [.ref (ad 0)] σ r σ' := by
  refine u_met (Qf := uQi D vwCl 99 ad (enX ad cs) r σ') (cc := cX9_finding) (maxL := 1) (ret := (some .int)) (lv := [(0, .ref (ad 0))]) J (by decide) rfl (Nat.le_of_ble_eq_true rfl) rfl rfl rfl ?_
  intro p e s m args below meth c ls hx hb C hr hlk G hl
  unfold f_X9_finding at h
  obtain ⟨H, eH⟩ : ∃ H, H = s.heap := ⟨_, rfl⟩
  obtain ⟨locs, eL⟩ : ∃ locs : List Loc, locs = [] := ⟨_, rfl⟩
  refine u_start eH eL G ?_
  clear G eH eL
  intro G
  refine lv_aload_n hx hb dX9_finding_0 rfl (lv_at hl 0 rfl) ?_
  refine u_get (v := .int (σ 0 12)) C G obX_0 (ci := 9) (N := 14) (Cn := RX9) (T := TX9) rfl fi_X9_finding_9 12 (by decide) (by decide +kernel) rfl dX9_finding_1 ?_
  obtain ⟨rfl, rfl⟩ := u_end h
  exact u_iret hx hb hr hlk G dX9_finding_4
/-! X9_findings -/
def f_X9_findings (σ : St) (v1 : Int32) : Option (Int32 × St) :=
  if v1 < 1 then
    some (((-1) : Int32), σ)
  else
    if v1 ≤ 5 then
      ui v1 6 <|
      some ((σ 98 v1.toNatClampNeg), σ)
    else
      some (((-1) : Int32), σ)
theorem fi_X9_findings_9 : ∀ w ∈ u_ws RX9 TX9 14, w ∈ wsX9_findings := by decide +kernel
set_option maxHeartbeats 4000000 in
set_option maxRecDepth 100000 in
theorem c_X9_findings (l : Launch) (D : va_G) (ad : Nat → Nat) (cs : Nat → ClassId) (J : uJ 99 ad) (σ : St) (v1 : Int32) (r : Int32) (σ' : St) (h : f_X9_findings σ v1 = some (r, σ')) : uMi l yX9_findings wsX9_findings { frames := 0, cells := 0, slots := 0, locals := 0 } D vwCl (tyX cs) 99 ad (enX ad cs) [.ref (ad 0), .int v1] σ r σ' := by
  refine u_met (Qf := uQi D vwCl 99 ad (enX ad cs) r σ') (cc := cX9_findings) (maxL := 2) (ret := (some .int)) (lv := [(0, .ref (ad 0)), (1, .int v1)]) J (by decide) rfl (Nat.le_of_ble_eq_true rfl) rfl rfl rfl ?_
  intro p e s m args below meth c ls hx hb C hr hlk G hl
  unfold f_X9_findings at h
  obtain ⟨H, eH⟩ : ∃ H, H = s.heap := ⟨_, rfl⟩
  obtain ⟨locs, eL⟩ : ∃ locs : List Loc, locs = [] := ⟨_, rfl⟩
  refine u_start eH eL G ?_
  clear G eH eL
  intro G
  refine lv_iload_n hx hb dX9_findings_0 rfl (lv_at hl 1 rfl) ?_
  refine lv_iconst (v := 1) hx hb dX9_findings_1 (by decide) ?_
  refine lv_icmp_lt (tgt := 10) hx hb dX9_findings_2 (by decide) (fun q => ?_) (fun q => ?_)
  · have h := u_pos q h
    refine lv_iconst (v := (-1)) hx hb dX9_findings_10 (by decide) ?_
    obtain ⟨rfl, rfl⟩ := u_end h
    exact u_iret hx hb hr hlk G dX9_findings_11
  · have h := u_neg q h
    refine lv_iload_n hx hb dX9_findings_5 rfl (lv_at hl 1 rfl) ?_
    refine lv_iconst (v := 5) hx hb dX9_findings_6 (by decide) ?_
    refine lv_icmp_le (tgt := 12) hx hb dX9_findings_7 (by decide) (fun q => ?_) (fun q => ?_)
    · have h := u_pos q h
      refine lv_aload_n hx hb dX9_findings_12 rfl (lv_at hl 0 rfl) ?_
      refine u_get (v := .ref (ad 98)) C G obX_0 (ci := 9) (N := 14) (Cn := RX9) (T := TX9) rfl fi_X9_findings_9 11 (by decide) (by decide +kernel) rfl dX9_findings_13 ?_
      refine lv_iload_n hx hb dX9_findings_16 rfl (lv_at hl 1 rfl) ?_
      obtain ⟨g1, h⟩ := ui_of h
      refine u_iald C G arX_98 (t0 := 0) rfl g1 dX9_findings_17 ?_
      obtain ⟨rfl, rfl⟩ := u_end h
      exact u_iret hx hb hr hlk G dX9_findings_18
    · have h := u_neg q h
      refine lv_iconst (v := (-1)) hx hb dX9_findings_10 (by decide) ?_
      obtain ⟨rfl, rfl⟩ := u_end h
      exact u_iret hx hb hr hlk G dX9_findings_11
/-! X9_digest -/
def f_X9_digest_65 : Nat → St → Int64 → Int32 → Option (Int64 × St)
  | 0, _, _, _ => none
  | fuel + 1, σ, v1, v3 =>
    if 4 ≤ v3 then
      ub (f_X5_digestFrom σ v1) fun r13 σ14 =>
      some (r13, σ14)
    else
      ui v3 4 <|
      ub (f_X2_digestLayers σ v3.toNatClampNeg v1) fun r17 σ18 =>
      ul (v3 + 1) fun x19 =>
      f_X9_digest_65 fuel σ18 r17 x19
def f_X9_digest_41 : Nat → St → Int64 → Int32 → Option (Int64 × St)
  | 0, _, _, _ => none
  | fuel + 1, σ, v1, v3 =>
    if 4 ≤ v3 then
      f_X9_digest_65 fu σ v1 0
    else
      ui v3 4 <|
      ub (f_X2_digestCells σ v3.toNatClampNeg v1) fun r10 σ11 =>
      ul (v3 + 1) fun x12 =>
      f_X9_digest_41 fuel σ11 r10 x12
def f_X9_digest_6 : Nat → St → Int64 → Int32 → Option (Int64 × St)
  | 0, _, _, _ => none
  | fuel + 1, σ, v1, v3 =>
    if 5 < v3 then
      ub (f_X8_digestFrom σ v1) fun r2 σ3 =>
      f_X9_digest_41 fu σ3 r2 0
    else
      ub (f_X9_counted σ v3) fun r4 σ5 =>
      ul ((31 * v1) + r4.toInt64) fun x6 =>
      ul (v3 + 1) fun x7 =>
      f_X9_digest_6 fuel σ5 x6 x7
def f_X9_digest (σ : St) : Option (Int64 × St) :=
  ul 17 fun x1 =>
  f_X9_digest_6 fu σ x1 0
theorem fi_X9_digest_9 : ∀ w ∈ u_ws RX9 TX9 14, w ∈ wsX9_digest := by decide +kernel
set_option maxHeartbeats 4000000 in
set_option maxRecDepth 100000 in
theorem w_X9_digest_65 {p : Program} {l : Launch} {e : Env} {s : State} {m : MethodId} {args : Array Value} {below : List Frame} {meth : Method} {c : Code} {D : va_G} {ad : Nat → Nat} {cs : Nat → ClassId} (C : uC p { frames := 4, cells := 0, slots := 0, locals := 95 } s m args c cX9_digest 4 wsX9_digest RX9 D vwCl (tyX cs) 99 ad (uAd 99 ad s.heap.size) 0 0) (hr : meth.sig.returnType = (some .long)) (hlk : meth.locks = false) {r : Int64} {σ' : St} :
    ∀ (n : Nat) (σ : St) (v1 : Int64) (v3 : Int32), f_X9_digest_65 n σ v1 v3 = some (r, σ') → ∀ (H : Heap) (locs : List Loc) (ls : Array Slot), uG D vwCl 99 ad (enX ad cs) (uAd 99 ad s.heap.size) s σ H locs → lv_has ls 4 [(0, .ref (ad 0)), (1, .long v1), (3, .int v3)] → W p l e { frames := 4, cells := 0, slots := 0, locals := 95 } s m args below meth c H locs 0 0 (MQ below (uQl D vwCl 99 ad (enX ad cs) r σ' s.heap.size) args s 0 0 (uAd 99 ad s.heap.size)) (F0 m 65 ls []) := by
  have hx := C.1.1
  have hb := C.1.2.1
  intro n
  induction n with
  | zero => intro σ v1 v3  h; exact absurd h (by simp [f_X9_digest_65])
  | succ fuel ih =>
    intro σ v1 v3  h H locs ls G hl
    rw [f_X9_digest_65] at h
    refine lv_iload_n hx hb dX9_digest_65 rfl (lv_at hl 2 rfl) ?_
    refine lv_iconst (v := 4) hx hb dX9_digest_66 (by decide) ?_
    refine lv_icmp_ge (tgt := 87) hx hb dX9_digest_67 (by decide) (fun q => ?_) (fun q => ?_)
    · have h := u_pos q h
      refine lv_aload_n hx hb dX9_digest_87 rfl (lv_at hl 0 rfl) ?_
      refine u_get (v := .ref (ad 1)) C G obX_0 (ci := 9) (N := 14) (Cn := RX9) (T := TX9) rfl fi_X9_digest_9 0 (by decide) (by decide +kernel) rfl dX9_digest_88 ?_
      refine lv_lload_n hx hb dX9_digest_91 rfl (lv_at hl 1 rfl) ?_
      obtain ⟨r13, σ14, er13, h⟩ := ub_of h
      refine u_callVl (As := [.long v1]) (rest := []) C G (c_X5_digestFrom l D ad cs C.2.2.1 σ v1 r13 σ14 er13) (cwV 1 C.1.2.2.2.2 gX9_digest_X5_digestFrom rfl rfl rfl (by decide +kernel) ⟨Nat.le_of_ble_eq_true rfl, Nat.le_of_ble_eq_true rfl⟩) obX_1 (ci := 5) (T := TX5) rfl rfl hl rfl (Nat.le_of_ble_eq_true rfl) dX9_digest_92 (fun H locs G => ?_)
      obtain ⟨rfl, rfl⟩ := u_end h
      exact u_lret hx hb hr hlk G dX9_digest_95
    · have h := u_neg q h
      refine lv_aload_n hx hb dX9_digest_70 rfl (lv_at hl 0 rfl) ?_
      refine u_get (v := .ref (ad 34)) C G obX_0 (ci := 9) (N := 14) (Cn := RX9) (T := TX9) rfl fi_X9_digest_9 2 (by decide) (by decide +kernel) rfl dX9_digest_71 ?_
      refine lv_iload_n hx hb dX9_digest_74 rfl (lv_at hl 2 rfl) ?_
      obtain ⟨g15, h⟩ := ui_of h
      refine u_aald C G rrX_34 (t0 := 3) rfl rfl g15 dX9_digest_75 (fun b16 => ?_)
      refine lv_lload_n hx hb dX9_digest_76 rfl (lv_at hl 1 rfl) ?_
      obtain ⟨r17, σ18, er17, h⟩ := ub_of h
      refine u_callVl (As := [.long v1]) (rest := []) C G (c_X2_digestLayers l D ad cs C.2.2.1 σ v3.toNatClampNeg v1 b16 r17 σ18 er17) (cwV 1 C.1.2.2.2.2 gX9_digest_X2_digestLayers rfl rfl rfl (by decide +kernel) ⟨Nat.le_of_ble_eq_true rfl, Nat.le_of_ble_eq_true rfl⟩) (obX_line b16) (ci := 2) (T := TX2) rfl rfl hl rfl (Nat.le_of_ble_eq_true rfl) dX9_digest_77 (fun H locs G => ?_)
      refine lv_lstore_n (lv' := [(1, .long r17), (0, .ref (ad 0)), (3, .int v3)]) hx hb dX9_digest_80 rfl hl (by decide) rfl (fun ls hl => ?_)
      obtain ⟨x19, ex19, h⟩ := ul_of h
      refine lv_iinc (v := x19) (lv' := [(3, .int x19), (1, .long r17), (0, .ref (ad 0))]) hx hb dX9_digest_81 hl (k := 2) rfl (by rw [ex19]; rfl) (by decide) rfl (fun ls hl => ?_)
      refine lv_goto (tgt := 65) hx hb dX9_digest_84 (by decide) ?_
      exact ih σ18 r17 x19 h H locs ls G (lv_sub hl [2, 1, 0] rfl)
set_option maxHeartbeats 4000000 in
set_option maxRecDepth 100000 in
theorem w_X9_digest_41 {p : Program} {l : Launch} {e : Env} {s : State} {m : MethodId} {args : Array Value} {below : List Frame} {meth : Method} {c : Code} {D : va_G} {ad : Nat → Nat} {cs : Nat → ClassId} (C : uC p { frames := 4, cells := 0, slots := 0, locals := 95 } s m args c cX9_digest 4 wsX9_digest RX9 D vwCl (tyX cs) 99 ad (uAd 99 ad s.heap.size) 0 0) (hr : meth.sig.returnType = (some .long)) (hlk : meth.locks = false) {r : Int64} {σ' : St} :
    ∀ (n : Nat) (σ : St) (v1 : Int64) (v3 : Int32), f_X9_digest_41 n σ v1 v3 = some (r, σ') → ∀ (H : Heap) (locs : List Loc) (ls : Array Slot), uG D vwCl 99 ad (enX ad cs) (uAd 99 ad s.heap.size) s σ H locs → lv_has ls 4 [(0, .ref (ad 0)), (1, .long v1), (3, .int v3)] → W p l e { frames := 4, cells := 0, slots := 0, locals := 95 } s m args below meth c H locs 0 0 (MQ below (uQl D vwCl 99 ad (enX ad cs) r σ' s.heap.size) args s 0 0 (uAd 99 ad s.heap.size)) (F0 m 41 ls []) := by
  have hx := C.1.1
  have hb := C.1.2.1
  intro n
  induction n with
  | zero => intro σ v1 v3  h; exact absurd h (by simp [f_X9_digest_41])
  | succ fuel ih =>
    intro σ v1 v3  h H locs ls G hl
    rw [f_X9_digest_41] at h
    refine lv_iload_n hx hb dX9_digest_41 rfl (lv_at hl 2 rfl) ?_
    refine lv_iconst (v := 4) hx hb dX9_digest_42 (by decide) ?_
    refine lv_icmp_ge (tgt := 63) hx hb dX9_digest_43 (by decide) (fun q => ?_) (fun q => ?_)
    · have h := u_pos q h
      refine lv_iconst (v := 0) hx hb dX9_digest_63 (by decide) ?_
      refine lv_istore_n (lv' := [(3, .int 0), (0, .ref (ad 0)), (1, .long v1)]) hx hb dX9_digest_64 rfl hl (by decide) rfl (fun ls hl => ?_)
      exact w_X9_digest_65 C hr hlk fu σ v1 0 h H locs ls G (lv_sub hl [1, 2, 0] rfl)
    · have h := u_neg q h
      refine lv_aload_n hx hb dX9_digest_46 rfl (lv_at hl 0 rfl) ?_
      refine u_get (v := .ref (ad 34)) C G obX_0 (ci := 9) (N := 14) (Cn := RX9) (T := TX9) rfl fi_X9_digest_9 2 (by decide) (by decide +kernel) rfl dX9_digest_47 ?_
      refine lv_iload_n hx hb dX9_digest_50 rfl (lv_at hl 2 rfl) ?_
      obtain ⟨g8, h⟩ := ui_of h
      refine u_aald C G rrX_34 (t0 := 3) rfl rfl g8 dX9_digest_51 (fun b9 => ?_)
      refine lv_lload_n hx hb dX9_digest_52 rfl (lv_at hl 1 rfl) ?_
      obtain ⟨r10, σ11, er10, h⟩ := ub_of h
      refine u_callVl (As := [.long v1]) (rest := []) C G (c_X2_digestCells l D ad cs C.2.2.1 σ v3.toNatClampNeg v1 b9 r10 σ11 er10) (cwV 1 C.1.2.2.2.2 gX9_digest_X2_digestCells rfl rfl rfl (by decide +kernel) ⟨Nat.le_of_ble_eq_true rfl, Nat.le_of_ble_eq_true rfl⟩) (obX_line b9) (ci := 2) (T := TX2) rfl rfl hl rfl (Nat.le_of_ble_eq_true rfl) dX9_digest_53 (fun H locs G => ?_)
      refine lv_lstore_n (lv' := [(1, .long r10), (0, .ref (ad 0)), (3, .int v3)]) hx hb dX9_digest_56 rfl hl (by decide) rfl (fun ls hl => ?_)
      obtain ⟨x12, ex12, h⟩ := ul_of h
      refine lv_iinc (v := x12) (lv' := [(3, .int x12), (1, .long r10), (0, .ref (ad 0))]) hx hb dX9_digest_57 hl (k := 2) rfl (by rw [ex12]; rfl) (by decide) rfl (fun ls hl => ?_)
      refine lv_goto (tgt := 41) hx hb dX9_digest_60 (by decide) ?_
      exact ih σ11 r10 x12 h H locs ls G (lv_sub hl [2, 1, 0] rfl)
set_option maxHeartbeats 4000000 in
set_option maxRecDepth 100000 in
theorem w_X9_digest_6 {p : Program} {l : Launch} {e : Env} {s : State} {m : MethodId} {args : Array Value} {below : List Frame} {meth : Method} {c : Code} {D : va_G} {ad : Nat → Nat} {cs : Nat → ClassId} (C : uC p { frames := 4, cells := 0, slots := 0, locals := 95 } s m args c cX9_digest 4 wsX9_digest RX9 D vwCl (tyX cs) 99 ad (uAd 99 ad s.heap.size) 0 0) (hr : meth.sig.returnType = (some .long)) (hlk : meth.locks = false) {r : Int64} {σ' : St} :
    ∀ (n : Nat) (σ : St) (v1 : Int64) (v3 : Int32), f_X9_digest_6 n σ v1 v3 = some (r, σ') → ∀ (H : Heap) (locs : List Loc) (ls : Array Slot), uG D vwCl 99 ad (enX ad cs) (uAd 99 ad s.heap.size) s σ H locs → lv_has ls 4 [(0, .ref (ad 0)), (1, .long v1), (3, .int v3)] → W p l e { frames := 4, cells := 0, slots := 0, locals := 95 } s m args below meth c H locs 0 0 (MQ below (uQl D vwCl 99 ad (enX ad cs) r σ' s.heap.size) args s 0 0 (uAd 99 ad s.heap.size)) (F0 m 6 ls []) := by
  have hx := C.1.1
  have hb := C.1.2.1
  intro n
  induction n with
  | zero => intro σ v1 v3  h; exact absurd h (by simp [f_X9_digest_6])
  | succ fuel ih =>
    intro σ v1 v3  h H locs ls G hl
    rw [f_X9_digest_6] at h
    refine lv_iload_n hx hb dX9_digest_6 rfl (lv_at hl 2 rfl) ?_
    refine lv_iconst (v := 5) hx hb dX9_digest_7 (by decide) ?_
    refine lv_icmp_gt (tgt := 30) hx hb dX9_digest_8 (by decide) (fun q => ?_) (fun q => ?_)
    · have h := u_pos q h
      refine lv_aload_n hx hb dX9_digest_30 rfl (lv_at hl 0 rfl) ?_
      refine u_get (v := .ref (ad 8)) C G obX_0 (ci := 9) (N := 14) (Cn := RX9) (T := TX9) rfl fi_X9_digest_9 1 (by decide) (by decide +kernel) rfl dX9_digest_31 ?_
      refine lv_lload_n hx hb dX9_digest_34 rfl (lv_at hl 1 rfl) ?_
      obtain ⟨r2, σ3, er2, h⟩ := ub_of h
      refine u_callVl (As := [.long v1]) (rest := []) C G (c_X8_digestFrom l D ad cs C.2.2.1 σ v1 r2 σ3 er2) (cwV 1 C.1.2.2.2.2 gX9_digest_X8_digestFrom rfl rfl rfl (by decide +kernel) ⟨Nat.le_of_ble_eq_true rfl, Nat.le_of_ble_eq_true rfl⟩) obX_8 (ci := 8) (T := TX8) rfl rfl hl rfl (Nat.le_of_ble_eq_true rfl) dX9_digest_35 (fun H locs G => ?_)
      refine lv_lstore_n (lv' := [(1, .long r2), (0, .ref (ad 0)), (3, .int v3)]) hx hb dX9_digest_38 rfl hl (by decide) rfl (fun ls hl => ?_)
      refine lv_iconst (v := 0) hx hb dX9_digest_39 (by decide) ?_
      refine lv_istore_n (lv' := [(3, .int 0), (1, .long r2), (0, .ref (ad 0))]) hx hb dX9_digest_40 rfl hl (by decide) rfl (fun ls hl => ?_)
      exact w_X9_digest_41 C hr hlk fu σ3 r2 0 h H locs ls G (lv_sub hl [2, 1, 0] rfl)
    · have h := u_neg q h
      refine lv_ldc2 (v := 31) hx hb C.1.2.2.2.1 (C.1.2.2.2.2 (.constantLong RX9 359 31) (by decide +kernel)) dX9_digest_11 ?_
      refine lv_lload_n hx hb dX9_digest_14 rfl (lv_at hl 1 rfl) ?_
      refine lv_lmul hx hb dX9_digest_15 ?_
      refine lv_aload_n hx hb dX9_digest_16 rfl (lv_at hl 0 rfl) ?_
      refine lv_iload_n hx hb dX9_digest_17 rfl (lv_at hl 2 rfl) ?_
      obtain ⟨r4, σ5, er4, h⟩ := ub_of h
      refine u_callVi (As := [.int v3]) (rest := [.long (31 * v1)]) C G (c_X9_counted l D ad cs C.2.2.1 σ v3 r4 σ5 er4) (cwV 1 C.1.2.2.2.2 gX9_digest_X9_counted rfl rfl rfl (by decide +kernel) ⟨Nat.le_of_ble_eq_true rfl, Nat.le_of_ble_eq_true rfl⟩) obX_0 (ci := 9) (T := TX9) rfl rfl hl rfl (Nat.le_of_ble_eq_true rfl) dX9_digest_18 (fun H locs G => ?_)
      refine lv_i2l hx hb dX9_digest_21 rfl ?_
      refine lv_ladd hx hb dX9_digest_22 ?_
      obtain ⟨x6, ex6, h⟩ := ul_of h
      refine u_nml ex6 ?_
      refine lv_lstore_n (lv' := [(1, .long x6), (0, .ref (ad 0)), (3, .int v3)]) hx hb dX9_digest_23 rfl hl (by decide) rfl (fun ls hl => ?_)
      obtain ⟨x7, ex7, h⟩ := ul_of h
      refine lv_iinc (v := x7) (lv' := [(3, .int x7), (1, .long x6), (0, .ref (ad 0))]) hx hb dX9_digest_24 hl (k := 2) rfl (by rw [ex7]; rfl) (by decide) rfl (fun ls hl => ?_)
      refine lv_goto (tgt := 6) hx hb dX9_digest_27 (by decide) ?_
      exact ih σ5 x6 x7 h H locs ls G (lv_sub hl [2, 1, 0] rfl)
set_option maxHeartbeats 4000000 in
set_option maxRecDepth 100000 in
theorem c_X9_digest (l : Launch) (D : va_G) (ad : Nat → Nat) (cs : Nat → ClassId) (J : uJ 99 ad) (σ : St) (r : Int64) (σ' : St) (h : f_X9_digest σ = some (r, σ')) : uMl l yX9_digest wsX9_digest { frames := 4, cells := 0, slots := 0, locals := 95 } D vwCl (tyX cs) 99 ad (enX ad cs) [.ref (ad 0)] σ r σ' := by
  refine u_met (Qf := uQl D vwCl 99 ad (enX ad cs) r σ') (cc := cX9_digest) (maxL := 4) (ret := (some .long)) (lv := [(0, .ref (ad 0))]) J (by decide) rfl (Nat.le_of_ble_eq_true rfl) rfl rfl rfl ?_
  intro p e s m args below meth c ls hx hb C hr hlk G hl
  unfold f_X9_digest at h
  obtain ⟨H, eH⟩ : ∃ H, H = s.heap := ⟨_, rfl⟩
  obtain ⟨locs, eL⟩ : ∃ locs : List Loc, locs = [] := ⟨_, rfl⟩
  refine u_start eH eL G ?_
  clear G eH eL
  intro G
  refine lv_ldc2 (v := 17) hx hb C.1.2.2.2.1 (C.1.2.2.2.2 (.constantLong RX9 357 17) (by decide +kernel)) dX9_digest_0 ?_
  obtain ⟨x1, ex1, h⟩ := ul_of h
  refine u_nml ex1 ?_
  refine lv_lstore_n (lv' := [(1, .long x1), (0, .ref (ad 0))]) hx hb dX9_digest_3 rfl hl (by decide) rfl (fun ls hl => ?_)
  refine lv_iconst (v := 0) hx hb dX9_digest_4 (by decide) ?_
  refine lv_istore_n (lv' := [(3, .int 0), (1, .long x1), (0, .ref (ad 0))]) hx hb dX9_digest_5 rfl hl (by decide) rfl (fun ls hl => ?_)
  exact w_X9_digest_6 C hr hlk fu σ x1 0 h H locs ls G (lv_sub hl [2, 1, 0] rfl)
