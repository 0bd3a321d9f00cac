/-! X10_two -/
def f_X10_two_83 (k58 : St → Int32 → Int32 → Int32 → Int32 → Int32 → Int32 → Option (Int32 × St)) : Nat → St → Int32 → Int32 → Int32 → Int32 → Int32 → Int32 → Int32 → Int32 → Option (Int32 × St)
  | 0, _, _, _, _, _, _, _, _, _ => none
  | fuel + 1, σ, v1, v2, v3, v4, v5, v6, v7, v8 =>
    if (10 * (σ 0 7)) ≤ v8 then
      ul (v6 + 1) fun x22 =>
      k58 σ v1 v2 v3 v4 v5 x22
    else
      if v7 = 0 then
        ul (v6 + 1) fun x23 =>
        k58 σ v1 v2 v3 v4 v5 x23
      else
        if (v6 / 10) = (v8 / 10) then
          ul (v8 + 1) fun x24 =>
          f_X10_two_83 k58 fuel σ v1 v2 v3 v4 v5 v6 v7 x24
        else
          ub (f_X10_can σ v1 v8 v3) fun r25 σ26 =>
          if r25 = 0 then
            ul (v8 + 1) fun x27 =>
            f_X10_two_83 k58 fuel σ26 v1 v2 v3 v4 v5 v6 v7 x27
          else
            if v5 = v4 then
              ub (f_X10_keepLayers σ26 v1 (1 : Int32)) fun r34 σ35 =>
              some (((-6) : Int32), σ35)
            else
              ul (v5 + 1) fun x28 =>
              ub (f_X10_tryTwo σ26 v1 (v6 / 10) (v6 - v6 / 10 * 10) v2 (v8 / 10) (v8 - v8 / 10 * 10) v3) fun r29 σ30 =>
              ub (f_X10_tryTwo σ30 v1 (v8 / 10) (v8 - v8 / 10 * 10) v3 (v6 / 10) (v6 - v6 / 10 * 10) v2) fun r31 σ32 =>
              ul (v8 + 1) fun x33 =>
              f_X10_two_83 k58 fuel σ32 v1 v2 v3 v4 x28 v6 v7 x33
def f_X10_two_58 : Nat → St → Int32 → Int32 → Int32 → Int32 → Int32 → Int32 → Option (Int32 × St)
  | 0, _, _, _, _, _, _, _ => none
  | fuel + 1, σ, v1, v2, v3, v4, v5, v6 =>
    if (10 * (σ 0 7)) ≤ v6 then
      if (σ 0 24) = (-9) then
        ub (f_X10_keepLayers σ v1 (1 : Int32)) fun r18 σ19 =>
        some (((-9) : Int32), σ19)
      else
        ui v1 4 <|
        ul (us σ 16 v1.toNatClampNeg 0) fun σ13 =>
        ub (f_X10_lays σ13 v1 (σ13 20 (0 : Int32).toNatClampNeg) (σ13 20 (1 : Int32).toNatClampNeg) (σ13 20 (2 : Int32).toNatClampNeg)) fun r14 σ15 =>
        ub (f_X10_lays σ15 v1 (σ15 20 (3 : Int32).toNatClampNeg) (σ15 20 (4 : Int32).toNatClampNeg) (σ15 20 (5 : Int32).toNatClampNeg)) fun r16 σ17 =>
        some ((σ17 0 24), σ17)
    else
      ub (f_X10_can σ v1 v6 v2) fun r20 σ21 =>
      f_X10_two_83 (f_X10_two_58 fuel) fu σ21 v1 v2 v3 v4 v5 v6 r20 0
def f_X10_two (σ : St) (v1 : Int32) (v2 : Int32) (v3 : Int32) (v4 : Int32) : Option (Int32 × St) :=
  ub (f_X10_isLine σ v1) fun r1 σ2 =>
  if r1 = 0 then
    some (((-1) : Int32), σ2)
  else
    ub (f_X10_isColour σ2 v2) fun r3 σ4 =>
    if r3 = 0 then
      some (((-1) : Int32), σ4)
    else
      ub (f_X10_isColour σ4 v3) fun r5 σ6 =>
      if r5 = 0 then
        some (((-1) : Int32), σ6)
      else
        if v2 = v3 then
          some (((-1) : Int32), σ6)
        else
          ub (f_X10_in σ6 v4 (1 : Int32) (20000 : Int32)) fun r7 σ8 =>
          if r7 = 0 then
            some (((-1) : Int32), σ8)
          else
            ub (f_X10_keepLayers σ8 v1 (0 : Int32)) fun r9 σ10 =>
            ul (us σ10 0 24 (-9)) fun σ11 =>
            f_X10_two_58 fu σ11 v1 v2 v3 v4 0 0
theorem fi_X10_two_10 : ∀ w ∈ u_ws RX10 TX10 44, w ∈ wsX10_two := by decide +kernel
set_option maxHeartbeats 4000000 in
set_option maxRecDepth 100000 in
theorem w_X10_two_83 {p : Program} {l : Launch} {e : Env} {s : State} {m : MethodId} {args : Array Value} {below : List Frame} {meth : Method} {c : Code} {D : va_G} {ad : Nat → Nat} {cs : Nat → ClassId} (C : uC p { frames := 4, cells := 0, slots := 0, locals := 102 } s m args c cX10_two 9 wsX10_two RX10 D vwCl (tyM cs) 34 ad (uAd 34 ad s.heap.size) 0 0) (hr : meth.sig.returnType = (some .int)) (hlk : meth.locks = false) {r : Int32} {σ' : St} {k58 : St → Int32 → Int32 → Int32 → Int32 → Int32 → Int32 → Option (Int32 × St)} (hk58 : ∀ (σ : St) (v1 : Int32) (v2 : Int32) (v3 : Int32) (v4 : Int32) (v5 : Int32) (v6 : Int32), k58 σ v1 v2 v3 v4 v5 v6 = some (r, σ') → ∀ (H : Heap) (locs : List Loc) (ls : Array Slot), uG D vwCl 34 ad (enM ad cs) (uAd 34 ad s.heap.size) s σ H locs → lv_has ls 9 [(0, .ref (ad 0)), (1, .int v1), (2, .int v2), (3, .int v3), (4, .int v4), (5, .int v5), (6, .int v6)] → W p l e { frames := 4, cells := 0, slots := 0, locals := 102 } s m args below meth c H locs 0 0 (MQ below (uQi D vwCl 34 ad (enM ad cs) r σ' s.heap.size) args s 0 0 (uAd 34 ad s.heap.size)) (F0 m 58 ls [])) :
    ∀ (n : Nat) (σ : St) (v1 : Int32) (v2 : Int32) (v3 : Int32) (v4 : Int32) (v5 : Int32) (v6 : Int32) (v7 : Int32) (v8 : Int32), f_X10_two_83 k58 n σ v1 v2 v3 v4 v5 v6 v7 v8 = some (r, σ') → ∀ (H : Heap) (locs : List Loc) (ls : Array Slot), uG D vwCl 34 ad (enM ad cs) (uAd 34 ad s.heap.size) s σ H locs → lv_has ls 9 [(0, .ref (ad 0)), (1, .int v1), (2, .int v2), (3, .int v3), (4, .int v4), (5, .int v5), (6, .int v6), (7, .int v7), (8, .int v8)] → W p l e { frames := 4, cells := 0, slots := 0, locals := 102 } s m args below meth c H locs 0 0 (MQ below (uQi D vwCl 34 ad (enM ad cs) r σ' s.heap.size) args s 0 0 (uAd 34 ad s.heap.size)) (F0 m 83 ls []) := by
  have hx := C.1.1
  have hb := C.1.2.1
  intro n
  induction n with
  | zero => intro σ v1 v2 v3 v4 v5 v6 v7 v8  h; exact absurd h (by simp [f_X10_two_83])
  | succ fuel ih =>
    intro σ v1 v2 v3 v4 v5 v6 v7 v8  h H locs ls G hl
    rw [f_X10_two_83] at h
    refine lv_iload hx hb dX10_two_83 (lv_at hl 8 rfl) ?_
    refine lv_bipush (v := 10) hx hb dX10_two_85 (by decide) ?_
    refine lv_aload_n hx hb dX10_two_87 rfl (lv_at hl 0 rfl) ?_
    refine u_get (v := .int (σ 0 7)) C G obM_0 (ci := 10) (N := 44) (Cn := RX10) (T := TX10) rfl fi_X10_two_10 7 (by decide) (by decide +kernel) rfl dX10_two_88 ?_
    refine lv_imul hx hb dX10_two_91 ?_
    refine lv_icmp_ge (tgt := 203) hx hb dX10_two_92 (by decide) (fun q => ?_) (fun q => ?_)
    · have h := u_pos q h
      obtain ⟨x22, ex22, h⟩ := ul_of h
      refine lv_iinc (v := x22) (lv' := [(6, .int x22), (0, .ref (ad 0)), (1, .int v1), (2, .int v2), (3, .int v3), (4, .int v4), (5, .int v5), (7, .int v7), (8, .int v8)]) hx hb dX10_two_203 hl (k := 6) rfl (by rw [ex22]; rfl) (by decide) rfl (fun ls hl => ?_)
      refine lv_goto (tgt := 58) hx hb dX10_two_206 (by decide) ?_
      exact hk58 σ v1 v2 v3 v4 v5 x22 h H locs ls G (lv_sub hl [1, 2, 3, 4, 5, 6, 0] rfl)
    · have h := u_neg q h
      refine lv_iload hx hb dX10_two_95 (lv_at hl 7 rfl) ?_
      refine lv_if_eq (tgt := 203) hx hb dX10_two_97 (by decide) (fun q => ?_) (fun q => ?_)
      · have h := u_pos q h
        obtain ⟨x23, ex23, h⟩ := ul_of h
        refine lv_iinc (v := x23) (lv' := [(6, .int x23), (0, .ref (ad 0)), (1, .int v1), (2, .int v2), (3, .int v3), (4, .int v4), (5, .int v5), (7, .int v7), (8, .int v8)]) hx hb dX10_two_203 hl (k := 6) rfl (by rw [ex23]; rfl) (by decide) rfl (fun ls hl => ?_)
        refine lv_goto (tgt := 58) hx hb dX10_two_206 (by decide) ?_
        exact hk58 σ v1 v2 v3 v4 v5 x23 h H locs ls G (lv_sub hl [1, 2, 3, 4, 5, 6, 0] rfl)
      · have h := u_neg q h
        refine lv_iload hx hb dX10_two_100 (lv_at hl 6 rfl) ?_
        refine lv_bipush (v := 10) hx hb dX10_two_102 (by decide) ?_
        refine lv_idiv hx hb dX10_two_104 (by decide) ?_
        refine lv_iload hx hb dX10_two_105 (lv_at hl 8 rfl) ?_
        refine lv_bipush (v := 10) hx hb dX10_two_107 (by decide) ?_
        refine lv_idiv hx hb dX10_two_109 (by decide) ?_
        refine lv_icmp_eq (tgt := 197) hx hb dX10_two_110 (by decide) (fun q => ?_) (fun q => ?_)
        · have h := u_pos q h
          obtain ⟨x24, ex24, h⟩ := ul_of h
          refine lv_iinc (v := x24) (lv' := [(8, .int x24), (0, .ref (ad 0)), (1, .int v1), (2, .int v2), (3, .int v3), (4, .int v4), (5, .int v5), (6, .int v6), (7, .int v7)]) hx hb dX10_two_197 hl (k := 8) rfl (by rw [ex24]; rfl) (by decide) rfl (fun ls hl => ?_)
          refine lv_goto (tgt := 83) hx hb dX10_two_200 (by decide) ?_
          exact ih σ v1 v2 v3 v4 v5 v6 v7 x24 h H locs ls G (lv_sub hl [1, 2, 3, 4, 5, 6, 7, 8, 0] rfl)
        · have h := u_neg q h
          refine lv_aload_n hx hb dX10_two_113 rfl (lv_at hl 0 rfl) ?_
          refine lv_iload_n hx hb dX10_two_114 rfl (lv_at hl 1 rfl) ?_
          refine lv_iload hx hb dX10_two_115 (lv_at hl 8 rfl) ?_
          refine lv_iload_n hx hb dX10_two_117 rfl (lv_at hl 3 rfl) ?_
          obtain ⟨r25, σ26, er25, h⟩ := ub_of h
          refine u_callVi (As := [.int v1, .int v8, .int v3]) (rest := []) C G (c_X10_can l D ad cs C.2.2.1 σ v1 v8 v3 r25 σ26 er25) (cwV 3 C.1.2.2.2.2 gX10_two_X10_can rfl rfl rfl (by decide +kernel) ⟨Nat.le_of_ble_eq_true rfl, Nat.le_of_ble_eq_true rfl⟩) obM_0 (ci := 10) (T := TX10) rfl rfl hl rfl (Nat.le_of_ble_eq_true rfl) dX10_two_118 (fun H locs G => ?_)
          refine lv_if_eq (tgt := 197) hx hb dX10_two_121 (by decide) (fun q => ?_) (fun q => ?_)
          · have h := u_pos q h
            obtain ⟨x27, ex27, h⟩ := ul_of h
            refine lv_iinc (v := x27) (lv' := [(8, .int x27), (0, .ref (ad 0)), (1, .int v1), (2, .int v2), (3, .int v3), (4, .int v4), (5, .int v5), (6, .int v6), (7, .int v7)]) hx hb dX10_two_197 hl (k := 8) rfl (by rw [ex27]; rfl) (by decide) rfl (fun ls hl => ?_)
            refine lv_goto (tgt := 83) hx hb dX10_two_200 (by decide) ?_
            exact ih σ26 v1 v2 v3 v4 v5 v6 v7 x27 h H locs ls G (lv_sub hl [1, 2, 3, 4, 5, 6, 7, 8, 0] rfl)
          · have h := u_neg q h
            refine lv_iload hx hb dX10_two_124 (lv_at hl 5 rfl) ?_
            refine lv_iload hx hb dX10_two_126 (lv_at hl 4 rfl) ?_
            refine lv_icmp_ne (tgt := 140) hx hb dX10_two_128 (by decide) (fun q => ?_) (fun q => ?_)
            · have h := u_neg q h
              obtain ⟨x28, ex28, h⟩ := ul_of h
              refine lv_iinc (v := x28) (lv' := [(5, .int x28), (0, .ref (ad 0)), (1, .int v1), (2, .int v2), (3, .int v3), (4, .int v4), (6, .int v6), (7, .int v7), (8, .int v8)]) hx hb dX10_two_140 hl (k := 5) rfl (by rw [ex28]; rfl) (by decide) rfl (fun ls hl => ?_)
              refine lv_aload_n hx hb dX10_two_143 rfl (lv_at hl 1 rfl) ?_
              refine lv_iload_n hx hb dX10_two_144 rfl (lv_at hl 2 rfl) ?_
              refine lv_iload hx hb dX10_two_145 (lv_at hl 6 rfl) ?_
              refine lv_bipush (v := 10) hx hb dX10_two_147 (by decide) ?_
              refine lv_idiv hx hb dX10_two_149 (by decide) ?_
              refine lv_iload hx hb dX10_two_150 (lv_at hl 6 rfl) ?_
              refine lv_bipush (v := 10) hx hb dX10_two_152 (by decide) ?_
              refine lv_irem hx hb dX10_two_154 (by decide) ?_
              refine lv_iload_n hx hb dX10_two_155 rfl (lv_at hl 3 rfl) ?_
              refine lv_iload hx hb dX10_two_156 (lv_at hl 8 rfl) ?_
              refine lv_bipush (v := 10) hx hb dX10_two_158 (by decide) ?_
              refine lv_idiv hx hb dX10_two_160 (by decide) ?_
              refine lv_iload hx hb dX10_two_161 (lv_at hl 8 rfl) ?_
              refine lv_bipush (v := 10) hx hb dX10_two_163 (by decide) ?_
              refine lv_irem hx hb dX10_two_165 (by decide) ?_
              refine lv_iload_n hx hb dX10_two_166 rfl (lv_at hl 4 rfl) ?_
              obtain ⟨r29, σ30, er29, h⟩ := ub_of h
              refine u_callVv (As := [.int v1, .int (v6 / 10), .int (v6 - v6 / 10 * 10), .int v2, .int (v8 / 10), .int (v8 - v8 / 10 * 10), .int v3]) (rest := []) C G (c_X10_tryTwo l D ad cs C.2.2.1 σ26 v1 (v6 / 10) (v6 - v6 / 10 * 10) v2 (v8 / 10) (v8 - v8 / 10 * 10) v3 r29 σ30 er29) (cwV 7 C.1.2.2.2.2 gX10_two_X10_tryTwo rfl rfl rfl (by decide +kernel) ⟨Nat.le_of_ble_eq_true rfl, Nat.le_of_ble_eq_true rfl⟩) obM_0 (ci := 10) (T := TX10) rfl rfl hl rfl (Nat.le_of_ble_eq_true rfl) dX10_two_167 (fun H locs G => ?_)
              refine lv_aload_n hx hb dX10_two_170 rfl (lv_at hl 1 rfl) ?_
              refine lv_iload_n hx hb dX10_two_171 rfl (lv_at hl 2 rfl) ?_
              refine lv_iload hx hb dX10_two_172 (lv_at hl 8 rfl) ?_
              refine lv_bipush (v := 10) hx hb dX10_two_174 (by decide) ?_
              refine lv_idiv hx hb dX10_two_176 (by decide) ?_
              refine lv_iload hx hb dX10_two_177 (lv_at hl 8 rfl) ?_
              refine lv_bipush (v := 10) hx hb dX10_two_179 (by decide) ?_
              refine lv_irem hx hb dX10_two_181 (by decide) ?_
              refine lv_iload_n hx hb dX10_two_182 rfl (lv_at hl 4 rfl) ?_
              refine lv_iload hx hb dX10_two_183 (lv_at hl 6 rfl) ?_
              refine lv_bipush (v := 10) hx hb dX10_two_185 (by decide) ?_
              refine lv_idiv hx hb dX10_two_187 (by decide) ?_
              refine lv_iload hx hb dX10_two_188 (lv_at hl 6 rfl) ?_
              refine lv_bipush (v := 10) hx hb dX10_two_190 (by decide) ?_
              refine lv_irem hx hb dX10_two_192 (by decide) ?_
              refine lv_iload_n hx hb dX10_two_193 rfl (lv_at hl 3 rfl) ?_
              obtain ⟨r31, σ32, er31, h⟩ := ub_of h
              refine u_callVv (As := [.int v1, .int (v8 / 10), .int (v8 - v8 / 10 * 10), .int v3, .int (v6 / 10), .int (v6 - v6 / 10 * 10), .int v2]) (rest := []) C G (c_X10_tryTwo l D ad cs C.2.2.1 σ30 v1 (v8 / 10) (v8 - v8 / 10 * 10) v3 (v6 / 10) (v6 - v6 / 10 * 10) v2 r31 σ32 er31) (cwV 7 C.1.2.2.2.2 gX10_two_X10_tryTwo rfl rfl rfl (by decide +kernel) ⟨Nat.le_of_ble_eq_true rfl, Nat.le_of_ble_eq_true rfl⟩) obM_0 (ci := 10) (T := TX10) rfl rfl hl rfl (Nat.le_of_ble_eq_true rfl) dX10_two_194 (fun H locs G => ?_)
              obtain ⟨x33, ex33, h⟩ := ul_of h
              refine lv_iinc (v := x33) (lv' := [(8, .int x33), (5, .int x28), (0, .ref (ad 0)), (1, .int v1), (2, .int v2), (3, .int v3), (4, .int v4), (6, .int v6), (7, .int v7)]) hx hb dX10_two_197 hl (k := 8) rfl (by rw [ex33]; rfl) (by decide) rfl (fun ls hl => ?_)
              refine lv_goto (tgt := 83) hx hb dX10_two_200 (by decide) ?_
              exact ih σ32 v1 v2 v3 v4 x28 v6 v7 x33 h H locs ls G (lv_sub hl [2, 3, 4, 5, 6, 1, 7, 8, 0] rfl)
            · have h := u_pos q h
              refine lv_aload_n hx hb dX10_two_131 rfl (lv_at hl 0 rfl) ?_
              refine lv_iload_n hx hb dX10_two_132 rfl (lv_at hl 1 rfl) ?_
              refine lv_iconst (v := 1) hx hb dX10_two_133 (by decide) ?_
              obtain ⟨r34, σ35, er34, h⟩ := ub_of h
              refine u_callVv (As := [.int v1, .int 1]) (rest := []) C G (c_X10_keepLayers l D ad cs C.2.2.1 σ26 v1 (1 : Int32) r34 σ35 er34) (cwV 2 C.1.2.2.2.2 gX10_two_X10_keepLayers rfl rfl rfl (by decide +kernel) ⟨Nat.le_of_ble_eq_true rfl, Nat.le_of_ble_eq_true rfl⟩) obM_0 (ci := 10) (T := TX10) rfl rfl hl rfl (Nat.le_of_ble_eq_true rfl) dX10_two_134 (fun H locs G => ?_)
              refine lv_bipush (v := (-6)) hx hb dX10_two_137 (by decide) ?_
              obtain ⟨rfl, rfl⟩ := u_end h
              exact u_iret hx hb hr hlk G dX10_two_139
set_option maxHeartbeats 4000000 in
set_option maxRecDepth 100000 in
theorem w_X10_two_58 {p : Program} {l : Launch} {e : Env} {s : State} {m : MethodId} {args : Array Value} {below : List Frame} {meth : Method} {c : Code} {D : va_G} {ad : Nat → Nat} {cs : Nat → ClassId} (C : uC p { frames := 4, cells := 0, slots := 0, locals := 102 } s m args c cX10_two 9 wsX10_two RX10 D vwCl (tyM cs) 34 ad (uAd 34 ad s.heap.size) 0 0) (hr : meth.sig.returnType = (some .int)) (hlk : meth.locks = false) {r : Int32} {σ' : St} :
    ∀ (n : Nat) (σ : St) (v1 : Int32) (v2 : Int32) (v3 : Int32) (v4 : Int32) (v5 : Int32) (v6 : Int32), f_X10_two_58 n σ v1 v2 v3 v4 v5 v6 = some (r, σ') → ∀ (H : Heap) (locs : List Loc) (ls : Array Slot), uG D vwCl 34 ad (enM ad cs) (uAd 34 ad s.heap.size) s σ H locs → lv_has ls 9 [(0, .ref (ad 0)), (1, .int v1), (2, .int v2), (3, .int v3), (4, .int v4), (5, .int v5), (6, .int v6)] → W p l e { frames := 4, cells := 0, slots := 0, locals := 102 } s m args below meth c H locs 0 0 (MQ below (uQi D vwCl 34 ad (enM ad cs) r σ' s.heap.size) args s 0 0 (uAd 34 ad s.heap.size)) (F0 m 58 ls []) := by
  have hx := C.1.1
  have hb := C.1.2.1
  intro n
  induction n with
  | zero => intro σ v1 v2 v3 v4 v5 v6  h; exact absurd h (by simp [f_X10_two_58])
  | succ fuel ih =>
    intro σ v1 v2 v3 v4 v5 v6  h H locs ls G hl
    rw [f_X10_two_58] at h
    refine lv_iload hx hb dX10_two_58 (lv_at hl 6 rfl) ?_
    refine lv_bipush (v := 10) hx hb dX10_two_60 (by decide) ?_
    refine lv_aload_n hx hb dX10_two_62 rfl (lv_at hl 0 rfl) ?_
    refine u_get (v := .int (σ 0 7)) C G obM_0 (ci := 10) (N := 44) (Cn := RX10) (T := TX10) rfl fi_X10_two_10 7 (by decide) (by decide +kernel) rfl dX10_two_63 ?_
    refine lv_imul hx hb dX10_two_66 ?_
    refine lv_icmp_ge (tgt := 209) hx hb dX10_two_67 (by decide) (fun q => ?_) (fun q => ?_)
    · have h := u_pos q h
      refine lv_aload_n hx hb dX10_two_209 rfl (lv_at hl 0 rfl) ?_
      refine u_get (v := .int (σ 0 24)) C G obM_0 (ci := 10) (N := 44) (Cn := RX10) (T := TX10) rfl fi_X10_two_10 24 (by decide) (by decide +kernel) rfl dX10_two_210 ?_
      refine lv_bipush (v := (-9)) hx hb dX10_two_213 (by decide) ?_
      refine lv_icmp_ne (tgt := 227) hx hb dX10_two_215 (by decide) (fun q => ?_) (fun q => ?_)
      · have h := u_neg q h
        refine lv_aload_n hx hb dX10_two_227 rfl (lv_at hl 0 rfl) ?_
        refine u_get (v := .ref (ad 16)) C G obM_0 (ci := 10) (N := 44) (Cn := RX10) (T := TX10) rfl fi_X10_two_10 19 (by decide) (by decide +kernel) rfl dX10_two_228 ?_
        refine lv_iload_n hx hb dX10_two_231 rfl (lv_at hl 1 rfl) ?_
        refine lv_iconst (v := 0) hx hb dX10_two_232 (by decide) ?_
        obtain ⟨g12, h⟩ := ui_of h
        refine u_iast C G arM_16 (t0 := 0) rfl g12 dX10_two_233 (fun H locs G => ?_)
        obtain ⟨σ13, eσ13, h⟩ := ul_of h
        replace G := uG_eq eσ13 G
        refine lv_aload_n hx hb dX10_two_234 rfl (lv_at hl 0 rfl) ?_
        refine lv_iload_n hx hb dX10_two_235 rfl (lv_at hl 1 rfl) ?_
        refine lv_aload_n hx hb dX10_two_236 rfl (lv_at hl 0 rfl) ?_
        refine u_get (v := .ref (ad 20)) C G obM_0 (ci := 10) (N := 44) (Cn := RX10) (T := TX10) rfl fi_X10_two_10 23 (by decide) (by decide +kernel) rfl dX10_two_237 ?_
        refine lv_iconst (v := 0) hx hb dX10_two_240 (by decide) ?_
        refine u_iald C G arM_20 (t0 := 0) rfl (vp_lit (by decide)) dX10_two_241 ?_
        refine lv_aload_n hx hb dX10_two_242 rfl (lv_at hl 0 rfl) ?_
        refine u_get (v := .ref (ad 20)) C G obM_0 (ci := 10) (N := 44) (Cn := RX10) (T := TX10) rfl fi_X10_two_10 23 (by decide) (by decide +kernel) rfl dX10_two_243 ?_
        refine lv_iconst (v := 1) hx hb dX10_two_246 (by decide) ?_
        refine u_iald C G arM_20 (t0 := 0) rfl (vp_lit (by decide)) dX10_two_247 ?_
        refine lv_aload_n hx hb dX10_two_248 rfl (lv_at hl 0 rfl) ?_
        refine u_get (v := .ref (ad 20)) C G obM_0 (ci := 10) (N := 44) (Cn := RX10) (T := TX10) rfl fi_X10_two_10 23 (by decide) (by decide +kernel) rfl dX10_two_249 ?_
        refine lv_iconst (v := 2) hx hb dX10_two_252 (by decide) ?_
        refine u_iald C G arM_20 (t0 := 0) rfl (vp_lit (by decide)) dX10_two_253 ?_
        obtain ⟨r14, σ15, er14, h⟩ := ub_of h
        refine u_callVv (As := [.int v1, .int (σ13 20 (0 : Int32).toNatClampNeg), .int (σ13 20 (1 : Int32).toNatClampNeg), .int (σ13 20 (2 : Int32).toNatClampNeg)]) (rest := []) C G (c_X10_lays l D ad cs C.2.2.1 σ13 v1 (σ13 20 (0 : Int32).toNatClampNeg) (σ13 20 (1 : Int32).toNatClampNeg) (σ13 20 (2 : Int32).toNatClampNeg) r14 σ15 er14) (cwV 4 C.1.2.2.2.2 gX10_two_X10_lays rfl rfl rfl (by decide +kernel) ⟨Nat.le_of_ble_eq_true rfl, Nat.le_of_ble_eq_true rfl⟩) obM_0 (ci := 10) (T := TX10) rfl rfl hl rfl (Nat.le_of_ble_eq_true rfl) dX10_two_254 (fun H locs G => ?_)
        refine lv_aload_n hx hb dX10_two_257 rfl (lv_at hl 0 rfl) ?_
        refine lv_iload_n hx hb dX10_two_258 rfl (lv_at hl 1 rfl) ?_
        refine lv_aload_n hx hb dX10_two_259 rfl (lv_at hl 0 rfl) ?_
        refine u_get (v := .ref (ad 20)) C G obM_0 (ci := 10) (N := 44) (Cn := RX10) (T := TX10) rfl fi_X10_two_10 23 (by decide) (by decide +kernel) rfl dX10_two_260 ?_
        refine lv_iconst (v := 3) hx hb dX10_two_263 (by decide) ?_
        refine u_iald C G arM_20 (t0 := 0) rfl (vp_lit (by decide)) dX10_two_264 ?_
        refine lv_aload_n hx hb dX10_two_265 rfl (lv_at hl 0 rfl) ?_
        refine u_get (v := .ref (ad 20)) C G obM_0 (ci := 10) (N := 44) (Cn := RX10) (T := TX10) rfl fi_X10_two_10 23 (by decide) (by decide +kernel) rfl dX10_two_266 ?_
        refine lv_iconst (v := 4) hx hb dX10_two_269 (by decide) ?_
        refine u_iald C G arM_20 (t0 := 0) rfl (vp_lit (by decide)) dX10_two_270 ?_
        refine lv_aload_n hx hb dX10_two_271 rfl (lv_at hl 0 rfl) ?_
        refine u_get (v := .ref (ad 20)) C G obM_0 (ci := 10) (N := 44) (Cn := RX10) (T := TX10) rfl fi_X10_two_10 23 (by decide) (by decide +kernel) rfl dX10_two_272 ?_
        refine lv_iconst (v := 5) hx hb dX10_two_275 (by decide) ?_
        refine u_iald C G arM_20 (t0 := 0) rfl (vp_lit (by decide)) dX10_two_276 ?_
        obtain ⟨r16, σ17, er16, h⟩ := ub_of h
        refine u_callVv (As := [.int v1, .int (σ15 20 (3 : Int32).toNatClampNeg), .int (σ15 20 (4 : Int32).toNatClampNeg), .int (σ15 20 (5 : Int32).toNatClampNeg)]) (rest := []) C G (c_X10_lays l D ad cs C.2.2.1 σ15 v1 (σ15 20 (3 : Int32).toNatClampNeg) (σ15 20 (4 : Int32).toNatClampNeg) (σ15 20 (5 : Int32).toNatClampNeg) r16 σ17 er16) (cwV 4 C.1.2.2.2.2 gX10_two_X10_lays rfl rfl rfl (by decide +kernel) ⟨Nat.le_of_ble_eq_true rfl, Nat.le_of_ble_eq_true rfl⟩) obM_0 (ci := 10) (T := TX10) rfl rfl hl rfl (Nat.le_of_ble_eq_true rfl) dX10_two_277 (fun H locs G => ?_)
        refine lv_aload_n hx hb dX10_two_280 rfl (lv_at hl 0 rfl) ?_
        refine u_get (v := .int (σ17 0 24)) C G obM_0 (ci := 10) (N := 44) (Cn := RX10) (T := TX10) rfl fi_X10_two_10 24 (by decide) (by decide +kernel) rfl dX10_two_281 ?_
        obtain ⟨rfl, rfl⟩ := u_end h
        exact u_iret hx hb hr hlk G dX10_two_284
      · have h := u_pos q h
        refine lv_aload_n hx hb dX10_two_218 rfl (lv_at hl 0 rfl) ?_
        refine lv_iload_n hx hb dX10_two_219 rfl (lv_at hl 1 rfl) ?_
        refine lv_iconst (v := 1) hx hb dX10_two_220 (by decide) ?_
        obtain ⟨r18, σ19, er18, h⟩ := ub_of h
        refine u_callVv (As := [.int v1, .int 1]) (rest := []) C G (c_X10_keepLayers l D ad cs C.2.2.1 σ v1 (1 : Int32) r18 σ19 er18) (cwV 2 C.1.2.2.2.2 gX10_two_X10_keepLayers rfl rfl rfl (by decide +kernel) ⟨Nat.le_of_ble_eq_true rfl, Nat.le_of_ble_eq_true rfl⟩) obM_0 (ci := 10) (T := TX10) rfl rfl hl rfl (Nat.le_of_ble_eq_true rfl) dX10_two_221 (fun H locs G => ?_)
        refine lv_bipush (v := (-9)) hx hb dX10_two_224 (by decide) ?_
        obtain ⟨rfl, rfl⟩ := u_end h
        exact u_iret hx hb hr hlk G dX10_two_226
    · have h := u_neg q h
      refine lv_aload_n hx hb dX10_two_70 rfl (lv_at hl 0 rfl) ?_
      refine lv_iload_n hx hb dX10_two_71 rfl (lv_at hl 1 rfl) ?_
      refine lv_iload hx hb dX10_two_72 (lv_at hl 6 rfl) ?_
      refine lv_iload_n hx hb dX10_two_74 rfl (lv_at hl 2 rfl) ?_
      obtain ⟨r20, σ21, er20, h⟩ := ub_of h
      refine u_callVi (As := [.int v1, .int v6, .int v2]) (rest := []) C G (c_X10_can l D ad cs C.2.2.1 σ v1 v6 v2 r20 σ21 er20) (cwV 3 C.1.2.2.2.2 gX10_two_X10_can rfl rfl rfl (by decide +kernel) ⟨Nat.le_of_ble_eq_true rfl, Nat.le_of_ble_eq_true rfl⟩) obM_0 (ci := 10) (T := TX10) rfl rfl hl rfl (Nat.le_of_ble_eq_true rfl) dX10_two_75 (fun H locs G => ?_)
      refine lv_istore (lv' := [(7, .int r20), (0, .ref (ad 0)), (1, .int v1), (2, .int v2), (3, .int v3), (4, .int v4), (5, .int v5), (6, .int v6)]) hx hb dX10_two_78 hl (by decide) rfl (fun ls hl => ?_)
      refine lv_iconst (v := 0) hx hb dX10_two_80 (by decide) ?_
      refine lv_istore (lv' := [(8, .int 0), (7, .int r20), (0, .ref (ad 0)), (1, .int v1), (2, .int v2), (3, .int v3), (4, .int v4), (5, .int v5), (6, .int v6)]) hx hb dX10_two_81 hl (by decide) rfl (fun ls hl => ?_)
      exact w_X10_two_83 C hr hlk ih fu σ21 v1 v2 v3 v4 v5 v6 r20 0 h H locs ls G (lv_sub hl [2, 3, 4, 5, 6, 7, 8, 1, 0] rfl)
set_option maxHeartbeats 4000000 in
set_option maxRecDepth 100000 in
theorem c_X10_two (l : Launch) (D : va_G) (ad : Nat → Nat) (cs : Nat → ClassId) (J : uJ 34 ad) (σ : St) (v1 : Int32) (v2 : Int32) (v3 : Int32) (v4 : Int32) (r : Int32) (σ' : St) (h : f_X10_two σ v1 v2 v3 v4 = some (r, σ')) : uMi l yX10_two wsX10_two { frames := 4, cells := 0, slots := 0, locals := 102 } D vwCl (tyM cs) 34 ad (enM ad cs) [.ref (ad 0), .int v1, .int v2, .int v3, .int v4] σ r σ' := by
  refine u_met (Qf := uQi D vwCl 34 ad (enM ad cs) r σ') (cc := cX10_two) (maxL := 9) (ret := (some .int)) (lv := [(0, .ref (ad 0)), (1, .int v1), (2, .int v2), (3, .int v3), (4, .int v4)]) J (by decide) rfl (Nat.le_of_ble_eq_true rfl) rfl rfl rfl ?_
  intro p e s m args below meth c ls hx hb C hr hlk G hl
  unfold f_X10_two at h
  obtain ⟨H, eH⟩ : ∃ H, H = s.heap := ⟨_, rfl⟩
  obtain ⟨locs, eL⟩ : ∃ locs : List Loc, locs = [] := ⟨_, rfl⟩
  refine u_start eH eL G ?_
  clear G eH eL
  intro G
  refine lv_iload_n hx hb dX10_two_0 rfl (lv_at hl 1 rfl) ?_
  obtain ⟨r1, σ2, er1, h⟩ := ub_of h
  refine u_callSi (As := [.int v1]) (rest := []) C G (c_X10_isLine l D ad cs C.2.2.1 σ v1 r1 σ2 er1) (va_cwS 1 C.1.2.2.2.2 gX10_two_X10_isLine rfl rfl rfl (by decide +kernel) ⟨Nat.le_of_ble_eq_true rfl, Nat.le_of_ble_eq_true rfl⟩) rfl hl rfl (Nat.le_of_ble_eq_true rfl) dX10_two_1 (fun H locs G => ?_)
  refine lv_if_eq (tgt := 38) hx hb dX10_two_4 (by decide) (fun q => ?_) (fun q => ?_)
  · have h := u_pos q h
    refine lv_iconst (v := (-1)) hx hb dX10_two_38 (by decide) ?_
    obtain ⟨rfl, rfl⟩ := u_end h
    exact u_iret hx hb hr hlk G dX10_two_39
  · have h := u_neg q h
    refine lv_iload_n hx hb dX10_two_7 rfl (lv_at hl 2 rfl) ?_
    obtain ⟨r3, σ4, er3, h⟩ := ub_of h
    refine u_callSi (As := [.int v2]) (rest := []) C G (c_X10_isColour l D ad cs C.2.2.1 σ2 v2 r3 σ4 er3) (va_cwS 1 C.1.2.2.2.2 gX10_two_X10_isColour rfl rfl rfl (by decide +kernel) ⟨Nat.le_of_ble_eq_true rfl, Nat.le_of_ble_eq_true rfl⟩) rfl hl rfl (Nat.le_of_ble_eq_true rfl) dX10_two_8 (fun H locs G => ?_)
    refine lv_if_eq (tgt := 38) hx hb dX10_two_11 (by decide) (fun q => ?_) (fun q => ?_)
    · have h := u_pos q h
      refine lv_iconst (v := (-1)) hx hb dX10_two_38 (by decide) ?_
      obtain ⟨rfl, rfl⟩ := u_end h
      exact u_iret hx hb hr hlk G dX10_two_39
    · have h := u_neg q h
      refine lv_iload_n hx hb dX10_two_14 rfl (lv_at hl 3 rfl) ?_
      obtain ⟨r5, σ6, er5, h⟩ := ub_of h
      refine u_callSi (As := [.int v3]) (rest := []) C G (c_X10_isColour l D ad cs C.2.2.1 σ4 v3 r5 σ6 er5) (va_cwS 1 C.1.2.2.2.2 gX10_two_X10_isColour rfl rfl rfl (by decide +kernel) ⟨Nat.le_of_ble_eq_true rfl, Nat.le_of_ble_eq_true rfl⟩) rfl hl rfl (Nat.le_of_ble_eq_true rfl) dX10_two_15 (fun H locs G => ?_)
      refine lv_if_eq (tgt := 38) hx hb dX10_two_18 (by decide) (fun q => ?_) (fun q => ?_)
      · have h := u_pos q h
        refine lv_iconst (v := (-1)) hx hb dX10_two_38 (by decide) ?_
        obtain ⟨rfl, rfl⟩ := u_end h
        exact u_iret hx hb hr hlk G dX10_two_39
      · have h := u_neg q h
        refine lv_iload_n hx hb dX10_two_21 rfl (lv_at hl 2 rfl) ?_
        refine lv_iload_n hx hb dX10_two_22 rfl (lv_at hl 3 rfl) ?_
        refine lv_icmp_eq (tgt := 38) hx hb dX10_two_23 (by decide) (fun q => ?_) (fun q => ?_)
        · have h := u_pos q h
          refine lv_iconst (v := (-1)) hx hb dX10_two_38 (by decide) ?_
          obtain ⟨rfl, rfl⟩ := u_end h
          exact u_iret hx hb hr hlk G dX10_two_39
        · have h := u_neg q h
          refine lv_iload hx hb dX10_two_26 (lv_at hl 4 rfl) ?_
          refine lv_iconst (v := 1) hx hb dX10_two_28 (by decide) ?_
          refine lv_sipush (v := 20000) hx hb dX10_two_29 (by decide) ?_
          obtain ⟨r7, σ8, er7, h⟩ := ub_of h
          refine u_callSi (As := [.int v4, .int 1, .int 20000]) (rest := []) C G (c_X10_in l D ad cs C.2.2.1 σ6 v4 (1 : Int32) (20000 : Int32) r7 σ8 er7) (va_cwS 3 C.1.2.2.2.2 gX10_two_X10_in rfl rfl rfl (by decide +kernel) ⟨Nat.le_of_ble_eq_true rfl, Nat.le_of_ble_eq_true rfl⟩) rfl hl rfl (Nat.le_of_ble_eq_true rfl) dX10_two_32 (fun H locs G => ?_)
          refine lv_if_ne (tgt := 40) hx hb dX10_two_35 (by decide) (fun q => ?_) (fun q => ?_)
          · have h := u_neg q h
            refine lv_aload_n hx hb dX10_two_40 rfl (lv_at hl 0 rfl) ?_
            refine lv_iload_n hx hb dX10_two_41 rfl (lv_at hl 1 rfl) ?_
            refine lv_iconst (v := 0) hx hb dX10_two_42 (by decide) ?_
            obtain ⟨r9, σ10, er9, h⟩ := ub_of h
            refine u_callVv (As := [.int v1, .int 0]) (rest := []) C G (c_X10_keepLayers l D ad cs C.2.2.1 σ8 v1 (0 : Int32) r9 σ10 er9) (cwV 2 C.1.2.2.2.2 gX10_two_X10_keepLayers rfl rfl rfl (by decide +kernel) ⟨Nat.le_of_ble_eq_true rfl, Nat.le_of_ble_eq_true rfl⟩) obM_0 (ci := 10) (T := TX10) rfl rfl hl rfl (Nat.le_of_ble_eq_true rfl) dX10_two_43 (fun H locs G => ?_)
            refine lv_aload_n hx hb dX10_two_46 rfl (lv_at hl 0 rfl) ?_
            refine lv_bipush (v := (-9)) hx hb dX10_two_47 (by decide) ?_
            refine u_put (x := (-9)) (ty := .int) C G obM_0 (ci := 10) (N := 44) (Cn := RX10) (T := TX10) rfl fi_X10_two_10 tyX10 tyX10_ok nmX10 24 (by decide) (by decide +kernel) rfl (by decide +kernel) rfl rfl (fun f => by simp) (fun f => rfl) dX10_two_49 (fun H locs G => ?_)
            obtain ⟨σ11, eσ11, h⟩ := ul_of h
            replace G := uG_eq eσ11 G
            refine lv_iconst (v := 0) hx hb dX10_two_52 (by decide) ?_
            refine lv_istore (lv' := [(5, .int 0), (0, .ref (ad 0)), (1, .int v1), (2, .int v2), (3, .int v3), (4, .int v4)]) hx hb dX10_two_53 hl (by decide) rfl (fun ls hl => ?_)
            refine lv_iconst (v := 0) hx hb dX10_two_55 (by decide) ?_
            refine lv_istore (lv' := [(6, .int 0), (5, .int 0), (0, .ref (ad 0)), (1, .int v1), (2, .int v2), (3, .int v3), (4, .int v4)]) hx hb dX10_two_56 hl (by decide) rfl (fun ls hl => ?_)
            exact w_X10_two_58 C hr hlk fu σ11 v1 v2 v3 v4 0 0 h H locs ls G (lv_sub hl [2, 3, 4, 5, 6, 1, 0] rfl)
          · have h := u_pos q h
            refine lv_iconst (v := (-1)) hx hb dX10_two_38 (by decide) ?_
            obtain ⟨rfl, rfl⟩ := u_end h
            exact u_iret hx hb hr hlk G dX10_two_39
/-! X10_renumber -/
def f_X10_renumber_51 (σ : St) (v1 : Int32) (v2 : Int32) (v3 : Int32) : Option (Int32 × St) :=
  if (σ 0 26) = 8 then
    some (((-2) : Int32), σ)
  else
    ui (σ 0 26) 8 <|
    ul (us σ 22 (σ 0 26).toNatClampNeg v1) fun σ9 =>
    ui (σ9 0 26) 8 <|
    ul (us σ9 23 (σ9 0 26).toNatClampNeg v2) fun σ11 =>
    ui (σ11 0 26) 8 <|
    ul (us σ11 24 (σ11 0 26).toNatClampNeg v3) fun σ13 =>
    ul (us σ13 0 26 ((σ13 0 26) + 1)) fun σ14 =>
    some ((σ14 0 26), σ14)
def f_X10_renumber (σ : St) (v1 : Int32) (v2 : Int32) (v3 : Int32) : Option (Int32 × St) :=
  ub (f_X10_isYear σ v1) fun r1 σ2 =>
  if r1 = 0 then
    some (((-1) : Int32), σ2)
  else
    ub (f_X10_in σ2 v2 (1 : Int32) (3 : Int32)) fun r3 σ4 =>
    if r3 = 0 then
      some (((-1) : Int32), σ4)
    else
      ub (f_X10_in σ4 v3 ((-100) : Int32) (100 : Int32)) fun r5 σ6 =>
      if r5 = 0 then
        some (((-1) : Int32), σ6)
      else
        if (σ6 0 26) ≤ 0 then
          f_X10_renumber_51 σ6 v1 v2 v3
        else
          ui ((σ6 0 26) - 1) 8 <|
          if (σ6 22 ((σ6 0 26) - 1).toNatClampNeg) < v1 then
            f_X10_renumber_51 σ6 v1 v2 v3
          else
            some (((-1) : Int32), σ6)
theorem fi_X10_renumber_10 : ∀ w ∈ u_ws RX10 TX10 44, w ∈ wsX10_renumber := by decide +kernel
set_option maxHeartbeats 4000000 in
set_option maxRecDepth 100000 in
theorem w_X10_renumber_51 {p : Program} {l : Launch} {e : Env} {s : State} {m : MethodId} {args : Array Value} {below : List Frame} {meth : Method} {c : Code} {D : va_G} {ad : Nat → Nat} {cs : Nat → ClassId} (C : uC p { frames := 2, cells := 0, slots := 0, locals := 42 } s m args c cX10_renumber 4 wsX10_renumber RX10 D vwCl (tyM cs) 34 ad (uAd 34 ad s.heap.size) 0 0) (hr : meth.sig.returnType = (some .int)) (hlk : meth.locks = false) {r : Int32} {σ' : St} :
    ∀ (σ : St) (v1 : Int32) (v2 : Int32) (v3 : Int32), f_X10_renumber_51 σ v1 v2 v3 = some (r, σ') → ∀ (H : Heap) (locs : List Loc) (ls : Array Slot), uG D vwCl 34 ad (enM ad cs) (uAd 34 ad s.heap.size) s σ H locs → lv_has ls 4 [(0, .ref (ad 0)), (1, .int v1), (2, .int v2), (3, .int v3)] → W p l e { frames := 2, cells := 0, slots := 0, locals := 42 } s m args below meth c H locs 0 0 (MQ below (uQi D vwCl 34 ad (enM ad cs) r σ' s.heap.size) args s 0 0 (uAd 34 ad s.heap.size)) (F0 m 51 ls []) := by
  have hx := C.1.1
  have hb := C.1.2.1
  intro σ v1 v2 v3  h H locs ls G hl
  unfold f_X10_renumber_51 at h
  refine lv_aload_n hx hb dX10_renumber_51 rfl (lv_at hl 0 rfl) ?_
  refine u_get (v := .int (σ 0 26)) C G obM_0 (ci := 10) (N := 44) (Cn := RX10) (T := TX10) rfl fi_X10_renumber_10 26 (by decide) (by decide +kernel) rfl dX10_renumber_52 ?_
  refine lv_bipush (v := 8) hx hb dX10_renumber_55 (by decide) ?_
  refine lv_icmp_ne (tgt := 63) hx hb dX10_renumber_57 (by decide) (fun q => ?_) (fun q => ?_)
  · have h := u_neg q h
    refine lv_aload_n hx hb dX10_renumber_63 rfl (lv_at hl 0 rfl) ?_
    refine u_get (v := .ref (ad 22)) C G obM_0 (ci := 10) (N := 44) (Cn := RX10) (T := TX10) rfl fi_X10_renumber_10 27 (by decide) (by decide +kernel) rfl dX10_renumber_64 ?_
    refine lv_aload_n hx hb dX10_renumber_67 rfl (lv_at hl 0 rfl) ?_
    refine u_get (v := .int (σ 0 26)) C G obM_0 (ci := 10) (N := 44) (Cn := RX10) (T := TX10) rfl fi_X10_renumber_10 26 (by decide) (by decide +kernel) rfl dX10_renumber_68 ?_
    refine lv_iload_n hx hb dX10_renumber_71 rfl (lv_at hl 1 rfl) ?_
    obtain ⟨g8, h⟩ := ui_of h
    refine u_iast C G arM_22 (t0 := 0) rfl g8 dX10_renumber_72 (fun H locs G => ?_)
    obtain ⟨σ9, eσ9, h⟩ := ul_of h
    replace G := uG_eq eσ9 G
    refine lv_aload_n hx hb dX10_renumber_73 rfl (lv_at hl 0 rfl) ?_
    refine u_get (v := .ref (ad 23)) C G obM_0 (ci := 10) (N := 44) (Cn := RX10) (T := TX10) rfl fi_X10_renumber_10 28 (by decide) (by decide +kernel) rfl dX10_renumber_74 ?_
    refine lv_aload_n hx hb dX10_renumber_77 rfl (lv_at hl 0 rfl) ?_
    refine u_get (v := .int (σ9 0 26)) C G obM_0 (ci := 10) (N := 44) (Cn := RX10) (T := TX10) rfl fi_X10_renumber_10 26 (by decide) (by decide +kernel) rfl dX10_renumber_78 ?_
    refine lv_iload_n hx hb dX10_renumber_81 rfl (lv_at hl 2 rfl) ?_
    obtain ⟨g10, h⟩ := ui_of h
    refine u_iast C G arM_23 (t0 := 0) rfl g10 dX10_renumber_82 (fun H locs G => ?_)
    obtain ⟨σ11, eσ11, h⟩ := ul_of h
    replace G := uG_eq eσ11 G
    refine lv_aload_n hx hb dX10_renumber_83 rfl (lv_at hl 0 rfl) ?_
    refine u_get (v := .ref (ad 24)) C G obM_0 (ci := 10) (N := 44) (Cn := RX10) (T := TX10) rfl fi_X10_renumber_10 29 (by decide) (by decide +kernel) rfl dX10_renumber_84 ?_
    refine lv_aload_n hx hb dX10_renumber_87 rfl (lv_at hl 0 rfl) ?_
    refine u_get (v := .int (σ11 0 26)) C G obM_0 (ci := 10) (N := 44) (Cn := RX10) (T := TX10) rfl fi_X10_renumber_10 26 (by decide) (by decide +kernel) rfl dX10_renumber_88 ?_
    refine lv_iload_n hx hb dX10_renumber_91 rfl (lv_at hl 3 rfl) ?_
    obtain ⟨g12, h⟩ := ui_of h
    refine u_iast C G arM_24 (t0 := 0) rfl g12 dX10_renumber_92 (fun H locs G => ?_)
    obtain ⟨σ13, eσ13, h⟩ := ul_of h
    replace G := uG_eq eσ13 G
    refine lv_aload_n hx hb dX10_renumber_93 rfl (lv_at hl 0 rfl) ?_
    refine lv_dup hx hb dX10_renumber_94 rfl ?_
    refine u_get (v := .int (σ13 0 26)) C G obM_0 (ci := 10) (N := 44) (Cn := RX10) (T := TX10) rfl fi_X10_renumber_10 26 (by decide) (by decide +kernel) rfl dX10_renumber_95 ?_
    refine lv_iconst (v := 1) hx hb dX10_renumber_98 (by decide) ?_
    refine lv_iadd hx hb dX10_renumber_99 ?_
    refine u_put (x := ((σ13 0 26) + 1)) (ty := .int) C G obM_0 (ci := 10) (N := 44) (Cn := RX10) (T := TX10) rfl fi_X10_renumber_10 tyX10 tyX10_ok nmX10 26 (by decide) (by decide +kernel) rfl (by decide +kernel) rfl rfl (fun f => by simp) (fun f => rfl) dX10_renumber_100 (fun H locs G => ?_)
    obtain ⟨σ14, eσ14, h⟩ := ul_of h
    replace G := uG_eq eσ14 G
    refine lv_aload_n hx hb dX10_renumber_103 rfl (lv_at hl 0 rfl) ?_
    refine u_get (v := .int (σ14 0 26)) C G obM_0 (ci := 10) (N := 44) (Cn := RX10) (T := TX10) rfl fi_X10_renumber_10 26 (by decide) (by decide +kernel) rfl dX10_renumber_104 ?_
    obtain ⟨rfl, rfl⟩ := u_end h
    exact u_iret hx hb hr hlk G dX10_renumber_107
  · have h := u_pos q h
    refine lv_bipush (v := (-2)) hx hb dX10_renumber_60 (by decide) ?_
    obtain ⟨rfl, rfl⟩ := u_end h
    exact u_iret hx hb hr hlk G dX10_renumber_62
set_option maxHeartbeats 4000000 in
set_option maxRecDepth 100000 in
theorem c_X10_renumber (l : Launch) (D : va_G) (ad : Nat → Nat) (cs : Nat → ClassId) (J : uJ 34 ad) (σ : St) (v1 : Int32) (v2 : Int32) (v3 : Int32) (r : Int32) (σ' : St) (h : f_X10_renumber σ v1 v2 v3 = some (r, σ')) : uMi l yX10_renumber wsX10_renumber { frames := 2, cells := 0, slots := 0, locals := 42 } D vwCl (tyM cs) 34 ad (enM ad cs) [.ref (ad 0), .int v1, .int v2, .int v3] σ r σ' := by
  refine u_met (Qf := uQi D vwCl 34 ad (enM ad cs) r σ') (cc := cX10_renumber) (maxL := 4) (ret := (some .int)) (lv := [(0, .ref (ad 0)), (1, .int v1), (2, .int v2), (3, .int v3)]) J (by decide) rfl (Nat.le_of_ble_eq_true rfl) rfl rfl rfl ?_
  intro p e s m args below meth c ls hx hb C hr hlk G hl
  unfold f_X10_renumber at h
  obtain ⟨H, eH⟩ : ∃ H, H = s.heap := ⟨_, rfl⟩
  obtain ⟨locs, eL⟩ : ∃ locs : List Loc, locs = [] := ⟨_, rfl⟩
  refine u_start eH eL G ?_
  clear G eH eL
  intro G
  refine lv_iload_n hx hb dX10_renumber_0 rfl (lv_at hl 1 rfl) ?_
  obtain ⟨r1, σ2, er1, h⟩ := ub_of h
  refine u_callSi (As := [.int v1]) (rest := []) C G (c_X10_isYear l D ad cs C.2.2.1 σ v1 r1 σ2 er1) (va_cwS 1 C.1.2.2.2.2 gX10_renumber_X10_isYear rfl rfl rfl (by decide +kernel) ⟨Nat.le_of_ble_eq_true rfl, Nat.le_of_ble_eq_true rfl⟩) rfl hl rfl (Nat.le_of_ble_eq_true rfl) dX10_renumber_1 (fun H locs G => ?_)
  refine lv_if_eq (tgt := 49) hx hb dX10_renumber_4 (by decide) (fun q => ?_) (fun q => ?_)
  · have h := u_pos q h
    refine lv_iconst (v := (-1)) hx hb dX10_renumber_49 (by decide) ?_
    obtain ⟨rfl, rfl⟩ := u_end h
    exact u_iret hx hb hr hlk G dX10_renumber_50
  · have h := u_neg q h
    refine lv_iload_n hx hb dX10_renumber_7 rfl (lv_at hl 2 rfl) ?_
    refine lv_iconst (v := 1) hx hb dX10_renumber_8 (by decide) ?_
    refine lv_iconst (v := 3) hx hb dX10_renumber_9 (by decide) ?_
    obtain ⟨r3, σ4, er3, h⟩ := ub_of h
    refine u_callSi (As := [.int v2, .int 1, .int 3]) (rest := []) C G (c_X10_in l D ad cs C.2.2.1 σ2 v2 (1 : Int32) (3 : Int32) r3 σ4 er3) (va_cwS 3 C.1.2.2.2.2 gX10_renumber_X10_in rfl rfl rfl (by decide +kernel) ⟨Nat.le_of_ble_eq_true rfl, Nat.le_of_ble_eq_true rfl⟩) rfl hl rfl (Nat.le_of_ble_eq_true rfl) dX10_renumber_10 (fun H locs G => ?_)
    refine lv_if_eq (tgt := 49) hx hb dX10_renumber_13 (by decide) (fun q => ?_) (fun q => ?_)
    · have h := u_pos q h
      refine lv_iconst (v := (-1)) hx hb dX10_renumber_49 (by decide) ?_
      obtain ⟨rfl, rfl⟩ := u_end h
      exact u_iret hx hb hr hlk G dX10_renumber_50
    · have h := u_neg q h
      refine lv_iload_n hx hb dX10_renumber_16 rfl (lv_at hl 3 rfl) ?_
      refine lv_bipush (v := (-100)) hx hb dX10_renumber_17 (by decide) ?_
      refine lv_bipush (v := 100) hx hb dX10_renumber_19 (by decide) ?_
      obtain ⟨r5, σ6, er5, h⟩ := ub_of h
      refine u_callSi (As := [.int v3, .int (-100), .int 100]) (rest := []) C G (c_X10_in l D ad cs C.2.2.1 σ4 v3 ((-100) : Int32) (100 : Int32) r5 σ6 er5) (va_cwS 3 C.1.2.2.2.2 gX10_renumber_X10_in rfl rfl rfl (by decide +kernel) ⟨Nat.le_of_ble_eq_true rfl, Nat.le_of_ble_eq_true rfl⟩) rfl hl rfl (Nat.le_of_ble_eq_true rfl) dX10_renumber_21 (fun H locs G => ?_)
      refine lv_if_eq (tgt := 49) hx hb dX10_renumber_24 (by decide) (fun q => ?_) (fun q => ?_)
      · have h := u_pos q h
        refine lv_iconst (v := (-1)) hx hb dX10_renumber_49 (by decide) ?_
        obtain ⟨rfl, rfl⟩ := u_end h
        exact u_iret hx hb hr hlk G dX10_renumber_50
      · have h := u_neg q h
        refine lv_aload_n hx hb dX10_renumber_27 rfl (lv_at hl 0 rfl) ?_
        refine u_get (v := .int (σ6 0 26)) C G obM_0 (ci := 10) (N := 44) (Cn := RX10) (T := TX10) rfl fi_X10_renumber_10 26 (by decide) (by decide +kernel) rfl dX10_renumber_28 ?_
        refine lv_if_le (tgt := 51) hx hb dX10_renumber_31 (by decide) (fun q => ?_) (fun q => ?_)
        · have h := u_pos q h
          exact w_X10_renumber_51 C hr hlk σ6 v1 v2 v3 h H locs ls G (lv_sub hl [0, 1, 2, 3] rfl)
        · have h := u_neg q h
          refine lv_iload_n hx hb dX10_renumber_34 rfl (lv_at hl 1 rfl) ?_
          refine lv_aload_n hx hb dX10_renumber_35 rfl (lv_at hl 0 rfl) ?_
          refine u_get (v := .ref (ad 22)) C G obM_0 (ci := 10) (N := 44) (Cn := RX10) (T := TX10) rfl fi_X10_renumber_10 27 (by decide) (by decide +kernel) rfl dX10_renumber_36 ?_
          refine lv_aload_n hx hb dX10_renumber_39 rfl (lv_at hl 0 rfl) ?_
          refine u_get (v := .int (σ6 0 26)) C G obM_0 (ci := 10) (N := 44) (Cn := RX10) (T := TX10) rfl fi_X10_renumber_10 26 (by decide) (by decide +kernel) rfl dX10_renumber_40 ?_
          refine lv_iconst (v := 1) hx hb dX10_renumber_43 (by decide) ?_
          refine lv_isub hx hb dX10_renumber_44 ?_
          obtain ⟨g7, h⟩ := ui_of h
          refine u_iald C G arM_22 (t0 := 0) rfl g7 dX10_renumber_45 ?_
          refine lv_icmp_gt (tgt := 51) hx hb dX10_renumber_46 (by decide) (fun q => ?_) (fun q => ?_)
          · have h := u_pos q h
            exact w_X10_renumber_51 C hr hlk σ6 v1 v2 v3 h H locs ls G (lv_sub hl [0, 1, 2, 3] rfl)
          · have h := u_neg q h
            refine lv_iconst (v := (-1)) hx hb dX10_renumber_49 (by decide) ?_
            obtain ⟨rfl, rfl⟩ := u_end h
            exact u_iret hx hb hr hlk G dX10_renumber_50
/-! X10_numberIn -/
def f_X10_numberIn_14 : Nat → St → Int32 → Int32 → Int32 → Int32 → Option (Int32 × St)
  | 0, _, _, _, _, _ => none
  | fuel + 1, σ, v2, v3, v4, v5 =>
    if (σ 0 26) ≤ v5 then
      some (v4, σ)
    else
      ui v5 8 <|
      if (σ 22 v5.toNatClampNeg) ≤ v2 then
        ul (v5 + 1) fun x2 =>
        f_X10_numberIn_14 fuel σ v2 v3 v4 x2
      else
        ui v5 8 <|
        if v3 < (σ 22 v5.toNatClampNeg) then
          ul (v5 + 1) fun x4 =>
          f_X10_numberIn_14 fuel σ v2 v3 v4 x4
        else
          ui v5 8 <|
          ui v5 8 <|
          ul ((v4 * (σ 23 v5.toNatClampNeg)) + (σ 24 v5.toNatClampNeg)) fun x7 =>
          if 1 ≤ x7 then
            if x7 ≤ 200 then
              ul (v5 + 1) fun x8 =>
              f_X10_numberIn_14 fuel σ v2 v3 x7 x8
            else
              ul (v5 + 1) fun x9 =>
              f_X10_numberIn_14 fuel σ v2 v3 200 x9
          else
            ul (v5 + 1) fun x10 =>
            f_X10_numberIn_14 fuel σ v2 v3 1 x10
def f_X10_numberIn (σ : St) (v1 : Int32) (v2 : Int32) (v3 : Int32) : Option (Int32 × St) :=
  if v2 ≤ v3 then
    f_X10_numberIn_14 fu σ v2 v3 v1 0
  else
    some (((-9) : Int32), σ)
theorem fi_X10_numberIn_10 : ∀ w ∈ u_ws RX10 TX10 44, w ∈ wsX10_numberIn := by decide +kernel
set_option maxHeartbeats 4000000 in
set_option maxRecDepth 100000 in
theorem w_X10_numberIn_14 {p : Program} {l : Launch} {e : Env} {s : State} {m : MethodId} {args : Array Value} {below : List Frame} {meth : Method} {c : Code} {D : va_G} {ad : Nat → Nat} {cs : Nat → ClassId} (C : uC p { frames := 0, cells := 0, slots := 0, locals := 0 } s m args c cX10_numberIn 6 wsX10_numberIn RX10 D vwCl (tyM cs) 34 ad (uAd 34 ad s.heap.size) 0 0) (hr : meth.sig.returnType = (some .int)) (hlk : meth.locks = false) {r : Int32} {σ' : St} :
    ∀ (n : Nat) (σ : St) (v2 : Int32) (v3 : Int32) (v4 : Int32) (v5 : Int32), f_X10_numberIn_14 n σ v2 v3 v4 v5 = some (r, σ') → ∀ (H : Heap) (locs : List Loc) (ls : Array Slot), uG D vwCl 34 ad (enM ad cs) (uAd 34 ad s.heap.size) s σ H locs → lv_has ls 6 [(0, .ref (ad 0)), (2, .int v2), (3, .int v3), (4, .int v4), (5, .int v5)] → W p l e { frames := 0, cells := 0, slots := 0, locals := 0 } s m args below meth c H locs 0 0 (MQ below (uQi D vwCl 34 ad (enM ad cs) r σ' s.heap.size) args s 0 0 (uAd 34 ad s.heap.size)) (F0 m 14 ls []) := by
  have hx := C.1.1
  have hb := C.1.2.1
  intro n
  induction n with
  | zero => intro σ v2 v3 v4 v5  h; exact absurd h (by simp [f_X10_numberIn_14])
  | succ fuel ih =>
    intro σ v2 v3 v4 v5  h H locs ls G hl
    rw [f_X10_numberIn_14] at h
    refine lv_iload hx hb dX10_numberIn_14 (lv_at hl 4 rfl) ?_
    refine lv_aload_n hx hb dX10_numberIn_16 rfl (lv_at hl 0 rfl) ?_
    refine u_get (v := .int (σ 0 26)) C G obM_0 (ci := 10) (N := 44) (Cn := RX10) (T := TX10) rfl fi_X10_numberIn_10 26 (by decide) (by decide +kernel) rfl dX10_numberIn_17 ?_
    refine lv_icmp_ge (tgt := 99) hx hb dX10_numberIn_20 (by decide) (fun q => ?_) (fun q => ?_)
    · have h := u_pos q h
      refine lv_iload hx hb dX10_numberIn_99 (lv_at hl 3 rfl) ?_
      obtain ⟨rfl, rfl⟩ := u_end h
      exact u_iret hx hb hr hlk G dX10_numberIn_101
    · have h := u_neg q h
      refine lv_aload_n hx hb dX10_numberIn_23 rfl (lv_at hl 0 rfl) ?_
      refine u_get (v := .ref (ad 22)) C G obM_0 (ci := 10) (N := 44) (Cn := RX10) (T := TX10) rfl fi_X10_numberIn_10 27 (by decide) (by decide +kernel) rfl dX10_numberIn_24 ?_
      refine lv_iload hx hb dX10_numberIn_27 (lv_at hl 4 rfl) ?_
      obtain ⟨g1, h⟩ := ui_of h
      refine u_iald C G arM_22 (t0 := 0) rfl g1 dX10_numberIn_29 ?_
      refine lv_iload_n hx hb dX10_numberIn_30 rfl (lv_at hl 1 rfl) ?_
      refine lv_icmp_le (tgt := 93) hx hb dX10_numberIn_31 (by decide) (fun q => ?_) (fun q => ?_)
      · have h := u_pos q h
        obtain ⟨x2, ex2, h⟩ := ul_of h
        refine lv_iinc (v := x2) (lv' := [(5, .int x2), (0, .ref (ad 0)), (2, .int v2), (3, .int v3), (4, .int v4)]) hx hb dX10_numberIn_93 hl (k := 4) rfl (by rw [ex2]; rfl) (by decide) rfl (fun ls hl => ?_)
        refine lv_goto (tgt := 14) hx hb dX10_numberIn_96 (by decide) ?_
        exact ih σ v2 v3 v4 x2 h H locs ls G (lv_sub hl [1, 2, 3, 4, 0] rfl)
      · have h := u_neg q h
        refine lv_aload_n hx hb dX10_numberIn_34 rfl (lv_at hl 0 rfl) ?_
        refine u_get (v := .ref (ad 22)) C G obM_0 (ci := 10) (N := 44) (Cn := RX10) (T := TX10) rfl fi_X10_numberIn_10 27 (by decide) (by decide +kernel) rfl dX10_numberIn_35 ?_
        refine lv_iload hx hb dX10_numberIn_38 (lv_at hl 4 rfl) ?_
        obtain ⟨g3, h⟩ := ui_of h
        refine u_iald C G arM_22 (t0 := 0) rfl g3 dX10_numberIn_40 ?_
        refine lv_iload_n hx hb dX10_numberIn_41 rfl (lv_at hl 2 rfl) ?_
        refine lv_icmp_gt (tgt := 93) hx hb dX10_numberIn_42 (by decide) (fun q => ?_) (fun q => ?_)
        · have h := u_pos q h
          obtain ⟨x4, ex4, h⟩ := ul_of h
          refine lv_iinc (v := x4) (lv' := [(5, .int x4), (0, .ref (ad 0)), (2, .int v2), (3, .int v3), (4, .int v4)]) hx hb dX10_numberIn_93 hl (k := 4) rfl (by rw [ex4]; rfl) (by decide) rfl (fun ls hl => ?_)
          refine lv_goto (tgt := 14) hx hb dX10_numberIn_96 (by decide) ?_
          exact ih σ v2 v3 v4 x4 h H locs ls G (lv_sub hl [1, 2, 3, 4, 0] rfl)
        · have h := u_neg q h
          refine lv_iload hx hb dX10_numberIn_45 (lv_at hl 3 rfl) ?_
          refine lv_aload_n hx hb dX10_numberIn_47 rfl (lv_at hl 0 rfl) ?_
          refine u_get (v := .ref (ad 23)) C G obM_0 (ci := 10) (N := 44) (Cn := RX10) (T := TX10) rfl fi_X10_numberIn_10 28 (by decide) (by decide +kernel) rfl dX10_numberIn_48 ?_
          refine lv_iload hx hb dX10_numberIn_51 (lv_at hl 4 rfl) ?_
          obtain ⟨g5, h⟩ := ui_of h
          refine u_iald C G arM_23 (t0 := 0) rfl g5 dX10_numberIn_53 ?_
          refine lv_imul hx hb dX10_numberIn_54 ?_
          refine lv_aload_n hx hb dX10_numberIn_55 rfl (lv_at hl 0 rfl) ?_
          refine u_get (v := .ref (ad 24)) C G obM_0 (ci := 10) (N := 44) (Cn := RX10) (T := TX10) rfl fi_X10_numberIn_10 29 (by decide) (by decide +kernel) rfl dX10_numberIn_56 ?_
          refine lv_iload hx hb dX10_numberIn_59 (lv_at hl 4 rfl) ?_
          obtain ⟨g6, h⟩ := ui_of h
          refine u_iald C G arM_24 (t0 := 0) rfl g6 dX10_numberIn_61 ?_
          refine lv_iadd hx hb dX10_numberIn_62 ?_
          obtain ⟨x7, ex7, h⟩ := ul_of h
          refine u_nmi ex7 ?_
          refine lv_istore (lv' := [(4, .int x7), (0, .ref (ad 0)), (2, .int v2), (3, .int v3), (5, .int v5)]) hx hb dX10_numberIn_63 hl (by decide) rfl (fun ls hl => ?_)
          refine lv_iload hx hb dX10_numberIn_65 (lv_at hl 0 rfl) ?_
          refine lv_iconst (v := 1) hx hb dX10_numberIn_67 (by decide) ?_
          refine lv_icmp_ge (tgt := 75) hx hb dX10_numberIn_68 (by decide) (fun q => ?_) (fun q => ?_)
          · have h := u_pos q h
            refine lv_iload hx hb dX10_numberIn_75 (lv_at hl 0 rfl) ?_
            refine lv_sipush (v := 200) hx hb dX10_numberIn_77 (by decide) ?_
            refine lv_icmp_le (tgt := 89) hx hb dX10_numberIn_80 (by decide) (fun q => ?_) (fun q => ?_)
            · have h := u_pos q h
              refine lv_iload hx hb dX10_numberIn_89 (lv_at hl 0 rfl) ?_
              refine lv_istore (lv' := [(4, .int x7), (0, .ref (ad 0)), (2, .int v2), (3, .int v3), (5, .int v5)]) hx hb dX10_numberIn_91 hl (by decide) rfl (fun ls hl => ?_)
              obtain ⟨x8, ex8, h⟩ := ul_of h
              refine lv_iinc (v := x8) (lv' := [(5, .int x8), (4, .int x7), (0, .ref (ad 0)), (2, .int v2), (3, .int v3)]) hx hb dX10_numberIn_93 hl (k := 4) rfl (by rw [ex8]; rfl) (by decide) rfl (fun ls hl => ?_)
              refine lv_goto (tgt := 14) hx hb dX10_numberIn_96 (by decide) ?_
              exact ih σ v2 v3 x7 x8 h H locs ls G (lv_sub hl [2, 3, 4, 1, 0] rfl)
            · have h := u_neg q h
              refine lv_sipush (v := 200) hx hb dX10_numberIn_83 (by decide) ?_
              refine lv_goto (tgt := 91) hx hb dX10_numberIn_86 (by decide) ?_
              refine lv_istore (lv' := [(4, .int 200), (0, .ref (ad 0)), (2, .int v2), (3, .int v3), (5, .int v5)]) hx hb dX10_numberIn_91 hl (by decide) rfl (fun ls hl => ?_)
              obtain ⟨x9, ex9, h⟩ := ul_of h
              refine lv_iinc (v := x9) (lv' := [(5, .int x9), (4, .int 200), (0, .ref (ad 0)), (2, .int v2), (3, .int v3)]) hx hb dX10_numberIn_93 hl (k := 4) rfl (by rw [ex9]; rfl) (by decide) rfl (fun ls hl => ?_)
              refine lv_goto (tgt := 14) hx hb dX10_numberIn_96 (by decide) ?_
              exact ih σ v2 v3 200 x9 h H locs ls G (lv_sub hl [2, 3, 4, 1, 0] rfl)
          · have h := u_neg q h
            refine lv_iconst (v := 1) hx hb dX10_numberIn_71 (by decide) ?_
            refine lv_goto (tgt := 91) hx hb dX10_numberIn_72 (by decide) ?_
            refine lv_istore (lv' := [(4, .int 1), (0, .ref (ad 0)), (2, .int v2), (3, .int v3), (5, .int v5)]) hx hb dX10_numberIn_91 hl (by decide) rfl (fun ls hl => ?_)
            obtain ⟨x10, ex10, h⟩ := ul_of h
            refine lv_iinc (v := x10) (lv' := [(5, .int x10), (4, .int 1), (0, .ref (ad 0)), (2, .int v2), (3, .int v3)]) hx hb dX10_numberIn_93 hl (k := 4) rfl (by rw [ex10]; rfl) (by decide) rfl (fun ls hl => ?_)
            refine lv_goto (tgt := 14) hx hb dX10_numberIn_96 (by decide) ?_
            exact ih σ v2 v3 1 x10 h H locs ls G (lv_sub hl [2, 3, 4, 1, 0] rfl)
set_option maxHeartbeats 4000000 in
set_option maxRecDepth 100000 in
theorem c_X10_numberIn (l : Launch) (D : va_G) (ad : Nat → Nat) (cs : Nat → ClassId) (J : uJ 34 ad) (σ : St) (v1 : Int32) (v2 : Int32) (v3 : Int32) (r : Int32) (σ' : St) (h : f_X10_numberIn σ v1 v2 v3 = some (r, σ')) : uMi l yX10_numberIn wsX10_numberIn { frames := 0, cells := 0, slots := 0, locals := 0 } D vwCl (tyM cs) 34 ad (enM ad cs) [.ref (ad 0), .int v1, .int v2, .int v3] σ r σ' := by
  refine u_met (Qf := uQi D vwCl 34 ad (enM ad cs) r σ') (cc := cX10_numberIn) (maxL := 6) (ret := (some .int)) (lv := [(0, .ref (ad 0)), (1, .int v1), (2, .int v2), (3, .int v3)]) J (by decide) rfl (Nat.le_of_ble_eq_true rfl) rfl rfl rfl ?_
  intro p e s m args below meth c ls hx hb C hr hlk G hl
  unfold f_X10_numberIn at h
  obtain ⟨H, eH⟩ : ∃ H, H = s.heap := ⟨_, rfl⟩
  obtain ⟨locs, eL⟩ : ∃ locs : List Loc, locs = [] := ⟨_, rfl⟩
  refine u_start eH eL G ?_
  clear G eH eL
  intro G
  refine lv_iload_n hx hb dX10_numberIn_0 rfl (lv_at hl 3 rfl) ?_
  refine lv_iload_n hx hb dX10_numberIn_1 rfl (lv_at hl 2 rfl) ?_
  refine lv_icmp_ge (tgt := 8) hx hb dX10_numberIn_2 (by decide) (fun q => ?_) (fun q => ?_)
  · have h := u_pos q h
    refine lv_iload_n hx hb dX10_numberIn_8 rfl (lv_at hl 1 rfl) ?_
    refine lv_istore (lv' := [(4, .int v1), (0, .ref (ad 0)), (1, .int v1), (2, .int v2), (3, .int v3)]) hx hb dX10_numberIn_9 hl (by decide) rfl (fun ls hl => ?_)
    refine lv_iconst (v := 0) hx hb dX10_numberIn_11 (by decide) ?_
    refine lv_istore (lv' := [(5, .int 0), (4, .int v1), (0, .ref (ad 0)), (1, .int v1), (2, .int v2), (3, .int v3)]) hx hb dX10_numberIn_12 hl (by decide) rfl (fun ls hl => ?_)
    exact w_X10_numberIn_14 C hr hlk fu σ v2 v3 v1 0 h H locs ls G (lv_sub hl [2, 4, 5, 1, 0] rfl)
  · have h := u_neg q h
    refine lv_bipush (v := (-9)) hx hb dX10_numberIn_5 (by decide) ?_
    obtain ⟨rfl, rfl⟩ := u_end h
    exact u_iret hx hb hr hlk G dX10_numberIn_7
/-! X10_number -/
def f_X10_number (σ : St) (v1 : Int32) (v2 : Int32) (v3 : Int32) : Option (Int32 × St) :=
  ub (f_X10_isHouse σ v1) fun r1 σ2 =>
  if r1 = 0 then
    some (((-1) : Int32), σ2)
  else
    ub (f_X10_isYear σ2 v2) fun r3 σ4 =>
    if r3 = 0 then
      some (((-1) : Int32), σ4)
    else
      ub (f_X10_isYear σ4 v3) fun r5 σ6 =>
      if r5 = 0 then
        some (((-1) : Int32), σ6)
      else
        ub (f_X10_numberIn σ6 v1 v2 v3) fun r7 σ8 =>
        some (r7, σ8)
set_option maxHeartbeats 4000000 in
set_option maxRecDepth 100000 in
theorem c_X10_number (l : Launch) (D : va_G) (ad : Nat → Nat) (cs : Nat → ClassId) (J : uJ 34 ad) (σ : St) (v1 : Int32) (v2 : Int32) (v3 : Int32) (r : Int32) (σ' : St) (h : f_X10_number σ v1 v2 v3 = some (r, σ')) : uMi l yX10_number wsX10_number { frames := 2, cells := 0, slots := 0, locals := 42 } D vwCl (tyM cs) 34 ad (enM ad cs) [.ref (ad 0), .int v1, .int v2, .int v3] σ r σ' := by
  refine u_met (Qf := uQi D vwCl 34 ad (enM ad cs) r σ') (cc := cX10_number) (maxL := 4) (ret := (some .int)) (lv := [(0, .ref (ad 0)), (1, .int v1), (2, .int v2), (3, .int v3)]) J (by decide) rfl (Nat.le_of_ble_eq_true rfl) rfl rfl rfl ?_
  intro p e s m args below meth c ls hx hb C hr hlk G hl
  unfold f_X10_number at h
  obtain ⟨H, eH⟩ : ∃ H, H = s.heap := ⟨_, rfl⟩
  obtain ⟨locs, eL⟩ : ∃ locs : List Loc, locs = [] := ⟨_, rfl⟩
  refine u_start eH eL G ?_
  clear G eH eL
  intro G
  refine lv_iload_n hx hb dX10_number_0 rfl (lv_at hl 1 rfl) ?_
  obtain ⟨r1, σ2, er1, h⟩ := ub_of h
  refine u_callSi (As := [.int v1]) (rest := []) C G (c_X10_isHouse l D ad cs C.2.2.1 σ v1 r1 σ2 er1) (va_cwS 1 C.1.2.2.2.2 gX10_number_X10_isHouse rfl rfl rfl (by decide +kernel) ⟨Nat.le_of_ble_eq_true rfl, Nat.le_of_ble_eq_true rfl⟩) rfl hl rfl (Nat.le_of_ble_eq_true rfl) dX10_number_1 (fun H locs G => ?_)
  refine lv_if_eq (tgt := 31) hx hb dX10_number_4 (by decide) (fun q => ?_) (fun q => ?_)
  · have h := u_pos q h
    refine lv_iconst (v := (-1)) hx hb dX10_number_31 (by decide) ?_
    obtain ⟨rfl, rfl⟩ := u_end h
    exact u_iret hx hb hr hlk G dX10_number_32
  · have h := u_neg q h
    refine lv_iload_n hx hb dX10_number_7 rfl (lv_at hl 2 rfl) ?_
    obtain ⟨r3, σ4, er3, h⟩ := ub_of h
    refine u_callSi (As := [.int v2]) (rest := []) C G (c_X10_isYear l D ad cs C.2.2.1 σ2 v2 r3 σ4 er3) (va_cwS 1 C.1.2.2.2.2 gX10_number_X10_isYear rfl rfl rfl (by decide +kernel) ⟨Nat.le_of_ble_eq_true rfl, Nat.le_of_ble_eq_true rfl⟩) rfl hl rfl (Nat.le_of_ble_eq_true rfl) dX10_number_8 (fun H locs G => ?_)
    refine lv_if_eq (tgt := 31) hx hb dX10_number_11 (by decide) (fun q => ?_) (fun q => ?_)
    · have h := u_pos q h
      refine lv_iconst (v := (-1)) hx hb dX10_number_31 (by decide) ?_
      obtain ⟨rfl, rfl⟩ := u_end h
      exact u_iret hx hb hr hlk G dX10_number_32
    · have h := u_neg q h
      refine lv_iload_n hx hb dX10_number_14 rfl (lv_at hl 3 rfl) ?_
      obtain ⟨r5, σ6, er5, h⟩ := ub_of h
      refine u_callSi (As := [.int v3]) (rest := []) C G (c_X10_isYear l D ad cs C.2.2.1 σ4 v3 r5 σ6 er5) (va_cwS 1 C.1.2.2.2.2 gX10_number_X10_isYear rfl rfl rfl (by decide +kernel) ⟨Nat.le_of_ble_eq_true rfl, Nat.le_of_ble_eq_true rfl⟩) rfl hl rfl (Nat.le_of_ble_eq_true rfl) dX10_number_15 (fun H locs G => ?_)
      refine lv_if_eq (tgt := 31) hx hb dX10_number_18 (by decide) (fun q => ?_) (fun q => ?_)
      · have h := u_pos q h
        refine lv_iconst (v := (-1)) hx hb dX10_number_31 (by decide) ?_
        obtain ⟨rfl, rfl⟩ := u_end h
        exact u_iret hx hb hr hlk G dX10_number_32
      · have h := u_neg q h
        refine lv_aload_n hx hb dX10_number_21 rfl (lv_at hl 0 rfl) ?_
        refine lv_iload_n hx hb dX10_number_22 rfl (lv_at hl 1 rfl) ?_
        refine lv_iload_n hx hb dX10_number_23 rfl (lv_at hl 2 rfl) ?_
        refine lv_iload_n hx hb dX10_number_24 rfl (lv_at hl 3 rfl) ?_
        obtain ⟨r7, σ8, er7, h⟩ := ub_of h
        refine u_callVi (As := [.int v1, .int v2, .int v3]) (rest := []) C G (c_X10_numberIn l D ad cs C.2.2.1 σ6 v1 v2 v3 r7 σ8 er7) (cwV 3 C.1.2.2.2.2 gX10_number_X10_numberIn rfl rfl rfl (by decide +kernel) ⟨Nat.le_of_ble_eq_true rfl, Nat.le_of_ble_eq_true rfl⟩) obM_0 (ci := 10) (T := TX10) rfl rfl hl rfl (Nat.le_of_ble_eq_true rfl) dX10_number_25 (fun H locs G => ?_)
        refine lv_goto (tgt := 32) hx hb dX10_number_28 (by decide) ?_
        obtain ⟨rfl, rfl⟩ := u_end h
        exact u_iret hx hb hr hlk G dX10_number_32
/-! X10_address -/
def f_X10_address (σ : St) (v1 : Int32) (v2 : Int32) : Option (Int32 × St) :=
  ub (f_X10_isHouse σ v1) fun r1 σ2 =>
  if r1 = 0 then
    some (((-1) : Int32), σ2)
  else
    ub (f_X10_isYear σ2 v2) fun r3 σ4 =>
    if r3 = 0 then
      some (((-1) : Int32), σ4)
    else
      ul (us σ4 0 30 v1) fun σ5 =>
      ul (us σ5 0 31 v2) fun σ6 =>
      some ((1 : Int32), σ6)
theorem fi_X10_address_10 : ∀ w ∈ u_ws RX10 TX10 44, w ∈ wsX10_address := by decide +kernel
set_option maxHeartbeats 4000000 in
set_option maxRecDepth 100000 in
theorem c_X10_address (l : Launch) (D : va_G) (ad : Nat → Nat) (cs : Nat → ClassId) (J : uJ 34 ad) (σ : St) (v1 : Int32) (v2 : Int32) (r : Int32) (σ' : St) (h : f_X10_address σ v1 v2 = some (r, σ')) : uMi l yX10_address wsX10_address { frames := 2, cells := 0, slots := 0, locals := 42 } D vwCl (tyM cs) 34 ad (enM ad cs) [.ref (ad 0), .int v1, .int v2] σ r σ' := by
  refine u_met (Qf := uQi D vwCl 34 ad (enM ad cs) r σ') (cc := cX10_address) (maxL := 3) (ret := (some .int)) (lv := [(0, .ref (ad 0)), (1, .int v1), (2, .int v2)]) J (by decide) rfl (Nat.le_of_ble_eq_true rfl) rfl rfl rfl ?_
  intro p e s m args below meth c ls hx hb C hr hlk G hl
  unfold f_X10_address at h
  obtain ⟨H, eH⟩ : ∃ H, H = s.heap := ⟨_, rfl⟩
  obtain ⟨locs, eL⟩ : ∃ locs : List Loc, locs = [] := ⟨_, rfl⟩
  refine u_start eH eL G ?_
  clear G eH eL
  intro G
  refine lv_iload_n hx hb dX10_address_0 rfl (lv_at hl 1 rfl) ?_
  obtain ⟨r1, σ2, er1, h⟩ := ub_of h
  refine u_callSi (As := [.int v1]) (rest := []) C G (c_X10_isHouse l D ad cs C.2.2.1 σ v1 r1 σ2 er1) (va_cwS 1 C.1.2.2.2.2 gX10_address_X10_isHouse rfl rfl rfl (by decide +kernel) ⟨Nat.le_of_ble_eq_true rfl, Nat.le_of_ble_eq_true rfl⟩) rfl hl rfl (Nat.le_of_ble_eq_true rfl) dX10_address_1 (fun H locs G => ?_)
  refine lv_if_eq (tgt := 14) hx hb dX10_address_4 (by decide) (fun q => ?_) (fun q => ?_)
  · have h := u_pos q h
    refine lv_iconst (v := (-1)) hx hb dX10_address_14 (by decide) ?_
    obtain ⟨rfl, rfl⟩ := u_end h
    exact u_iret hx hb hr hlk G dX10_address_15
  · have h := u_neg q h
    refine lv_iload_n hx hb dX10_address_7 rfl (lv_at hl 2 rfl) ?_
    obtain ⟨r3, σ4, er3, h⟩ := ub_of h
    refine u_callSi (As := [.int v2]) (rest := []) C G (c_X10_isYear l D ad cs C.2.2.1 σ2 v2 r3 σ4 er3) (va_cwS 1 C.1.2.2.2.2 gX10_address_X10_isYear rfl rfl rfl (by decide +kernel) ⟨Nat.le_of_ble_eq_true rfl, Nat.le_of_ble_eq_true rfl⟩) rfl hl rfl (Nat.le_of_ble_eq_true rfl) dX10_address_8 (fun H locs G => ?_)
    refine lv_if_ne (tgt := 16) hx hb dX10_address_11 (by decide) (fun q => ?_) (fun q => ?_)
    · have h := u_neg q h
      refine lv_aload_n hx hb dX10_address_16 rfl (lv_at hl 0 rfl) ?_
      refine lv_iload_n hx hb dX10_address_17 rfl (lv_at hl 1 rfl) ?_
      refine u_put (x := v1) (ty := .int) C G obM_0 (ci := 10) (N := 44) (Cn := RX10) (T := TX10) rfl fi_X10_address_10 tyX10 tyX10_ok nmX10 30 (by decide) (by decide +kernel) rfl (by decide +kernel) rfl rfl (fun f => by simp) (fun f => rfl) dX10_address_18 (fun H locs G => ?_)
      obtain ⟨σ5, eσ5, h⟩ := ul_of h
      replace G := uG_eq eσ5 G
      refine lv_aload_n hx hb dX10_address_21 rfl (lv_at hl 0 rfl) ?_
      refine lv_iload_n hx hb dX10_address_22 rfl (lv_at hl 2 rfl) ?_
      refine u_put (x := v2) (ty := .int) C G obM_0 (ci := 10) (N := 44) (Cn := RX10) (T := TX10) rfl fi_X10_address_10 tyX10 tyX10_ok nmX10 31 (by decide) (by decide +kernel) rfl (by decide +kernel) rfl rfl (fun f => by simp) (fun f => rfl) dX10_address_23 (fun H locs G => ?_)
      obtain ⟨σ6, eσ6, h⟩ := ul_of h
      replace G := uG_eq eσ6 G
      refine lv_iconst (v := 1) hx hb dX10_address_26 (by decide) ?_
      obtain ⟨rfl, rfl⟩ := u_end h
      exact u_iret hx hb hr hlk G dX10_address_27
    · have h := u_pos q h
      refine lv_iconst (v := (-1)) hx hb dX10_address_14 (by decide) ?_
      obtain ⟨rfl, rfl⟩ := u_end h
      exact u_iret hx hb hr hlk G dX10_address_15
/-! X10_hasSpan -/
def f_X10_hasSpan (σ : St) (v1 : Int32) : Option (Int32 × St) :=
  ui v1 16 <|
  if (σ 6 v1.toNatClampNeg) = 0 then
    some ((1 : Int32), σ)
  else
    ui v1 16 <|
    if (σ 12 v1.toNatClampNeg) < (σ 0 31) then
      some ((0 : Int32), σ)
    else
      ui v1 16 <|
      ub (f_X10_numberIn σ (σ 0 30) (σ 0 31) (σ 12 v1.toNatClampNeg)) fun r4 σ5 =>
      ui v1 16 <|
      ui v1 16 <|
      ui v1 16 <|
      ub (f_X10_numberIn σ5 (σ5 10 v1.toNatClampNeg) (σ5 11 v1.toNatClampNeg) (σ5 12 v1.toNatClampNeg)) fun r9 σ10 =>
      if r4 = r9 then
        some ((1 : Int32), σ10)
      else
        some ((0 : Int32), σ10)
theorem fi_X10_hasSpan_10 : ∀ w ∈ u_ws RX10 TX10 44, w ∈ wsX10_hasSpan := by decide +kernel
set_option maxHeartbeats 4000000 in
set_option maxRecDepth 100000 in
theorem c_X10_hasSpan (l : Launch) (D : va_G) (ad : Nat → Nat) (cs : Nat → ClassId) (J : uJ 34 ad) (σ : St) (v1 : Int32) (r : Int32) (σ' : St) (h : f_X10_hasSpan σ v1 = some (r, σ')) : uMi l yX10_hasSpan wsX10_hasSpan { frames := 1, cells := 0, slots := 0, locals := 25 } D vwCl (tyM cs) 34 ad (enM ad cs) [.ref (ad 0), .int v1] σ r σ' := by
  refine u_met (Qf := uQi D vwCl 34 ad (enM ad cs) r σ') (cc := cX10_hasSpan) (maxL := 2) (ret := (some .boolean)) (lv := [(0, .ref (ad 0)), (1, .int v1)]) J (by decide) rfl (Nat.le_of_ble_eq_true rfl) rfl rfl rfl ?_
  intro p e s m args below meth c ls hx hb C hr hlk G hl
  unfold f_X10_hasSpan at h
  obtain ⟨H, eH⟩ : ∃ H, H = s.heap := ⟨_, rfl⟩
  obtain ⟨locs, eL⟩ : ∃ locs : List Loc, locs = [] := ⟨_, rfl⟩
  refine u_start eH eL G ?_
  clear G eH eL
  intro G
  refine lv_aload_n hx hb dX10_hasSpan_0 rfl (lv_at hl 0 rfl) ?_
  refine u_get (v := .ref (ad 6)) C G obM_0 (ci := 10) (N := 44) (Cn := RX10) (T := TX10) rfl fi_X10_hasSpan_10 8 (by decide) (by decide +kernel) rfl dX10_hasSpan_1 ?_
  refine lv_iload_n hx hb dX10_hasSpan_4 rfl (lv_at hl 1 rfl) ?_
  obtain ⟨g1, h⟩ := ui_of h
  refine u_iald C G arM_6 (t0 := 0) rfl g1 dX10_hasSpan_5 ?_
  refine lv_if_eq (tgt := 65) hx hb dX10_hasSpan_6 (by decide) (fun q => ?_) (fun q => ?_)
  · have h := u_pos q h
    refine lv_iconst (v := 1) hx hb dX10_hasSpan_65 (by decide) ?_
    refine lv_goto (tgt := 70) hx hb dX10_hasSpan_66 (by decide) ?_
    obtain ⟨rfl, rfl⟩ := u_end h
    exact u_zret hx hb hr hlk G (by decide) dX10_hasSpan_70
  · have h := u_neg q h
    refine lv_aload_n hx hb dX10_hasSpan_9 rfl (lv_at hl 0 rfl) ?_
    refine u_get (v := .ref (ad 12)) C G obM_0 (ci := 10) (N := 44) (Cn := RX10) (T := TX10) rfl fi_X10_hasSpan_10 14 (by decide) (by decide +kernel) rfl dX10_hasSpan_10 ?_
    refine lv_iload_n hx hb dX10_hasSpan_13 rfl (lv_at hl 1 rfl) ?_
    obtain ⟨g2, h⟩ := ui_of h
    refine u_iald C G arM_12 (t0 := 0) rfl g2 dX10_hasSpan_14 ?_
    refine lv_aload_n hx hb dX10_hasSpan_15 rfl (lv_at hl 0 rfl) ?_
    refine u_get (v := .int (σ 0 31)) C G obM_0 (ci := 10) (N := 44) (Cn := RX10) (T := TX10) rfl fi_X10_hasSpan_10 31 (by decide) (by decide +kernel) rfl dX10_hasSpan_16 ?_
    refine lv_icmp_lt (tgt := 69) hx hb dX10_hasSpan_19 (by decide) (fun q => ?_) (fun q => ?_)
    · have h := u_pos q h
      refine lv_iconst (v := 0) hx hb dX10_hasSpan_69 (by decide) ?_
      obtain ⟨rfl, rfl⟩ := u_end h
      exact u_zret hx hb hr hlk G (by decide) dX10_hasSpan_70
    · have h := u_neg q h
      refine lv_aload_n hx hb dX10_hasSpan_22 rfl (lv_at hl 0 rfl) ?_
      refine lv_aload_n hx hb dX10_hasSpan_23 rfl (lv_at hl 0 rfl) ?_
      refine u_get (v := .int (σ 0 30)) C G obM_0 (ci := 10) (N := 44) (Cn := RX10) (T := TX10) rfl fi_X10_hasSpan_10 30 (by decide) (by decide +kernel) rfl dX10_hasSpan_24 ?_
      refine lv_aload_n hx hb dX10_hasSpan_27 rfl (lv_at hl 0 rfl) ?_
      refine u_get (v := .int (σ 0 31)) C G obM_0 (ci := 10) (N := 44) (Cn := RX10) (T := TX10) rfl fi_X10_hasSpan_10 31 (by decide) (by decide +kernel) rfl dX10_hasSpan_28 ?_
      refine lv_aload_n hx hb dX10_hasSpan_31 rfl (lv_at hl 0 rfl) ?_
      refine u_get (v := .ref (ad 12)) C G obM_0 (ci := 10) (N := 44) (Cn := RX10) (T := TX10) rfl fi_X10_hasSpan_10 14 (by decide) (by decide +kernel) rfl dX10_hasSpan_32 ?_
      refine lv_iload_n hx hb dX10_hasSpan_35 rfl (lv_at hl 1 rfl) ?_
      obtain ⟨g3, h⟩ := ui_of h
      refine u_iald C G arM_12 (t0 := 0) rfl g3 dX10_hasSpan_36 ?_
      obtain ⟨r4, σ5, er4, h⟩ := ub_of h
      refine u_callVi (As := [.int (σ 0 30), .int (σ 0 31), .int (σ 12 v1.toNatClampNeg)]) (rest := []) C G (c_X10_numberIn l D ad cs C.2.2.1 σ (σ 0 30) (σ 0 31) (σ 12 v1.toNatClampNeg) r4 σ5 er4) (cwV 3 C.1.2.2.2.2 gX10_hasSpan_X10_numberIn rfl rfl rfl (by decide +kernel) ⟨Nat.le_of_ble_eq_true rfl, Nat.le_of_ble_eq_true rfl⟩) obM_0 (ci := 10) (T := TX10) rfl rfl hl rfl (Nat.le_of_ble_eq_true rfl) dX10_hasSpan_37 (fun H locs G => ?_)
      refine lv_aload_n hx hb dX10_hasSpan_40 rfl (lv_at hl 0 rfl) ?_
      refine lv_aload_n hx hb dX10_hasSpan_41 rfl (lv_at hl 0 rfl) ?_
      refine u_get (v := .ref (ad 10)) C G obM_0 (ci := 10) (N := 44) (Cn := RX10) (T := TX10) rfl fi_X10_hasSpan_10 12 (by decide) (by decide +kernel) rfl dX10_hasSpan_42 ?_
      refine lv_iload_n hx hb dX10_hasSpan_45 rfl (lv_at hl 1 rfl) ?_
      obtain ⟨g6, h⟩ := ui_of h
      refine u_iald C G arM_10 (t0 := 0) rfl g6 dX10_hasSpan_46 ?_
      refine lv_aload_n hx hb dX10_hasSpan_47 rfl (lv_at hl 0 rfl) ?_
      refine u_get (v := .ref (ad 11)) C G obM_0 (ci := 10) (N := 44) (Cn := RX10) (T := TX10) rfl fi_X10_hasSpan_10 13 (by decide) (by decide +kernel) rfl dX10_hasSpan_48 ?_
      refine lv_iload_n hx hb dX10_hasSpan_51 rfl (lv_at hl 1 rfl) ?_
      obtain ⟨g7, h⟩ := ui_of h
      refine u_iald C G arM_11 (t0 := 0) rfl g7 dX10_hasSpan_52 ?_
      refine lv_aload_n hx hb dX10_hasSpan_53 rfl (lv_at hl 0 rfl) ?_
      refine u_get (v := .ref (ad 12)) C G obM_0 (ci := 10) (N := 44) (Cn := RX10) (T := TX10) rfl fi_X10_hasSpan_10 14 (by decide) (by decide +kernel) rfl dX10_hasSpan_54 ?_
      refine lv_iload_n hx hb dX10_hasSpan_57 rfl (lv_at hl 1 rfl) ?_
      obtain ⟨g8, h⟩ := ui_of h
      refine u_iald C G arM_12 (t0 := 0) rfl g8 dX10_hasSpan_58 ?_
      obtain ⟨r9, σ10, er9, h⟩ := ub_of h
      refine u_callVi (As := [.int (σ5 10 v1.toNatClampNeg), .int (σ5 11 v1.toNatClampNeg), .int (σ5 12 v1.toNatClampNeg)]) (rest := [.int r4]) C G (c_X10_numberIn l D ad cs C.2.2.1 σ5 (σ5 10 v1.toNatClampNeg) (σ5 11 v1.toNatClampNeg) (σ5 12 v1.toNatClampNeg) r9 σ10 er9) (cwV 3 C.1.2.2.2.2 gX10_hasSpan_X10_numberIn rfl rfl rfl (by decide +kernel) ⟨Nat.le_of_ble_eq_true rfl, Nat.le_of_ble_eq_true rfl⟩) obM_0 (ci := 10) (T := TX10) rfl rfl hl rfl (Nat.le_of_ble_eq_true rfl) dX10_hasSpan_59 (fun H locs G => ?_)
      refine lv_icmp_ne (tgt := 69) hx hb dX10_hasSpan_62 (by decide) (fun q => ?_) (fun q => ?_)
      · have h := u_neg q h
        refine lv_iconst (v := 0) hx hb dX10_hasSpan_69 (by decide) ?_
        obtain ⟨rfl, rfl⟩ := u_end h
        exact u_zret hx hb hr hlk G (by decide) dX10_hasSpan_70
      · have h := u_pos q h
        refine lv_iconst (v := 1) hx hb dX10_hasSpan_65 (by decide) ?_
        refine lv_goto (tgt := 70) hx hb dX10_hasSpan_66 (by decide) ?_
        obtain ⟨rfl, rfl⟩ := u_end h
        exact u_zret hx hb hr hlk G (by decide) dX10_hasSpan_70
/-! X10_yearOf -/
def f_X10_yearOf (σ : St) (v1 : Int32) (v2 : Int32) : Option (Int32 × St) :=
  ui v1 16 <|
  if (σ 6 v1.toNatClampNeg) = 0 then
    if v2 = 0 then
      some ((1700 : Int32), σ)
    else
      some ((2100 : Int32), σ)
  else
    if v2 = 0 then
      ui v1 16 <|
      some ((σ 11 v1.toNatClampNeg), σ)
    else
      ui v1 16 <|
      some ((σ 12 v1.toNatClampNeg), σ)
theorem fi_X10_yearOf_10 : ∀ w ∈ u_ws RX10 TX10 44, w ∈ wsX10_yearOf := by decide +kernel
set_option maxHeartbeats 4000000 in
set_option maxRecDepth 100000 in
theorem c_X10_yearOf (l : Launch) (D : va_G) (ad : Nat → Nat) (cs : Nat → ClassId) (J : uJ 34 ad) (σ : St) (v1 : Int32) (v2 : Int32) (r : Int32) (σ' : St) (h : f_X10_yearOf σ v1 v2 = some (r, σ')) : uMi l yX10_yearOf wsX10_yearOf { frames := 0, cells := 0, slots := 0, locals := 0 } D vwCl (tyM cs) 34 ad (enM ad cs) [.ref (ad 0), .int v1, .int v2] σ r σ' := by
  refine u_met (Qf := uQi D vwCl 34 ad (enM ad cs) r σ') (cc := cX10_yearOf) (maxL := 3) (ret := (some .int)) (lv := [(0, .ref (ad 0)), (1, .int v1), (2, .int v2)]) J (by decide) rfl (Nat.le_of_ble_eq_true rfl) rfl rfl rfl ?_
  intro p e s m args below meth c ls hx hb C hr hlk G hl
  unfold f_X10_yearOf at h
  obtain ⟨H, eH⟩ : ∃ H, H = s.heap := ⟨_, rfl⟩
  obtain ⟨locs, eL⟩ : ∃ locs : List Loc, locs = [] := ⟨_, rfl⟩
  refine u_start eH eL G ?_
  clear G eH eL
  intro G
  refine lv_aload_n hx hb dX10_yearOf_0 rfl (lv_at hl 0 rfl) ?_
  refine u_get (v := .ref (ad 6)) C G obM_0 (ci := 10) (N := 44) (Cn := RX10) (T := TX10) rfl fi_X10_yearOf_10 8 (by decide) (by decide +kernel) rfl dX10_yearOf_1 ?_
  refine lv_iload_n hx hb dX10_yearOf_4 rfl (lv_at hl 1 rfl) ?_
  obtain ⟨g1, h⟩ := ui_of h
  refine u_iald C G arM_6 (t0 := 0) rfl g1 dX10_yearOf_5 ?_
  refine lv_if_ne (tgt := 25) hx hb dX10_yearOf_6 (by decide) (fun q => ?_) (fun q => ?_)
  · have h := u_neg q h
    refine lv_iload_n hx hb dX10_yearOf_25 rfl (lv_at hl 2 rfl) ?_
    refine lv_if_eq (tgt := 38) hx hb dX10_yearOf_26 (by decide) (fun q => ?_) (fun q => ?_)
    · have h := u_pos q h
      refine lv_aload_n hx hb dX10_yearOf_38 rfl (lv_at hl 0 rfl) ?_
      refine u_get (v := .ref (ad 11)) C G obM_0 (ci := 10) (N := 44) (Cn := RX10) (T := TX10) rfl fi_X10_yearOf_10 13 (by decide) (by decide +kernel) rfl dX10_yearOf_39 ?_
      refine lv_iload_n hx hb dX10_yearOf_42 rfl (lv_at hl 1 rfl) ?_
      obtain ⟨g2, h⟩ := ui_of h
      refine u_iald C G arM_11 (t0 := 0) rfl g2 dX10_yearOf_43 ?_
      obtain ⟨rfl, rfl⟩ := u_end h
      exact u_iret hx hb hr hlk G dX10_yearOf_44
    · have h := u_neg q h
      refine lv_aload_n hx hb dX10_yearOf_29 rfl (lv_at hl 0 rfl) ?_
      refine u_get (v := .ref (ad 12)) C G obM_0 (ci := 10) (N := 44) (Cn := RX10) (T := TX10) rfl fi_X10_yearOf_10 14 (by decide) (by decide +kernel) rfl dX10_yearOf_30 ?_
      refine lv_iload_n hx hb dX10_yearOf_33 rfl (lv_at hl 1 rfl) ?_
      obtain ⟨g3, h⟩ := ui_of h
      refine u_iald C G arM_12 (t0 := 0) rfl g3 dX10_yearOf_34 ?_
      refine lv_goto (tgt := 44) hx hb dX10_yearOf_35 (by decide) ?_
      obtain ⟨rfl, rfl⟩ := u_end h
      exact u_iret hx hb hr hlk G dX10_yearOf_44
  · have h := u_pos q h
    refine lv_iload_n hx hb dX10_yearOf_9 rfl (lv_at hl 2 rfl) ?_
    refine lv_if_eq (tgt := 19) hx hb dX10_yearOf_10 (by decide) (fun q => ?_) (fun q => ?_)
    · have h := u_pos q h
      refine lv_sipush (v := 1700) hx hb dX10_yearOf_19 (by decide) ?_
      refine lv_goto (tgt := 44) hx hb dX10_yearOf_22 (by decide) ?_
      obtain ⟨rfl, rfl⟩ := u_end h
      exact u_iret hx hb hr hlk G dX10_yearOf_44
    · have h := u_neg q h
      refine lv_sipush (v := 2100) hx hb dX10_yearOf_13 (by decide) ?_
      refine lv_goto (tgt := 44) hx hb dX10_yearOf_16 (by decide) ?_
      obtain ⟨rfl, rfl⟩ := u_end h
      exact u_iret hx hb hr hlk G dX10_yearOf_44
/-! X10_span -/
def f_X10_span (σ : St) (v1 : Int32) (v2 : Int32) : Option (Int32 × St) :=
  ub (f_X10_askedFor σ v1) fun r1 σ2 =>
  if 0 ≤ r1 then
    ub (f_X10_hasSpan σ2 v1) fun r3 σ4 =>
    if r3 = 0 then
      some (((-9) : Int32), σ4)
    else
      ub (f_X10_yearOf σ4 v1 v2) fun r5 σ6 =>
      some (r5, σ6)
  else
    some (r1, σ2)
set_option maxHeartbeats 4000000 in
set_option maxRecDepth 100000 in
theorem c_X10_span (l : Launch) (D : va_G) (ad : Nat → Nat) (cs : Nat → ClassId) (J : uJ 34 ad) (σ : St) (v1 : Int32) (v2 : Int32) (r : Int32) (σ' : St) (h : f_X10_span σ v1 v2 = some (r, σ')) : uMi l yX10_span wsX10_span { frames := 3, cells := 0, slots := 0, locals := 64 } D vwCl (tyM cs) 34 ad (enM ad cs) [.ref (ad 0), .int v1, .int v2] σ r σ' := by
  refine u_met (Qf := uQi D vwCl 34 ad (enM ad cs) r σ') (cc := cX10_span) (maxL := 4) (ret := (some .int)) (lv := [(0, .ref (ad 0)), (1, .int v1), (2, .int v2)]) J (by decide) rfl (Nat.le_of_ble_eq_true rfl) rfl rfl rfl ?_
  intro p e s m args below meth c ls hx hb C hr hlk G hl
  unfold f_X10_span at h
  obtain ⟨H, eH⟩ : ∃ H, H = s.heap := ⟨_, rfl⟩
  obtain ⟨locs, eL⟩ : ∃ locs : List Loc, locs = [] := ⟨_, rfl⟩
  refine u_start eH eL G ?_
  clear G eH eL
  intro G
  refine lv_aload_n hx hb dX10_span_0 rfl (lv_at hl 0 rfl) ?_
  refine lv_iload_n hx hb dX10_span_1 rfl (lv_at hl 1 rfl) ?_
  obtain ⟨r1, σ2, er1, h⟩ := ub_of h
  refine u_callVi (As := [.int v1]) (rest := []) C G (c_X10_askedFor l D ad cs C.2.2.1 σ v1 r1 σ2 er1) (cwV 1 C.1.2.2.2.2 gX10_span_X10_askedFor rfl rfl rfl (by decide +kernel) ⟨Nat.le_of_ble_eq_true rfl, Nat.le_of_ble_eq_true rfl⟩) obM_0 (ci := 10) (T := TX10) rfl rfl hl rfl (Nat.le_of_ble_eq_true rfl) dX10_span_2 (fun H locs G => ?_)
  refine lv_istore_n (lv' := [(3, .int r1), (0, .ref (ad 0)), (1, .int v1), (2, .int v2)]) hx hb dX10_span_5 rfl hl (by decide) rfl (fun ls hl => ?_)
  refine lv_iload_n hx hb dX10_span_6 rfl (lv_at hl 0 rfl) ?_
  refine lv_if_ge (tgt := 14) hx hb dX10_span_7 (by decide) (fun q => ?_) (fun q => ?_)
  · have h := u_pos q h
    refine lv_aload_n hx hb dX10_span_14 rfl (lv_at hl 1 rfl) ?_
    refine lv_iload_n hx hb dX10_span_15 rfl (lv_at hl 2 rfl) ?_
    obtain ⟨r3, σ4, er3, h⟩ := ub_of h
    refine u_callVi (As := [.int v1]) (rest := []) C G (c_X10_hasSpan l D ad cs C.2.2.1 σ2 v1 r3 σ4 er3) (cwV 1 C.1.2.2.2.2 gX10_span_X10_hasSpan rfl rfl rfl (by decide +kernel) ⟨Nat.le_of_ble_eq_true rfl, Nat.le_of_ble_eq_true rfl⟩) obM_0 (ci := 10) (T := TX10) rfl rfl hl rfl (Nat.le_of_ble_eq_true rfl) dX10_span_16 (fun H locs G => ?_)
    refine lv_if_eq (tgt := 31) hx hb dX10_span_19 (by decide) (fun q => ?_) (fun q => ?_)
    · have h := u_pos q h
      refine lv_bipush (v := (-9)) hx hb dX10_span_31 (by decide) ?_
      obtain ⟨rfl, rfl⟩ := u_end h
      exact u_iret hx hb hr hlk G dX10_span_33
    · have h := u_neg q h
      refine lv_aload_n hx hb dX10_span_22 rfl (lv_at hl 1 rfl) ?_
      refine lv_iload_n hx hb dX10_span_23 rfl (lv_at hl 2 rfl) ?_
      refine lv_iload_n hx hb dX10_span_24 rfl (lv_at hl 3 rfl) ?_
      obtain ⟨r5, σ6, er5, h⟩ := ub_of h
      refine u_callVi (As := [.int v1, .int v2]) (rest := []) C G (c_X10_yearOf l D ad cs C.2.2.1 σ4 v1 v2 r5 σ6 er5) (cwV 2 C.1.2.2.2.2 gX10_span_X10_yearOf rfl rfl rfl (by decide +kernel) ⟨Nat.le_of_ble_eq_true rfl, Nat.le_of_ble_eq_true rfl⟩) obM_0 (ci := 10) (T := TX10) rfl rfl hl rfl (Nat.le_of_ble_eq_true rfl) dX10_span_25 (fun H locs G => ?_)
      refine lv_goto (tgt := 33) hx hb dX10_span_28 (by decide) ?_
      obtain ⟨rfl, rfl⟩ := u_end h
      exact u_iret hx hb hr hlk G dX10_span_33
  · have h := u_neg q h
    refine lv_iload_n hx hb dX10_span_10 rfl (lv_at hl 0 rfl) ?_
    refine lv_goto (tgt := 33) hx hb dX10_span_11 (by decide) ?_
    obtain ⟨rfl, rfl⟩ := u_end h
    exact u_iret hx hb hr hlk G dX10_span_33
/-! X10_agrees -/
def f_X10_agrees_27 : Nat → St → Int32 → Int32 → Int32 → Option (Int32 × St)
  | 0, _, _, _, _ => none
  | fuel + 1, σ, v1, v2, v3 =>
    ui v1 4 <|
    if (σ 16 v1.toNatClampNeg) ≤ v3 then
      some (v2, σ)
    else
      ui ((3 * v1) + v3) 12 <|
      ul (σ 17 ((3 * v1) + v3).toNatClampNeg) fun x6 =>
      ub (f_X10_yearOf σ x6 (0 : Int32)) fun r7 σ8 =>
      if r7 ≤ v2 then
        ub (f_X10_hasSpan σ8 x6) fun r9 σ10 =>
        if r9 = 0 then
          some (((-9) : Int32), σ10)
        else
          ub (f_X10_yearOf σ10 x6 (1 : Int32)) fun r11 σ12 =>
          if v2 ≤ r11 then
            ul (v3 + 1) fun x13 =>
            f_X10_agrees_27 fuel σ12 v1 v2 x13
          else
            some (((-9) : Int32), σ12)
      else
        ub (f_X10_yearOf σ8 x6 (0 : Int32)) fun r14 σ15 =>
        ub (f_X10_hasSpan σ15 x6) fun r16 σ17 =>
        if r16 = 0 then
          some (((-9) : Int32), σ17)
        else
          ub (f_X10_yearOf σ17 x6 (1 : Int32)) fun r18 σ19 =>
          if r14 ≤ r18 then
            ul (v3 + 1) fun x20 =>
            f_X10_agrees_27 fuel σ19 v1 r14 x20
          else
            some (((-9) : Int32), σ19)
def f_X10_agrees (σ : St) (v1 : Int32) : Option (Int32 × St) :=
  ub (f_X10_isLine σ v1) fun r1 σ2 =>
  if r1 = 0 then
    some (((-1) : Int32), σ2)
  else
    ui v1 4 <|
    if (σ2 16 v1.toNatClampNeg) = 0 then
      some (((-4) : Int32), σ2)
    else
      f_X10_agrees_27 fu σ2 v1 1700 0
theorem fi_X10_agrees_10 : ∀ w ∈ u_ws RX10 TX10 44, w ∈ wsX10_agrees := by decide +kernel
set_option maxHeartbeats 4000000 in
set_option maxRecDepth 100000 in
theorem w_X10_agrees_27 {p : Program} {l : Launch} {e : Env} {s : State} {m : MethodId} {args : Array Value} {below : List Frame} {meth : Method} {c : Code} {D : va_G} {ad : Nat → Nat} {cs : Nat → ClassId} (C : uC p { frames := 2, cells := 0, slots := 0, locals := 46 } s m args c cX10_agrees 5 wsX10_agrees RX10 D vwCl (tyM cs) 34 ad (uAd 34 ad s.heap.size) 0 0) (hr : meth.sig.returnType = (some .int)) (hlk : meth.locks = false) {r : Int32} {σ' : St} :
    ∀ (n : Nat) (σ : St) (v1 : Int32) (v2 : Int32) (v3 : Int32), f_X10_agrees_27 n σ v1 v2 v3 = some (r, σ') → ∀ (H : Heap) (locs : List Loc) (ls : Array Slot), uG D vwCl 34 ad (enM ad cs) (uAd 34 ad s.heap.size) s σ H locs → lv_has ls 5 [(0, .ref (ad 0)), (1, .int v1), (2, .int v2), (3, .int v3)] → W p l e { frames := 2, cells := 0, slots := 0, locals := 46 } s m args below meth c H locs 0 0 (MQ below (uQi D vwCl 34 ad (enM ad cs) r σ' s.heap.size) args s 0 0 (uAd 34 ad s.heap.size)) (F0 m 27 ls []) := by
  have hx := C.1.1
  have hb := C.1.2.1
  intro n
  induction n with
  | zero => intro σ v1 v2 v3  h; exact absurd h (by simp [f_X10_agrees_27])
  | succ fuel ih =>
    intro σ v1 v2 v3  h H locs ls G hl
    rw [f_X10_agrees_27] at h
    refine lv_iload_n hx hb dX10_agrees_27 rfl (lv_at hl 3 rfl) ?_
    refine lv_aload_n hx hb dX10_agrees_28 rfl (lv_at hl 0 rfl) ?_
    refine u_get (v := .ref (ad 16)) C G obM_0 (ci := 10) (N := 44) (Cn := RX10) (T := TX10) rfl fi_X10_agrees_10 19 (by decide) (by decide +kernel) rfl dX10_agrees_29 ?_
    refine lv_iload_n hx hb dX10_agrees_32 rfl (lv_at hl 1 rfl) ?_
    obtain ⟨g4, h⟩ := ui_of h
    refine u_iald C G arM_16 (t0 := 0) rfl g4 dX10_agrees_33 ?_
    refine lv_icmp_ge (tgt := 101) hx hb dX10_agrees_34 (by decide) (fun q => ?_) (fun q => ?_)
    · have h := u_pos q h
      refine lv_iload_n hx hb dX10_agrees_101 rfl (lv_at hl 2 rfl) ?_
      obtain ⟨rfl, rfl⟩ := u_end h
      exact u_iret hx hb hr hlk G dX10_agrees_102
    · have h := u_neg q h
      refine lv_aload_n hx hb dX10_agrees_37 rfl (lv_at hl 0 rfl) ?_
      refine u_get (v := .ref (ad 17)) C G obM_0 (ci := 10) (N := 44) (Cn := RX10) (T := TX10) rfl fi_X10_agrees_10 20 (by decide) (by decide +kernel) rfl dX10_agrees_38 ?_
      refine lv_iconst (v := 3) hx hb dX10_agrees_41 (by decide) ?_
      refine lv_iload_n hx hb dX10_agrees_42 rfl (lv_at hl 1 rfl) ?_
      refine lv_imul hx hb dX10_agrees_43 ?_
      refine lv_iload_n hx hb dX10_agrees_44 rfl (lv_at hl 3 rfl) ?_
      refine lv_iadd hx hb dX10_agrees_45 ?_
      obtain ⟨g5, h⟩ := ui_of h
      refine u_iald C G arM_17 (t0 := 0) rfl g5 dX10_agrees_46 ?_
      obtain ⟨x6, ex6, h⟩ := ul_of h
      refine u_nmi ex6 ?_
      refine lv_istore (lv' := [(4, .int x6), (0, .ref (ad 0)), (1, .int v1), (2, .int v2), (3, .int v3)]) hx hb dX10_agrees_47 hl (by decide) rfl (fun ls hl => ?_)
      refine lv_aload_n hx hb dX10_agrees_49 rfl (lv_at hl 1 rfl) ?_
      refine lv_iload hx hb dX10_agrees_50 (lv_at hl 0 rfl) ?_
      refine lv_iconst (v := 0) hx hb dX10_agrees_52 (by decide) ?_
      obtain ⟨r7, σ8, er7, h⟩ := ub_of h
      refine u_callVi (As := [.int x6, .int 0]) (rest := []) C G (c_X10_yearOf l D ad cs C.2.2.1 σ x6 (0 : Int32) r7 σ8 er7) (cwV 2 C.1.2.2.2.2 gX10_agrees_X10_yearOf rfl rfl rfl (by decide +kernel) ⟨Nat.le_of_ble_eq_true rfl, Nat.le_of_ble_eq_true rfl⟩) obM_0 (ci := 10) (T := TX10) rfl rfl hl rfl (Nat.le_of_ble_eq_true rfl) dX10_agrees_53 (fun H locs G => ?_)
      refine lv_iload_n hx hb dX10_agrees_56 rfl (lv_at hl 3 rfl) ?_
      refine lv_icmp_le (tgt := 70) hx hb dX10_agrees_57 (by decide) (fun q => ?_) (fun q => ?_)
      · have h := u_pos q h
        refine lv_iload_n hx hb dX10_agrees_70 rfl (lv_at hl 3 rfl) ?_
        refine lv_istore_n (lv' := [(2, .int v2), (4, .int x6), (0, .ref (ad 0)), (1, .int v1), (3, .int v3)]) hx hb dX10_agrees_71 rfl hl (by decide) rfl (fun ls hl => ?_)
        refine lv_aload_n hx hb dX10_agrees_72 rfl (lv_at hl 2 rfl) ?_
        refine lv_iload hx hb dX10_agrees_73 (lv_at hl 1 rfl) ?_
        obtain ⟨r9, σ10, er9, h⟩ := ub_of h
        refine u_callVi (As := [.int x6]) (rest := []) C G (c_X10_hasSpan l D ad cs C.2.2.1 σ8 x6 r9 σ10 er9) (cwV 1 C.1.2.2.2.2 gX10_agrees_X10_hasSpan rfl rfl rfl (by decide +kernel) ⟨Nat.le_of_ble_eq_true rfl, Nat.le_of_ble_eq_true rfl⟩) obM_0 (ci := 10) (T := TX10) rfl rfl hl rfl (Nat.le_of_ble_eq_true rfl) dX10_agrees_75 (fun H locs G => ?_)
        refine lv_if_eq (tgt := 92) hx hb dX10_agrees_78 (by decide) (fun q => ?_) (fun q => ?_)
        · have h := u_pos q h
          refine lv_bipush (v := (-9)) hx hb dX10_agrees_92 (by decide) ?_
          obtain ⟨rfl, rfl⟩ := u_end h
          exact u_iret hx hb hr hlk G dX10_agrees_94
        · have h := u_neg q h
          refine lv_iload_n hx hb dX10_agrees_81 rfl (lv_at hl 0 rfl) ?_
          refine lv_aload_n hx hb dX10_agrees_82 rfl (lv_at hl 2 rfl) ?_
          refine lv_iload hx hb dX10_agrees_83 (lv_at hl 1 rfl) ?_
          refine lv_iconst (v := 1) hx hb dX10_agrees_85 (by decide) ?_
          obtain ⟨r11, σ12, er11, h⟩ := ub_of h
          refine u_callVi (As := [.int x6, .int 1]) (rest := [.int v2]) C G (c_X10_yearOf l D ad cs C.2.2.1 σ10 x6 (1 : Int32) r11 σ12 er11) (cwV 2 C.1.2.2.2.2 gX10_agrees_X10_yearOf rfl rfl rfl (by decide +kernel) ⟨Nat.le_of_ble_eq_true rfl, Nat.le_of_ble_eq_true rfl⟩) obM_0 (ci := 10) (T := TX10) rfl rfl hl rfl (Nat.le_of_ble_eq_true rfl) dX10_agrees_86 (fun H locs G => ?_)
          refine lv_icmp_le (tgt := 95) hx hb dX10_agrees_89 (by decide) (fun q => ?_) (fun q => ?_)
          · have h := u_pos q h
            obtain ⟨x13, ex13, h⟩ := ul_of h
            refine lv_iinc (v := x13) (lv' := [(3, .int x13), (2, .int v2), (4, .int x6), (0, .ref (ad 0)), (1, .int v1)]) hx hb dX10_agrees_95 hl (k := 4) rfl (by rw [ex13]; rfl) (by decide) rfl (fun ls hl => ?_)
            refine lv_goto (tgt := 27) hx hb dX10_agrees_98 (by decide) ?_
            exact ih σ12 v1 v2 x13 h H locs ls G (lv_sub hl [3, 4, 1, 0] rfl)
          · have h := u_neg q h
            refine lv_bipush (v := (-9)) hx hb dX10_agrees_92 (by decide) ?_
            obtain ⟨rfl, rfl⟩ := u_end h
            exact u_iret hx hb hr hlk G dX10_agrees_94
      · have h := u_neg q h
        refine lv_aload_n hx hb dX10_agrees_60 rfl (lv_at hl 1 rfl) ?_
        refine lv_iload hx hb dX10_agrees_61 (lv_at hl 0 rfl) ?_
        refine lv_iconst (v := 0) hx hb dX10_agrees_63 (by decide) ?_
        obtain ⟨r14, σ15, er14, h⟩ := ub_of h
        refine u_callVi (As := [.int x6, .int 0]) (rest := []) C G (c_X10_yearOf l D ad cs C.2.2.1 σ8 x6 (0 : Int32) r14 σ15 er14) (cwV 2 C.1.2.2.2.2 gX10_agrees_X10_yearOf rfl rfl rfl (by decide +kernel) ⟨Nat.le_of_ble_eq_true rfl, Nat.le_of_ble_eq_true rfl⟩) obM_0 (ci := 10) (T := TX10) rfl rfl hl rfl (Nat.le_of_ble_eq_true rfl) dX10_agrees_64 (fun H locs G => ?_)
        refine lv_goto (tgt := 71) hx hb dX10_agrees_67 (by decide) ?_
        refine lv_istore_n (lv' := [(2, .int r14), (4, .int x6), (0, .ref (ad 0)), (1, .int v1), (3, .int v3)]) hx hb dX10_agrees_71 rfl hl (by decide) rfl (fun ls hl => ?_)
        refine lv_aload_n hx hb dX10_agrees_72 rfl (lv_at hl 2 rfl) ?_
        refine lv_iload hx hb dX10_agrees_73 (lv_at hl 1 rfl) ?_
        obtain ⟨r16, σ17, er16, h⟩ := ub_of h
        refine u_callVi (As := [.int x6]) (rest := []) C G (c_X10_hasSpan l D ad cs C.2.2.1 σ15 x6 r16 σ17 er16) (cwV 1 C.1.2.2.2.2 gX10_agrees_X10_hasSpan rfl rfl rfl (by decide +kernel) ⟨Nat.le_of_ble_eq_true rfl, Nat.le_of_ble_eq_true rfl⟩) obM_0 (ci := 10) (T := TX10) rfl rfl hl rfl (Nat.le_of_ble_eq_true rfl) dX10_agrees_75 (fun H locs G => ?_)
        refine lv_if_eq (tgt := 92) hx hb dX10_agrees_78 (by decide) (fun q => ?_) (fun q => ?_)
        · have h := u_pos q h
          refine lv_bipush (v := (-9)) hx hb dX10_agrees_92 (by decide) ?_
          obtain ⟨rfl, rfl⟩ := u_end h
          exact u_iret hx hb hr hlk G dX10_agrees_94
        · have h := u_neg q h
          refine lv_iload_n hx hb dX10_agrees_81 rfl (lv_at hl 0 rfl) ?_
          refine lv_aload_n hx hb dX10_agrees_82 rfl (lv_at hl 2 rfl) ?_
          refine lv_iload hx hb dX10_agrees_83 (lv_at hl 1 rfl) ?_
          refine lv_iconst (v := 1) hx hb dX10_agrees_85 (by decide) ?_
          obtain ⟨r18, σ19, er18, h⟩ := ub_of h
          refine u_callVi (As := [.int x6, .int 1]) (rest := [.int r14]) C G (c_X10_yearOf l D ad cs C.2.2.1 σ17 x6 (1 : Int32) r18 σ19 er18) (cwV 2 C.1.2.2.2.2 gX10_agrees_X10_yearOf rfl rfl rfl (by decide +kernel) ⟨Nat.le_of_ble_eq_true rfl, Nat.le_of_ble_eq_true rfl⟩) obM_0 (ci := 10) (T := TX10) rfl rfl hl rfl (Nat.le_of_ble_eq_true rfl) dX10_agrees_86 (fun H locs G => ?_)
          refine lv_icmp_le (tgt := 95) hx hb dX10_agrees_89 (by decide) (fun q => ?_) (fun q => ?_)
          · have h := u_pos q h
            obtain ⟨x20, ex20, h⟩ := ul_of h
            refine lv_iinc (v := x20) (lv' := [(3, .int x20), (2, .int r14), (4, .int x6), (0, .ref (ad 0)), (1, .int v1)]) hx hb dX10_agrees_95 hl (k := 4) rfl (by rw [ex20]; rfl) (by decide) rfl (fun ls hl => ?_)
            refine lv_goto (tgt := 27) hx hb dX10_agrees_98 (by decide) ?_
            exact ih σ19 v1 r14 x20 h H locs ls G (lv_sub hl [3, 4, 1, 0] rfl)
          · have h := u_neg q h
            refine lv_bipush (v := (-9)) hx hb dX10_agrees_92 (by decide) ?_
            obtain ⟨rfl, rfl⟩ := u_end h
            exact u_iret hx hb hr hlk G dX10_agrees_94
set_option maxHeartbeats 4000000 in
set_option maxRecDepth 100000 in
theorem c_X10_agrees (l : Launch) (D : va_G) (ad : Nat → Nat) (cs : Nat → ClassId) (J : uJ 34 ad) (σ : St) (v1 : Int32) (r : Int32) (σ' : St) (h : f_X10_agrees σ v1 = some (r, σ')) : uMi l yX10_agrees wsX10_agrees { frames := 2, cells := 0, slots := 0, locals := 46 } D vwCl (tyM cs) 34 ad (enM ad cs) [.ref (ad 0), .int v1] σ r σ' := by
  refine u_met (Qf := uQi D vwCl 34 ad (enM ad cs) r σ') (cc := cX10_agrees) (maxL := 5) (ret := (some .int)) (lv := [(0, .ref (ad 0)), (1, .int v1)]) J (by decide) rfl (Nat.le_of_ble_eq_true rfl) rfl rfl rfl ?_
  intro p e s m args below meth c ls hx hb C hr hlk G hl
  unfold f_X10_agrees at h
  obtain ⟨H, eH⟩ : ∃ H, H = s.heap := ⟨_, rfl⟩
  obtain ⟨locs, eL⟩ : ∃ locs : List Loc, locs = [] := ⟨_, rfl⟩
  refine u_start eH eL G ?_
  clear G eH eL
  intro G
  refine lv_iload_n hx hb dX10_agrees_0 rfl (lv_at hl 1 rfl) ?_
  obtain ⟨r1, σ2, er1, h⟩ := ub_of h
  refine u_callSi (As := [.int v1]) (rest := []) C G (c_X10_isLine l D ad cs C.2.2.1 σ v1 r1 σ2 er1) (va_cwS 1 C.1.2.2.2.2 gX10_agrees_X10_isLine rfl rfl rfl (by decide +kernel) ⟨Nat.le_of_ble_eq_true rfl, Nat.le_of_ble_eq_true rfl⟩) rfl hl rfl (Nat.le_of_ble_eq_true rfl) dX10_agrees_1 (fun H locs G => ?_)
  refine lv_if_ne (tgt := 9) hx hb dX10_agrees_4 (by decide) (fun q => ?_) (fun q => ?_)
  · have h := u_neg q h
    refine lv_aload_n hx hb dX10_agrees_9 rfl (lv_at hl 0 rfl) ?_
    refine u_get (v := .ref (ad 16)) C G obM_0 (ci := 10) (N := 44) (Cn := RX10) (T := TX10) rfl fi_X10_agrees_10 19 (by decide) (by decide +kernel) rfl dX10_agrees_10 ?_
    refine lv_iload_n hx hb dX10_agrees_13 rfl (lv_at hl 1 rfl) ?_
    obtain ⟨g3, h⟩ := ui_of h
    refine u_iald C G arM_16 (t0 := 0) rfl g3 dX10_agrees_14 ?_
    refine lv_if_ne (tgt := 21) hx hb dX10_agrees_15 (by decide) (fun q => ?_) (fun q => ?_)
    · have h := u_neg q h
      refine lv_sipush (v := 1700) hx hb dX10_agrees_21 (by decide) ?_
      refine lv_istore_n (lv' := [(2, .int 1700), (0, .ref (ad 0)), (1, .int v1)]) hx hb dX10_agrees_24 rfl hl (by decide) rfl (fun ls hl => ?_)
      refine lv_iconst (v := 0) hx hb dX10_agrees_25 (by decide) ?_
      refine lv_istore_n (lv' := [(3, .int 0), (2, .int 1700), (0, .ref (ad 0)), (1, .int v1)]) hx hb dX10_agrees_26 rfl hl (by decide) rfl (fun ls hl => ?_)
      exact w_X10_agrees_27 C hr hlk fu σ2 v1 1700 0 h H locs ls G (lv_sub hl [2, 3, 1, 0] rfl)
    · have h := u_pos q h
      refine lv_bipush (v := (-4)) hx hb dX10_agrees_18 (by decide) ?_
      obtain ⟨rfl, rfl⟩ := u_end h
      exact u_iret hx hb hr hlk G dX10_agrees_20
  · have h := u_pos q h
    refine lv_iconst (v := (-1)) hx hb dX10_agrees_7 (by decide) ?_
    obtain ⟨rfl, rfl⟩ := u_end h
    exact u_iret hx hb hr hlk G dX10_agrees_8
