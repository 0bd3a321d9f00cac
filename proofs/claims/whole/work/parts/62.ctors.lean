def enF (cs : Nat → ClassId) (k : Nat) (f : Nat → Int32) : va_E := .inl (cs 0, 4, .inl f)
theorem arF_0 {cs : Nat → ClassId} : uA 1 (enF cs) 0 (cs 0) 4 := ⟨by decide, fun f => rfl⟩
def f_J7_fill_53178_5 : Nat → St → Int32 → Int32 → Int32 → Option (Unit × St)
  | 0, _, _, _, _ => none
  | fuel + 1, σ, v1, v2, v3 =>
    if v3 ≤ v2 then
      some ((), σ)
    else
      ui v2 4 <|
      ul (us σ 0 v2.toNatClampNeg v1) fun σ3 =>
      ul (v2 + 1) fun x4 =>
      f_J7_fill_53178_5 fuel σ3 v1 x4 v3
def f_J7_fill_53178 (σ : St) (v1 : Int32) : Option (Unit × St) :=
  ul (Int32.ofNat 4) fun x1 =>
  f_J7_fill_53178_5 fu σ v1 0 x1
set_option maxHeartbeats 4000000 in
set_option maxRecDepth 100000 in
theorem w_J7_fill_53178_5 {p : Program} {l : Launch} {e : Env} {s : State} {m : MethodId} {args : Array Value} {below : List Frame} {meth : Method} {c : Code} {D : va_G} {ad : Nat → Nat} {cs : Nat → ClassId} (C : uC p { frames := 0, cells := 0, slots := 0, locals := 0 } s m args c cJ7_fill_53178 4 wsJ7_fill_53178 RJ7 D vwCl (tyX cs) 1 ad (uAd 1 ad s.heap.size) 0 0) (hr : meth.sig.returnType = none) (hlk : meth.locks = false) {σ' : St} :
    ∀ (n : Nat) (σ : St) (v1 : Int32) (v2 : Int32) (v3 : Int32), f_J7_fill_53178_5 n σ v1 v2 v3 = some ((), σ') → ∀ (H : Heap) (locs : List Loc) (ls : Array Slot), uG D vwCl 1 ad (enF cs) (uAd 1 ad s.heap.size) s σ H locs → lv_has ls 4 [(0, .ref (ad 0)), (1, .int v1), (2, .int v2), (3, .int v3)] → W p l e { frames := 0, cells := 0, slots := 0, locals := 0 } s m args below meth c H locs 0 0 (MQ below (uQv D vwCl 1 ad (enF cs) σ' s.heap.size) args s 0 0 (uAd 1 ad s.heap.size)) (F0 m 5 ls []) := by
  have hx := C.1.1
  have hb := C.1.2.1
  intro n
  induction n with
  | zero => intro σ v1 v2 v3  h; exact absurd h (by simp [f_J7_fill_53178_5])
  | succ fuel ih =>
    intro σ v1 v2 v3  h H locs ls G hl
    rw [f_J7_fill_53178_5] at h
    refine lv_iload_n hx hb dJ7_fill_53178_5 rfl (lv_at hl 2 rfl) ?_
    refine lv_iload_n hx hb dJ7_fill_53178_6 rfl (lv_at hl 3 rfl) ?_
    refine lv_icmp_ge (tgt := 20) hx hb dJ7_fill_53178_7 (by decide) (fun q => ?_) (fun q => ?_)
    · have h := u_pos q h
      obtain ⟨-, rfl⟩ := u_end h
      exact u_vret hx hb hr hlk G dJ7_fill_53178_20
    · have h := u_neg q h
      refine lv_aload_n hx hb dJ7_fill_53178_10 rfl (lv_at hl 0 rfl) ?_
      refine lv_iload_n hx hb dJ7_fill_53178_11 rfl (lv_at hl 2 rfl) ?_
      refine lv_iload_n hx hb dJ7_fill_53178_12 rfl (lv_at hl 1 rfl) ?_
      obtain ⟨g2, h⟩ := ui_of h
      refine u_iast C G arF_0 (t0 := 0) rfl g2 dJ7_fill_53178_13 (fun H locs G => ?_)
      obtain ⟨σ3, eσ3, h⟩ := ul_of h
      replace G := uG_eq eσ3 G
      obtain ⟨x4, ex4, h⟩ := ul_of h
      refine lv_iinc (v := x4) (lv' := [(2, .int x4), (0, .ref (ad 0)), (1, .int v1), (3, .int v3)]) hx hb dJ7_fill_53178_14 hl (k := 2) rfl (by rw [ex4]; rfl) (by decide) rfl (fun ls hl => ?_)
      refine lv_goto (tgt := 5) hx hb dJ7_fill_53178_17 (by decide) ?_
      exact ih σ3 v1 x4 v3 h H locs ls G (lv_sub hl [1, 2, 0, 3] rfl)
set_option maxHeartbeats 4000000 in
set_option maxRecDepth 100000 in
theorem c_J7_fill_53178 (l : Launch) (D : va_G) (ad : Nat → Nat) (cs : Nat → ClassId) (J : uJ 1 ad) (σ : St) (v1 : Int32) (r : Unit) (σ' : St) (h : f_J7_fill_53178 σ v1 = some (r, σ')) : uMv l yJ7_fill_53178 wsJ7_fill_53178 { frames := 0, cells := 0, slots := 0, locals := 0 } D vwCl (tyX cs) 1 ad (enF cs) [.ref (ad 0), .int v1] σ σ' := by
  refine u_met (Qf := uQv D vwCl 1 ad (enF cs) σ') (cc := cJ7_fill_53178) (maxL := 4) (ret := none) (lv := [(0, .ref (ad 0)), (1, .int v1)]) J (by decide) rfl (Nat.le_of_ble_eq_true rfl) rfl rfl rfl ?_
  intro p e s m args below meth c ls hx hb C hr hlk G hl
  unfold f_J7_fill_53178 at h
  obtain ⟨H, eH⟩ : ∃ H, H = s.heap := ⟨_, rfl⟩
  obtain ⟨locs, eL⟩ : ∃ locs : List Loc, locs = [] := ⟨_, rfl⟩
  refine u_start eH eL G ?_
  clear G eH eL
  intro G
  refine lv_iconst (v := 0) hx hb dJ7_fill_53178_0 (by decide) ?_
  refine lv_istore_n (lv' := [(2, .int 0), (0, .ref (ad 0)), (1, .int v1)]) hx hb dJ7_fill_53178_1 rfl hl (by decide) rfl (fun ls hl => ?_)
  refine lv_aload_n hx hb dJ7_fill_53178_2 rfl (lv_at hl 1 rfl) ?_
  refine u_alen C G arF_0 (t0 := 0) rfl dJ7_fill_53178_3 ?_
  obtain ⟨x1, ex1, h⟩ := ul_of h
  refine u_nmi ex1 ?_
  refine lv_istore_n (lv' := [(3, .int x1), (2, .int 0), (0, .ref (ad 0)), (1, .int v1)]) hx hb dJ7_fill_53178_4 rfl hl (by decide) rfl (fun ls hl => ?_)
  exact w_J7_fill_53178_5 C hr hlk fu σ v1 0 x1 h H locs ls G (lv_sub hl [2, 3, 1, 0] rfl)
theorem fu_4 : ∃ k, fu = k + 1 + 1 + 1 + 1 + 1 := ⟨4995, rfl⟩
theorem fill_step {fuel : Nat} {σ : St} {j : Int32} (h : (decide (¬ (Int32.ofNat 4) ≤ j ∧ ¬ (j < 0 ∨ 4 ≤ j.toNatClampNeg))) = true) : f_J7_fill_53178_5 (fuel + 1) σ (-1) j (Int32.ofNat 4) = f_J7_fill_53178_5 fuel (us σ 0 j.toNatClampNeg (-1)) (-1) (j + 1) (Int32.ofNat 4) := by
  have h := of_decide_eq_true h
  rw [f_J7_fill_53178_5, if_neg h.1]
  unfold ui ul
  rw [if_neg h.2]
theorem fill_m1 : f_J7_fill_53178 (fun _ _ => 0) (-1) = some ((), us (us (us (us (fun _ _ => 0) 0 (0 : Int32).toNatClampNeg (-1)) 0 (0 + 1 : Int32).toNatClampNeg (-1)) 0 (0 + 1 + 1 : Int32).toNatClampNeg (-1)) 0 (0 + 1 + 1 + 1 : Int32).toNatClampNeg (-1)) := by
  obtain ⟨k, hk⟩ := fu_4
  show f_J7_fill_53178_5 fu (fun _ _ => 0) (-1) 0 (Int32.ofNat 4) = _
  rw [hk, fill_step (by decide), fill_step (by decide), fill_step (by decide), fill_step (by decide), f_J7_fill_53178_5, if_pos (by decide)]
def enX0l (ad : Nat → Nat) (cs : Nat → ClassId) (f : Nat → Int32) : List va_E := [.inr (0, [.ref (ad 1), .ref (ad 2), .int (f 2)]), .inl (cs 0, 12, .inl f), .inl (cs 0, 12, .inl f)]
def enX0 (cs : Nat → ClassId) (ad : Nat → Nat) (k : Nat) (f : Nat → Int32) : va_E := (enX0l ad cs f).getD k (.inr (0, []))
set_option maxHeartbeats 8000000 in
set_option maxRecDepth 100000 in
theorem c_X0_init (l : Launch) (D : va_G) (cs : Nat → ClassId) : uMc l yX0_init wsX0_init { frames := 1, cells := 2, slots := 24, locals := 12 } D vwCl cs 0 [.null, .null, .int 0] 3 (enX0 cs) (fun _ _ => 0) 2 24 := by
  intro h0 sz
  refine Met.ofW (cc := cX0_init) (maxL := 1) (ret := none) (by decide) rfl ?_
  intro p e s m args below meth c s₁ B hml hv
  obtain ⟨rfl, hsz, hP, hK, hAO⟩ := hv
  have hx := B.exec
  have hb := B.bytes
  have hr := B.returns
  have hts := atoms_spec (ws := wsX0_init) B.pre
  have hown : s.vm.findClass RX0 = some m.cls := findClass_of_methodNamed B.named
  have hlocks := B.notSynchronized
  have hin : meth.name = "<init>" := (name_of_methodNamed B.named B.method).1
  subst hsz
  have hlt : h0 < s.heap.size := (hP 0 _ rfl).lt
  generalize hAe : uN h0 s.heap.size = A
  have hA : ∀ q : Nat, s.heap.size ≤ q → A q := fun q h => by rw [← hAe]; exact Or.inr h
  have hAn : ∀ q : Nat, A q → q ≠ h0 → s.heap.size ≤ q := fun q h g => by rw [← hAe] at h; exact h.resolve_left g
  have hD : va_D A [(h0, .inr (0, [.null, .null, .int 0]))] := ⟨fun i j x y h1 h2 _ => by have a1 := (List.getElem?_eq_some_iff.mp h1).1; have a2 := (List.getElem?_eq_some_iff.mp h2).1; simp at a1 a2; omega, fun k q h => by have a1 := (List.getElem?_eq_some_iff.mp h).1; simp at a1; subst a1; cases h; rw [← hAe]; exact Or.inl rfl⟩
  have hS : va_S A s.heap s.heap [] := va_S.rf
  have hl := lv_entry ([.ref h0]) (n := 1) (Nat.le_of_ble_eq_true rfl)
  rw [lg_entry_eq]
  generalize (lg_sl ([.ref h0]) ++ List.replicate (1 - (lg_sl ([.ref h0])).length) Slot.unset).toArray = ls at hl ⊢
  have hl : lv_has ls 1 [(0, .ref h0)] := hl
  obtain ⟨H, eH⟩ : ∃ H, H = s.heap := ⟨_, rfl⟩
  obtain ⟨locs, eL⟩ : ∃ locs : List Loc, locs = [] := ⟨_, rfl⟩
  refine u_start2 eH eL hP hS ?_
  clear hP hS eH eL
  intro hP hS
  refine lv_aload_n hx hb dX0_init_0 rfl (lv_at hl 0 rfl) ?_
  refine W.objInit hx hb hown (hts (.methodLink RX0 1 objectInit) (by decide +kernel)) (hts (.instanceMethod objectInit) (by decide +kernel)) (hts (.code objectInit ⟨#[0xb1]⟩ 1 none) (by decide +kernel)) rfl (by rw [hml]; exact hl.1) rfl dX0_init_1 (Nat.le_of_ble_eq_true rfl) (Nat.le_of_ble_eq_true rfl) ?_
  refine W.eq (g2 := F0 m 4 ls []) rfl ?_
  refine lv_aload_n hx hb dX0_init_4 rfl (lv_at hl 0 rfl) ?_
  refine lv_bipush (v := 12) hx hb dX0_init_5 (by decide) ?_
  refine u_newa 0 (atype := .int) (n := 12) (N' := 12) hx hb (hts (.arrayClass .int) (by decide +kernel)) (ty := .int) rfl hK hP hD hS hA rfl rfl (fun C h => by cases h) (by decide) (by decide) (by show 12 * 4 ≤ 536870912; omega) (Nat.le_of_ble_eq_true rfl) (Nat.le_of_ble_eq_true rfl) dX0_init_7 (fun q1 H hP hD hS => ?_)
  have hP : va_P D vwCl [(h0, .inr (0, [.null, .null, .int 0])), (q1, .inl (cs 0, 12, .inl (fun _ => 0)))] H := hP
  have hD : va_D A [(h0, .inr (0, [.null, .null, .int 0])), (q1, .inl (cs 0, 12, .inl (fun _ => 0)))] := hD
  refine va_putF (D := D) (ci := 0) (v := .ref q1) (ty := (tyX0 0)) (C := RX0) (T := TX0) (N := 3) hx hb hts (by decide +kernel) tyX0 tyX0_ok nmX0 hown hK hP hD hS 0 rfl rfl 0 (by decide) (hts (.fieldLink RX0 9 "GhostSigns$Hands" "onLine" "[I") (by decide +kernel)) (fun _ h9 => h9) rfl hin rfl (by decide +kernel) rfl rfl (Nat.le_of_ble_eq_true rfl) dX0_init_9 (fun H locs hP hD hS => ?_)
  have hP : va_P D vwCl [(h0, .inr (0, [.ref q1, .null, .int 0])), (q1, .inl (cs 0, 12, .inl (fun _ => 0)))] H := hP
  have hD : va_D A [(h0, .inr (0, [.ref q1, .null, .int 0])), (q1, .inl (cs 0, 12, .inl (fun _ => 0)))] := hD
  refine lv_aload_n hx hb dX0_init_12 rfl (lv_at hl 0 rfl) ?_
  refine lv_bipush (v := 12) hx hb dX0_init_13 (by decide) ?_
  refine u_newa 0 (atype := .int) (n := 12) (N' := 12) hx hb (hts (.arrayClass .int) (by decide +kernel)) (ty := .int) rfl hK hP hD hS hA rfl rfl (fun C h => by cases h) (by decide) (by decide) (by show 12 * 4 ≤ 536870912; omega) (Nat.le_of_ble_eq_true rfl) (Nat.le_of_ble_eq_true rfl) dX0_init_15 (fun q2 H hP hD hS => ?_)
  have hP : va_P D vwCl [(h0, .inr (0, [.ref q1, .null, .int 0])), (q1, .inl (cs 0, 12, .inl (fun _ => 0))), (q2, .inl (cs 0, 12, .inl (fun _ => 0)))] H := hP
  have hD : va_D A [(h0, .inr (0, [.ref q1, .null, .int 0])), (q1, .inl (cs 0, 12, .inl (fun _ => 0))), (q2, .inl (cs 0, 12, .inl (fun _ => 0)))] := hD
  refine va_putF (D := D) (ci := 0) (v := .ref q2) (ty := (tyX0 1)) (C := RX0) (T := TX0) (N := 3) hx hb hts (by decide +kernel) tyX0 tyX0_ok nmX0 hown hK hP hD hS 0 rfl rfl 1 (by decide) (hts (.fieldLink RX0 13 "GhostSigns$Hands" "ofWord" "[I") (by decide +kernel)) (fun _ h9 => h9) rfl hin rfl (by decide +kernel) rfl rfl (Nat.le_of_ble_eq_true rfl) dX0_init_17 (fun H locs hP hD hS => ?_)
  have hP : va_P D vwCl [(h0, .inr (0, [.ref q1, .ref q2, .int 0])), (q1, .inl (cs 0, 12, .inl (fun _ => 0))), (q2, .inl (cs 0, 12, .inl (fun _ => 0)))] H := hP
  have hD : va_D A [(h0, .inr (0, [.ref q1, .ref q2, .int 0])), (q1, .inl (cs 0, 12, .inl (fun _ => 0))), (q2, .inl (cs 0, 12, .inl (fun _ => 0)))] := hD
  obtain ⟨qs, eqs⟩ : ∃ qs : Nat → Nat, qs = fun k => ([h0, q1, q2] : List Nat).getD k 0 := ⟨_, rfl⟩
  have hP9 : va_P D vwCl (uw 3 qs (enX0 cs qs) (fun _ _ => 0)) H := by
    refine hP.sub [0, 1, 2] ?_
    subst eqs
    rfl
  have hD9 : va_D A (uw 3 qs (enX0 cs qs) (fun _ _ => 0)) := by
    refine hD.sub [0, 1, 2] (by decide) ?_
    subst eqs
    rfl
  have hq0 : qs 0 = h0 := by rw [eqs]; rfl
  have hJ9 := uw_J hD9
  have hn9 : ∀ k, 1 ≤ k → k < 3 → s.heap.size ≤ qs k := fun k h1 h2 => hAn _ (hJ9.2 k h2) (fun h => by have := hJ9.1 k 0 h2 (by omega) (h.trans hq0.symm); omega)
  subst hAe
  refine W.widen (k := 2) (n := 24) (Nat.le_of_ble_eq_true rfl) (Nat.le_of_ble_eq_true rfl) ?_
  exact W.vret hx hb hr (fun t ht hW => ⟨⟨qs, rfl, ⟨hq0, hJ9.1, hn9⟩, by show va_P D vwCl (uw 3 qs (enX0 cs qs) (fun _ _ => 0)) t.heap; rw [ht]; exact hP9⟩, hS.F ht⟩) hS.2.2 dX0_init_20
def enX1l (ad : Nat → Nat) (cs : Nat → ClassId) (f : Nat → Int32) : List va_E := [.inr (1, [.ref (ad 1), .ref (ad 2), .ref (ad 3), .ref (ad 4), .int (f 4)]), .inl (cs 0, 30, .inl f), .inl (cs 0, 30, .inl f), .inl (cs 0, 30, .inl f), .inl (cs 0, 30, .inl f)]
def enX1 (cs : Nat → ClassId) (ad : Nat → Nat) (k : Nat) (f : Nat → Int32) : va_E := (enX1l ad cs f).getD k (.inr (0, []))
set_option maxHeartbeats 8000000 in
set_option maxRecDepth 100000 in
theorem c_X1_init (l : Launch) (D : va_G) (cs : Nat → ClassId) : uMc l yX1_init wsX1_init { frames := 1, cells := 4, slots := 120, locals := 12 } D vwCl cs 1 [.null, .null, .null, .null, .int 0] 5 (enX1 cs) (fun _ _ => 0) 4 120 := by
  intro h0 sz
  refine Met.ofW (cc := cX1_init) (maxL := 1) (ret := none) (by decide) rfl ?_
  intro p e s m args below meth c s₁ B hml hv
  obtain ⟨rfl, hsz, hP, hK, hAO⟩ := hv
  have hx := B.exec
  have hb := B.bytes
  have hr := B.returns
  have hts := atoms_spec (ws := wsX1_init) B.pre
  have hown : s.vm.findClass RX1 = some m.cls := findClass_of_methodNamed B.named
  have hlocks := B.notSynchronized
  have hin : meth.name = "<init>" := (name_of_methodNamed B.named B.method).1
  subst hsz
  have hlt : h0 < s.heap.size := (hP 0 _ rfl).lt
  generalize hAe : uN h0 s.heap.size = A
  have hA : ∀ q : Nat, s.heap.size ≤ q → A q := fun q h => by rw [← hAe]; exact Or.inr h
  have hAn : ∀ q : Nat, A q → q ≠ h0 → s.heap.size ≤ q := fun q h g => by rw [← hAe] at h; exact h.resolve_left g
  have hD : va_D A [(h0, .inr (1, [.null, .null, .null, .null, .int 0]))] := ⟨fun i j x y h1 h2 _ => by have a1 := (List.getElem?_eq_some_iff.mp h1).1; have a2 := (List.getElem?_eq_some_iff.mp h2).1; simp at a1 a2; omega, fun k q h => by have a1 := (List.getElem?_eq_some_iff.mp h).1; simp at a1; subst a1; cases h; rw [← hAe]; exact Or.inl rfl⟩
  have hS : va_S A s.heap s.heap [] := va_S.rf
  have hl := lv_entry ([.ref h0]) (n := 1) (Nat.le_of_ble_eq_true rfl)
  rw [lg_entry_eq]
  generalize (lg_sl ([.ref h0]) ++ List.replicate (1 - (lg_sl ([.ref h0])).length) Slot.unset).toArray = ls at hl ⊢
  have hl : lv_has ls 1 [(0, .ref h0)] := hl
  obtain ⟨H, eH⟩ : ∃ H, H = s.heap := ⟨_, rfl⟩
  obtain ⟨locs, eL⟩ : ∃ locs : List Loc, locs = [] := ⟨_, rfl⟩
  refine u_start2 eH eL hP hS ?_
  clear hP hS eH eL
  intro hP hS
  refine lv_aload_n hx hb dX1_init_0 rfl (lv_at hl 0 rfl) ?_
  refine W.objInit hx hb hown (hts (.methodLink RX1 1 objectInit) (by decide +kernel)) (hts (.instanceMethod objectInit) (by decide +kernel)) (hts (.code objectInit ⟨#[0xb1]⟩ 1 none) (by decide +kernel)) rfl (by rw [hml]; exact hl.1) rfl dX1_init_1 (Nat.le_of_ble_eq_true rfl) (Nat.le_of_ble_eq_true rfl) ?_
  refine W.eq (g2 := F0 m 4 ls []) rfl ?_
  refine lv_aload_n hx hb dX1_init_4 rfl (lv_at hl 0 rfl) ?_
  refine lv_bipush (v := 30) hx hb dX1_init_5 (by decide) ?_
  refine u_newa 0 (atype := .int) (n := 30) (N' := 30) hx hb (hts (.arrayClass .int) (by decide +kernel)) (ty := .int) rfl hK hP hD hS hA rfl rfl (fun C h => by cases h) (by decide) (by decide) (by show 30 * 4 ≤ 536870912; omega) (Nat.le_of_ble_eq_true rfl) (Nat.le_of_ble_eq_true rfl) dX1_init_7 (fun q1 H hP hD hS => ?_)
  have hP : va_P D vwCl [(h0, .inr (1, [.null, .null, .null, .null, .int 0])), (q1, .inl (cs 0, 30, .inl (fun _ => 0)))] H := hP
  have hD : va_D A [(h0, .inr (1, [.null, .null, .null, .null, .int 0])), (q1, .inl (cs 0, 30, .inl (fun _ => 0)))] := hD
  refine va_putF (D := D) (ci := 1) (v := .ref q1) (ty := (tyX1 0)) (C := RX1) (T := TX1) (N := 5) hx hb hts (by decide +kernel) tyX1 tyX1_ok nmX1 hown hK hP hD hS 0 rfl rfl 0 (by decide) (hts (.fieldLink RX1 9 "GhostSigns$Lights" "ofLight" "[I") (by decide +kernel)) (fun _ h9 => h9) rfl hin rfl (by decide +kernel) rfl rfl (Nat.le_of_ble_eq_true rfl) dX1_init_9 (fun H locs hP hD hS => ?_)
  have hP : va_P D vwCl [(h0, .inr (1, [.ref q1, .null, .null, .null, .int 0])), (q1, .inl (cs 0, 30, .inl (fun _ => 0)))] H := hP
  have hD : va_D A [(h0, .inr (1, [.ref q1, .null, .null, .null, .int 0])), (q1, .inl (cs 0, 30, .inl (fun _ => 0)))] := hD
  refine lv_aload_n hx hb dX1_init_12 rfl (lv_at hl 0 rfl) ?_
  refine lv_bipush (v := 30) hx hb dX1_init_13 (by decide) ?_
  refine u_newa 0 (atype := .int) (n := 30) (N' := 30) hx hb (hts (.arrayClass .int) (by decide +kernel)) (ty := .int) rfl hK hP hD hS hA rfl rfl (fun C h => by cases h) (by decide) (by decide) (by show 30 * 4 ≤ 536870912; omega) (Nat.le_of_ble_eq_true rfl) (Nat.le_of_ble_eq_true rfl) dX1_init_15 (fun q2 H hP hD hS => ?_)
  have hP : va_P D vwCl [(h0, .inr (1, [.ref q1, .null, .null, .null, .int 0])), (q1, .inl (cs 0, 30, .inl (fun _ => 0))), (q2, .inl (cs 0, 30, .inl (fun _ => 0)))] H := hP
  have hD : va_D A [(h0, .inr (1, [.ref q1, .null, .null, .null, .int 0])), (q1, .inl (cs 0, 30, .inl (fun _ => 0))), (q2, .inl (cs 0, 30, .inl (fun _ => 0)))] := hD
  refine va_putF (D := D) (ci := 1) (v := .ref q2) (ty := (tyX1 1)) (C := RX1) (T := TX1) (N := 5) hx hb hts (by decide +kernel) tyX1 tyX1_ok nmX1 hown hK hP hD hS 0 rfl rfl 1 (by decide) (hts (.fieldLink RX1 13 "GhostSigns$Lights" "onLine" "[I") (by decide +kernel)) (fun _ h9 => h9) rfl hin rfl (by decide +kernel) rfl rfl (Nat.le_of_ble_eq_true rfl) dX1_init_17 (fun H locs hP hD hS => ?_)
  have hP : va_P D vwCl [(h0, .inr (1, [.ref q1, .ref q2, .null, .null, .int 0])), (q1, .inl (cs 0, 30, .inl (fun _ => 0))), (q2, .inl (cs 0, 30, .inl (fun _ => 0)))] H := hP
  have hD : va_D A [(h0, .inr (1, [.ref q1, .ref q2, .null, .null, .int 0])), (q1, .inl (cs 0, 30, .inl (fun _ => 0))), (q2, .inl (cs 0, 30, .inl (fun _ => 0)))] := hD
  refine lv_aload_n hx hb dX1_init_20 rfl (lv_at hl 0 rfl) ?_
  refine lv_bipush (v := 30) hx hb dX1_init_21 (by decide) ?_
  refine u_newa 0 (atype := .int) (n := 30) (N' := 30) hx hb (hts (.arrayClass .int) (by decide +kernel)) (ty := .int) rfl hK hP hD hS hA rfl rfl (fun C h => by cases h) (by decide) (by decide) (by show 30 * 4 ≤ 536870912; omega) (Nat.le_of_ble_eq_true rfl) (Nat.le_of_ble_eq_true rfl) dX1_init_23 (fun q3 H hP hD hS => ?_)
  have hP : va_P D vwCl [(h0, .inr (1, [.ref q1, .ref q2, .null, .null, .int 0])), (q1, .inl (cs 0, 30, .inl (fun _ => 0))), (q2, .inl (cs 0, 30, .inl (fun _ => 0))), (q3, .inl (cs 0, 30, .inl (fun _ => 0)))] H := hP
  have hD : va_D A [(h0, .inr (1, [.ref q1, .ref q2, .null, .null, .int 0])), (q1, .inl (cs 0, 30, .inl (fun _ => 0))), (q2, .inl (cs 0, 30, .inl (fun _ => 0))), (q3, .inl (cs 0, 30, .inl (fun _ => 0)))] := hD
  refine va_putF (D := D) (ci := 1) (v := .ref q3) (ty := (tyX1 2)) (C := RX1) (T := TX1) (N := 5) hx hb hts (by decide +kernel) tyX1 tyX1_ok nmX1 hown hK hP hD hS 0 rfl rfl 2 (by decide) (hts (.fieldLink RX1 16 "GhostSigns$Lights" "inSlot" "[I") (by decide +kernel)) (fun _ h9 => h9) rfl hin rfl (by decide +kernel) rfl rfl (Nat.le_of_ble_eq_true rfl) dX1_init_25 (fun H locs hP hD hS => ?_)
  have hP : va_P D vwCl [(h0, .inr (1, [.ref q1, .ref q2, .ref q3, .null, .int 0])), (q1, .inl (cs 0, 30, .inl (fun _ => 0))), (q2, .inl (cs 0, 30, .inl (fun _ => 0))), (q3, .inl (cs 0, 30, .inl (fun _ => 0)))] H := hP
  have hD : va_D A [(h0, .inr (1, [.ref q1, .ref q2, .ref q3, .null, .int 0])), (q1, .inl (cs 0, 30, .inl (fun _ => 0))), (q2, .inl (cs 0, 30, .inl (fun _ => 0))), (q3, .inl (cs 0, 30, .inl (fun _ => 0)))] := hD
  refine lv_aload_n hx hb dX1_init_28 rfl (lv_at hl 0 rfl) ?_
  refine lv_bipush (v := 30) hx hb dX1_init_29 (by decide) ?_
  refine u_newa 0 (atype := .int) (n := 30) (N' := 30) hx hb (hts (.arrayClass .int) (by decide +kernel)) (ty := .int) rfl hK hP hD hS hA rfl rfl (fun C h => by cases h) (by decide) (by decide) (by show 30 * 4 ≤ 536870912; omega) (Nat.le_of_ble_eq_true rfl) (Nat.le_of_ble_eq_true rfl) dX1_init_31 (fun q4 H hP hD hS => ?_)
  have hP : va_P D vwCl [(h0, .inr (1, [.ref q1, .ref q2, .ref q3, .null, .int 0])), (q1, .inl (cs 0, 30, .inl (fun _ => 0))), (q2, .inl (cs 0, 30, .inl (fun _ => 0))), (q3, .inl (cs 0, 30, .inl (fun _ => 0))), (q4, .inl (cs 0, 30, .inl (fun _ => 0)))] H := hP
  have hD : va_D A [(h0, .inr (1, [.ref q1, .ref q2, .ref q3, .null, .int 0])), (q1, .inl (cs 0, 30, .inl (fun _ => 0))), (q2, .inl (cs 0, 30, .inl (fun _ => 0))), (q3, .inl (cs 0, 30, .inl (fun _ => 0))), (q4, .inl (cs 0, 30, .inl (fun _ => 0)))] := hD
  refine va_putF (D := D) (ci := 1) (v := .ref q4) (ty := (tyX1 3)) (C := RX1) (T := TX1) (N := 5) hx hb hts (by decide +kernel) tyX1 tyX1_ok nmX1 hown hK hP hD hS 0 rfl rfl 3 (by decide) (hts (.fieldLink RX1 19 "GhostSigns$Lights" "cells" "[I") (by decide +kernel)) (fun _ h9 => h9) rfl hin rfl (by decide +kernel) rfl rfl (Nat.le_of_ble_eq_true rfl) dX1_init_33 (fun H locs hP hD hS => ?_)
  have hP : va_P D vwCl [(h0, .inr (1, [.ref q1, .ref q2, .ref q3, .ref q4, .int 0])), (q1, .inl (cs 0, 30, .inl (fun _ => 0))), (q2, .inl (cs 0, 30, .inl (fun _ => 0))), (q3, .inl (cs 0, 30, .inl (fun _ => 0))), (q4, .inl (cs 0, 30, .inl (fun _ => 0)))] H := hP
  have hD : va_D A [(h0, .inr (1, [.ref q1, .ref q2, .ref q3, .ref q4, .int 0])), (q1, .inl (cs 0, 30, .inl (fun _ => 0))), (q2, .inl (cs 0, 30, .inl (fun _ => 0))), (q3, .inl (cs 0, 30, .inl (fun _ => 0))), (q4, .inl (cs 0, 30, .inl (fun _ => 0)))] := hD
  obtain ⟨qs, eqs⟩ : ∃ qs : Nat → Nat, qs = fun k => ([h0, q1, q2, q3, q4] : List Nat).getD k 0 := ⟨_, rfl⟩
  have hP9 : va_P D vwCl (uw 5 qs (enX1 cs qs) (fun _ _ => 0)) H := by
    refine hP.sub [0, 1, 2, 3, 4] ?_
    subst eqs
    rfl
  have hD9 : va_D A (uw 5 qs (enX1 cs qs) (fun _ _ => 0)) := by
    refine hD.sub [0, 1, 2, 3, 4] (by decide) ?_
    subst eqs
    rfl
  have hq0 : qs 0 = h0 := by rw [eqs]; rfl
  have hJ9 := uw_J hD9
  have hn9 : ∀ k, 1 ≤ k → k < 5 → s.heap.size ≤ qs k := fun k h1 h2 => hAn _ (hJ9.2 k h2) (fun h => by have := hJ9.1 k 0 h2 (by omega) (h.trans hq0.symm); omega)
  subst hAe
  refine W.widen (k := 4) (n := 120) (Nat.le_of_ble_eq_true rfl) (Nat.le_of_ble_eq_true rfl) ?_
  exact W.vret hx hb hr (fun t ht hW => ⟨⟨qs, rfl, ⟨hq0, hJ9.1, hn9⟩, by show va_P D vwCl (uw 5 qs (enX1 cs qs) (fun _ _ => 0)) t.heap; rw [ht]; exact hP9⟩, hS.F ht⟩) hS.2.2 dX1_init_36
def enX2l (ad : Nat → Nat) (cs : Nat → ClassId) (f : Nat → Int32) : List va_E := [.inr (2, [.ref (ad 1), .ref (ad 6), .ref (ad 7), .ref (ad 8), .int (f 4)]), .inl (cs 5, 4, .inr (.inr (.inr (.inr (fun i => if i < 4 then some (ad (2 + i)) else none))))), .inl (cs 0, 10, .inl f), .inl (cs 0, 10, .inl f), .inl (cs 0, 10, .inl f), .inl (cs 0, 10, .inl f), .inl (cs 0, 3, .inl f), .inl (cs 0, 3, .inl f), .inl (cs 0, 3, .inl f)]
def enX2 (cs : Nat → ClassId) (ad : Nat → Nat) (k : Nat) (f : Nat → Int32) : va_E := (enX2l ad cs f).getD k (.inr (0, []))
set_option maxHeartbeats 8000000 in
set_option maxRecDepth 100000 in
theorem c_X2_init (l : Launch) (D : va_G) (cs : Nat → ClassId) : uMc l yX2_init wsX2_init { frames := 1, cells := 8, slots := 53, locals := 12 } D vwCl cs 2 [.null, .null, .null, .null, .int 0] 9 (enX2 cs) (fun _ _ => 0) 8 53 := by
  intro h0 sz
  refine Met.ofW (cc := cX2_init) (maxL := 1) (ret := none) (by decide) rfl ?_
  intro p e s m args below meth c s₁ B hml hv
  obtain ⟨rfl, hsz, hP, hK, hAO⟩ := hv
  have hx := B.exec
  have hb := B.bytes
  have hr := B.returns
  have hts := atoms_spec (ws := wsX2_init) B.pre
  have hown : s.vm.findClass RX2 = some m.cls := findClass_of_methodNamed B.named
  have hlocks := B.notSynchronized
  have hin : meth.name = "<init>" := (name_of_methodNamed B.named B.method).1
  subst hsz
  have hlt : h0 < s.heap.size := (hP 0 _ rfl).lt
  generalize hAe : uN h0 s.heap.size = A
  have hA : ∀ q : Nat, s.heap.size ≤ q → A q := fun q h => by rw [← hAe]; exact Or.inr h
  have hAn : ∀ q : Nat, A q → q ≠ h0 → s.heap.size ≤ q := fun q h g => by rw [← hAe] at h; exact h.resolve_left g
  have hD : va_D A [(h0, .inr (2, [.null, .null, .null, .null, .int 0]))] := ⟨fun i j x y h1 h2 _ => by have a1 := (List.getElem?_eq_some_iff.mp h1).1; have a2 := (List.getElem?_eq_some_iff.mp h2).1; simp at a1 a2; omega, fun k q h => by have a1 := (List.getElem?_eq_some_iff.mp h).1; simp at a1; subst a1; cases h; rw [← hAe]; exact Or.inl rfl⟩
  have hS : va_S A s.heap s.heap [] := va_S.rf
  have hl := lv_entry ([.ref h0]) (n := 1) (Nat.le_of_ble_eq_true rfl)
  rw [lg_entry_eq]
  generalize (lg_sl ([.ref h0]) ++ List.replicate (1 - (lg_sl ([.ref h0])).length) Slot.unset).toArray = ls at hl ⊢
  have hl : lv_has ls 1 [(0, .ref h0)] := hl
  obtain ⟨H, eH⟩ : ∃ H, H = s.heap := ⟨_, rfl⟩
  obtain ⟨locs, eL⟩ : ∃ locs : List Loc, locs = [] := ⟨_, rfl⟩
  refine u_start2 eH eL hP hS ?_
  clear hP hS eH eL
  intro hP hS
  refine lv_aload_n hx hb dX2_init_0 rfl (lv_at hl 0 rfl) ?_
  refine W.objInit hx hb hown (hts (.methodLink RX2 3 objectInit) (by decide +kernel)) (hts (.instanceMethod objectInit) (by decide +kernel)) (hts (.code objectInit ⟨#[0xb1]⟩ 1 none) (by decide +kernel)) rfl (by rw [hml]; exact hl.1) rfl dX2_init_1 (Nat.le_of_ble_eq_true rfl) (Nat.le_of_ble_eq_true rfl) ?_
  refine W.eq (g2 := F0 m 4 ls []) rfl ?_
  refine lv_aload_n hx hb dX2_init_4 rfl (lv_at hl 0 rfl) ?_
  refine lv_iconst (v := 4) hx hb dX2_init_5 (by decide) ?_
  refine lv_bipush (v := 10) hx hb dX2_init_6 (by decide) ?_
  refine u_mna 0 5 (n := 4) (k := 10) (N' := 4) (K' := 10) (ty := .int) hx hb hown (hts (.classLink RX2 9 "[[I") (by decide +kernel)) hAO.2.1 (hts (.arrayClass .int) (by decide +kernel)) hK hP hD hS hA rfl rfl rfl ((hK.2 0 _ rfl).2) (by decide) (by decide) (by decide) (by decide) (by show 4 * 4 ≤ 536870912; omega) (by show 10 * 4 ≤ 536870912; omega) (by show 10 ≤ 536870912; omega) rfl rfl (Nat.le_of_ble_eq_true rfl) (Nat.le_of_ble_eq_true rfl) dX2_init_8 (fun q1 r1 H hP hD hS => ?_)
  have hP : va_P D vwCl [(h0, .inr (2, [.null, .null, .null, .null, .int 0])), (q1, .inl (cs 5, 4, .inr (.inr (.inr (.inr (fun i => if i < 4 then some (r1 i) else none)))))), ((r1 0), .inl (cs 0, 10, .inl (fun _ => 0))), ((r1 1), .inl (cs 0, 10, .inl (fun _ => 0))), ((r1 2), .inl (cs 0, 10, .inl (fun _ => 0))), ((r1 3), .inl (cs 0, 10, .inl (fun _ => 0)))] H := hP
  have hD : va_D A [(h0, .inr (2, [.null, .null, .null, .null, .int 0])), (q1, .inl (cs 5, 4, .inr (.inr (.inr (.inr (fun i => if i < 4 then some (r1 i) else none)))))), ((r1 0), .inl (cs 0, 10, .inl (fun _ => 0))), ((r1 1), .inl (cs 0, 10, .inl (fun _ => 0))), ((r1 2), .inl (cs 0, 10, .inl (fun _ => 0))), ((r1 3), .inl (cs 0, 10, .inl (fun _ => 0)))] := hD
  refine va_putF (D := D) (ci := 2) (v := .ref q1) (ty := (tyX2 0)) (C := RX2) (T := TX2) (N := 5) hx hb hts (by decide +kernel) tyX2 tyX2_ok nmX2 hown hK hP hD hS 0 rfl rfl 0 (by decide) (hts (.fieldLink RX2 11 "GhostSigns$Line" "cells" "[[I") (by decide +kernel)) (fun _ h9 => h9) rfl hin rfl (by decide +kernel) rfl rfl (Nat.le_of_ble_eq_true rfl) dX2_init_12 (fun H locs hP hD hS => ?_)
  have hP : va_P D vwCl [(h0, .inr (2, [.ref q1, .null, .null, .null, .int 0])), (q1, .inl (cs 5, 4, .inr (.inr (.inr (.inr (fun i => if i < 4 then some (r1 i) else none)))))), ((r1 0), .inl (cs 0, 10, .inl (fun _ => 0))), ((r1 1), .inl (cs 0, 10, .inl (fun _ => 0))), ((r1 2), .inl (cs 0, 10, .inl (fun _ => 0))), ((r1 3), .inl (cs 0, 10, .inl (fun _ => 0)))] H := hP
  have hD : va_D A [(h0, .inr (2, [.ref q1, .null, .null, .null, .int 0])), (q1, .inl (cs 5, 4, .inr (.inr (.inr (.inr (fun i => if i < 4 then some (r1 i) else none)))))), ((r1 0), .inl (cs 0, 10, .inl (fun _ => 0))), ((r1 1), .inl (cs 0, 10, .inl (fun _ => 0))), ((r1 2), .inl (cs 0, 10, .inl (fun _ => 0))), ((r1 3), .inl (cs 0, 10, .inl (fun _ => 0)))] := hD
  refine lv_aload_n hx hb dX2_init_15 rfl (lv_at hl 0 rfl) ?_
  refine lv_iconst (v := 3) hx hb dX2_init_16 (by decide) ?_
  refine u_newa 0 (atype := .int) (n := 3) (N' := 3) hx hb (hts (.arrayClass .int) (by decide +kernel)) (ty := .int) rfl hK hP hD hS hA rfl rfl (fun C h => by cases h) (by decide) (by decide) (by show 3 * 4 ≤ 536870912; omega) (Nat.le_of_ble_eq_true rfl) (Nat.le_of_ble_eq_true rfl) dX2_init_17 (fun q2 H hP hD hS => ?_)
  have hP : va_P D vwCl [(h0, .inr (2, [.ref q1, .null, .null, .null, .int 0])), (q1, .inl (cs 5, 4, .inr (.inr (.inr (.inr (fun i => if i < 4 then some (r1 i) else none)))))), ((r1 0), .inl (cs 0, 10, .inl (fun _ => 0))), ((r1 1), .inl (cs 0, 10, .inl (fun _ => 0))), ((r1 2), .inl (cs 0, 10, .inl (fun _ => 0))), ((r1 3), .inl (cs 0, 10, .inl (fun _ => 0))), (q2, .inl (cs 0, 3, .inl (fun _ => 0)))] H := hP
  have hD : va_D A [(h0, .inr (2, [.ref q1, .null, .null, .null, .int 0])), (q1, .inl (cs 5, 4, .inr (.inr (.inr (.inr (fun i => if i < 4 then some (r1 i) else none)))))), ((r1 0), .inl (cs 0, 10, .inl (fun _ => 0))), ((r1 1), .inl (cs 0, 10, .inl (fun _ => 0))), ((r1 2), .inl (cs 0, 10, .inl (fun _ => 0))), ((r1 3), .inl (cs 0, 10, .inl (fun _ => 0))), (q2, .inl (cs 0, 3, .inl (fun _ => 0)))] := hD
  refine va_putF (D := D) (ci := 2) (v := .ref q2) (ty := (tyX2 1)) (C := RX2) (T := TX2) (N := 5) hx hb hts (by decide +kernel) tyX2 tyX2_ok nmX2 hown hK hP hD hS 0 rfl rfl 1 (by decide) (hts (.fieldLink RX2 16 "GhostSigns$Line" "layerWords" "[I") (by decide +kernel)) (fun _ h9 => h9) rfl hin rfl (by decide +kernel) rfl rfl (Nat.le_of_ble_eq_true rfl) dX2_init_19 (fun H locs hP hD hS => ?_)
  have hP : va_P D vwCl [(h0, .inr (2, [.ref q1, .ref q2, .null, .null, .int 0])), (q1, .inl (cs 5, 4, .inr (.inr (.inr (.inr (fun i => if i < 4 then some (r1 i) else none)))))), ((r1 0), .inl (cs 0, 10, .inl (fun _ => 0))), ((r1 1), .inl (cs 0, 10, .inl (fun _ => 0))), ((r1 2), .inl (cs 0, 10, .inl (fun _ => 0))), ((r1 3), .inl (cs 0, 10, .inl (fun _ => 0))), (q2, .inl (cs 0, 3, .inl (fun _ => 0)))] H := hP
  have hD : va_D A [(h0, .inr (2, [.ref q1, .ref q2, .null, .null, .int 0])), (q1, .inl (cs 5, 4, .inr (.inr (.inr (.inr (fun i => if i < 4 then some (r1 i) else none)))))), ((r1 0), .inl (cs 0, 10, .inl (fun _ => 0))), ((r1 1), .inl (cs 0, 10, .inl (fun _ => 0))), ((r1 2), .inl (cs 0, 10, .inl (fun _ => 0))), ((r1 3), .inl (cs 0, 10, .inl (fun _ => 0))), (q2, .inl (cs 0, 3, .inl (fun _ => 0)))] := hD
  refine lv_aload_n hx hb dX2_init_22 rfl (lv_at hl 0 rfl) ?_
  refine lv_iconst (v := 3) hx hb dX2_init_23 (by decide) ?_
  refine u_newa 0 (atype := .int) (n := 3) (N' := 3) hx hb (hts (.arrayClass .int) (by decide +kernel)) (ty := .int) rfl hK hP hD hS hA rfl rfl (fun C h => by cases h) (by decide) (by decide) (by show 3 * 4 ≤ 536870912; omega) (Nat.le_of_ble_eq_true rfl) (Nat.le_of_ble_eq_true rfl) dX2_init_24 (fun q3 H hP hD hS => ?_)
  have hP : va_P D vwCl [(h0, .inr (2, [.ref q1, .ref q2, .null, .null, .int 0])), (q1, .inl (cs 5, 4, .inr (.inr (.inr (.inr (fun i => if i < 4 then some (r1 i) else none)))))), ((r1 0), .inl (cs 0, 10, .inl (fun _ => 0))), ((r1 1), .inl (cs 0, 10, .inl (fun _ => 0))), ((r1 2), .inl (cs 0, 10, .inl (fun _ => 0))), ((r1 3), .inl (cs 0, 10, .inl (fun _ => 0))), (q2, .inl (cs 0, 3, .inl (fun _ => 0))), (q3, .inl (cs 0, 3, .inl (fun _ => 0)))] H := hP
  have hD : va_D A [(h0, .inr (2, [.ref q1, .ref q2, .null, .null, .int 0])), (q1, .inl (cs 5, 4, .inr (.inr (.inr (.inr (fun i => if i < 4 then some (r1 i) else none)))))), ((r1 0), .inl (cs 0, 10, .inl (fun _ => 0))), ((r1 1), .inl (cs 0, 10, .inl (fun _ => 0))), ((r1 2), .inl (cs 0, 10, .inl (fun _ => 0))), ((r1 3), .inl (cs 0, 10, .inl (fun _ => 0))), (q2, .inl (cs 0, 3, .inl (fun _ => 0))), (q3, .inl (cs 0, 3, .inl (fun _ => 0)))] := hD
  refine va_putF (D := D) (ci := 2) (v := .ref q3) (ty := (tyX2 2)) (C := RX2) (T := TX2) (N := 5) hx hb hts (by decide +kernel) tyX2 tyX2_ok nmX2 hown hK hP hD hS 0 rfl rfl 2 (by decide) (hts (.fieldLink RX2 20 "GhostSigns$Line" "layerSlots" "[I") (by decide +kernel)) (fun _ h9 => h9) rfl hin rfl (by decide +kernel) rfl rfl (Nat.le_of_ble_eq_true rfl) dX2_init_26 (fun H locs hP hD hS => ?_)
  have hP : va_P D vwCl [(h0, .inr (2, [.ref q1, .ref q2, .ref q3, .null, .int 0])), (q1, .inl (cs 5, 4, .inr (.inr (.inr (.inr (fun i => if i < 4 then some (r1 i) else none)))))), ((r1 0), .inl (cs 0, 10, .inl (fun _ => 0))), ((r1 1), .inl (cs 0, 10, .inl (fun _ => 0))), ((r1 2), .inl (cs 0, 10, .inl (fun _ => 0))), ((r1 3), .inl (cs 0, 10, .inl (fun _ => 0))), (q2, .inl (cs 0, 3, .inl (fun _ => 0))), (q3, .inl (cs 0, 3, .inl (fun _ => 0)))] H := hP
  have hD : va_D A [(h0, .inr (2, [.ref q1, .ref q2, .ref q3, .null, .int 0])), (q1, .inl (cs 5, 4, .inr (.inr (.inr (.inr (fun i => if i < 4 then some (r1 i) else none)))))), ((r1 0), .inl (cs 0, 10, .inl (fun _ => 0))), ((r1 1), .inl (cs 0, 10, .inl (fun _ => 0))), ((r1 2), .inl (cs 0, 10, .inl (fun _ => 0))), ((r1 3), .inl (cs 0, 10, .inl (fun _ => 0))), (q2, .inl (cs 0, 3, .inl (fun _ => 0))), (q3, .inl (cs 0, 3, .inl (fun _ => 0)))] := hD
  refine lv_aload_n hx hb dX2_init_29 rfl (lv_at hl 0 rfl) ?_
  refine lv_iconst (v := 3) hx hb dX2_init_30 (by decide) ?_
  refine u_newa 0 (atype := .int) (n := 3) (N' := 3) hx hb (hts (.arrayClass .int) (by decide +kernel)) (ty := .int) rfl hK hP hD hS hA rfl rfl (fun C h => by cases h) (by decide) (by decide) (by show 3 * 4 ≤ 536870912; omega) (Nat.le_of_ble_eq_true rfl) (Nat.le_of_ble_eq_true rfl) dX2_init_31 (fun q4 H hP hD hS => ?_)
  have hP : va_P D vwCl [(h0, .inr (2, [.ref q1, .ref q2, .ref q3, .null, .int 0])), (q1, .inl (cs 5, 4, .inr (.inr (.inr (.inr (fun i => if i < 4 then some (r1 i) else none)))))), ((r1 0), .inl (cs 0, 10, .inl (fun _ => 0))), ((r1 1), .inl (cs 0, 10, .inl (fun _ => 0))), ((r1 2), .inl (cs 0, 10, .inl (fun _ => 0))), ((r1 3), .inl (cs 0, 10, .inl (fun _ => 0))), (q2, .inl (cs 0, 3, .inl (fun _ => 0))), (q3, .inl (cs 0, 3, .inl (fun _ => 0))), (q4, .inl (cs 0, 3, .inl (fun _ => 0)))] H := hP
  have hD : va_D A [(h0, .inr (2, [.ref q1, .ref q2, .ref q3, .null, .int 0])), (q1, .inl (cs 5, 4, .inr (.inr (.inr (.inr (fun i => if i < 4 then some (r1 i) else none)))))), ((r1 0), .inl (cs 0, 10, .inl (fun _ => 0))), ((r1 1), .inl (cs 0, 10, .inl (fun _ => 0))), ((r1 2), .inl (cs 0, 10, .inl (fun _ => 0))), ((r1 3), .inl (cs 0, 10, .inl (fun _ => 0))), (q2, .inl (cs 0, 3, .inl (fun _ => 0))), (q3, .inl (cs 0, 3, .inl (fun _ => 0))), (q4, .inl (cs 0, 3, .inl (fun _ => 0)))] := hD
  refine va_putF (D := D) (ci := 2) (v := .ref q4) (ty := (tyX2 3)) (C := RX2) (T := TX2) (N := 5) hx hb hts (by decide +kernel) tyX2 tyX2_ok nmX2 hown hK hP hD hS 0 rfl rfl 3 (by decide) (hts (.fieldLink RX2 23 "GhostSigns$Line" "layerColours" "[I") (by decide +kernel)) (fun _ h9 => h9) rfl hin rfl (by decide +kernel) rfl rfl (Nat.le_of_ble_eq_true rfl) dX2_init_33 (fun H locs hP hD hS => ?_)
  have hP : va_P D vwCl [(h0, .inr (2, [.ref q1, .ref q2, .ref q3, .ref q4, .int 0])), (q1, .inl (cs 5, 4, .inr (.inr (.inr (.inr (fun i => if i < 4 then some (r1 i) else none)))))), ((r1 0), .inl (cs 0, 10, .inl (fun _ => 0))), ((r1 1), .inl (cs 0, 10, .inl (fun _ => 0))), ((r1 2), .inl (cs 0, 10, .inl (fun _ => 0))), ((r1 3), .inl (cs 0, 10, .inl (fun _ => 0))), (q2, .inl (cs 0, 3, .inl (fun _ => 0))), (q3, .inl (cs 0, 3, .inl (fun _ => 0))), (q4, .inl (cs 0, 3, .inl (fun _ => 0)))] H := hP
  have hD : va_D A [(h0, .inr (2, [.ref q1, .ref q2, .ref q3, .ref q4, .int 0])), (q1, .inl (cs 5, 4, .inr (.inr (.inr (.inr (fun i => if i < 4 then some (r1 i) else none)))))), ((r1 0), .inl (cs 0, 10, .inl (fun _ => 0))), ((r1 1), .inl (cs 0, 10, .inl (fun _ => 0))), ((r1 2), .inl (cs 0, 10, .inl (fun _ => 0))), ((r1 3), .inl (cs 0, 10, .inl (fun _ => 0))), (q2, .inl (cs 0, 3, .inl (fun _ => 0))), (q3, .inl (cs 0, 3, .inl (fun _ => 0))), (q4, .inl (cs 0, 3, .inl (fun _ => 0)))] := hD
  obtain ⟨qs, eqs⟩ : ∃ qs : Nat → Nat, qs = fun k => ([h0, q1, (r1 0), (r1 1), (r1 2), (r1 3), q2, q3, q4] : List Nat).getD k 0 := ⟨_, rfl⟩
  have eo : (fun i => if i < 4 then some (r1 i) else none) = (fun i => if i < 4 then some (qs (2 + i)) else none) := by
    funext i
    by_cases hi : i < 4
    · rw [if_pos hi, if_pos hi, eqs]
      match i, hi with
      | 0, _ => rfl
      | 1, _ => rfl
      | 2, _ => rfl
      | 3, _ => rfl
    · rw [if_neg hi, if_neg hi]
  rw [eo] at hP hD
  have hP9 : va_P D vwCl (uw 9 qs (enX2 cs qs) (fun _ _ => 0)) H := by
    refine hP.sub [0, 1, 2, 3, 4, 5, 6, 7, 8] ?_
    subst eqs
    rfl
  have hD9 : va_D A (uw 9 qs (enX2 cs qs) (fun _ _ => 0)) := by
    refine hD.sub [0, 1, 2, 3, 4, 5, 6, 7, 8] (by decide) ?_
    subst eqs
    rfl
  have hq0 : qs 0 = h0 := by rw [eqs]; rfl
  have hJ9 := uw_J hD9
  have hn9 : ∀ k, 1 ≤ k → k < 9 → s.heap.size ≤ qs k := fun k h1 h2 => hAn _ (hJ9.2 k h2) (fun h => by have := hJ9.1 k 0 h2 (by omega) (h.trans hq0.symm); omega)
  subst hAe
  refine W.widen (k := 8) (n := 53) (Nat.le_of_ble_eq_true rfl) (Nat.le_of_ble_eq_true rfl) ?_
  exact W.vret hx hb hr (fun t ht hW => ⟨⟨qs, rfl, ⟨hq0, hJ9.1, hn9⟩, by show va_P D vwCl (uw 9 qs (enX2 cs qs) (fun _ _ => 0)) t.heap; rw [ht]; exact hP9⟩, hS.F ht⟩) hS.2.2 dX2_init_36
def enX3l (ad : Nat → Nat) (cs : Nat → ClassId) (f : Nat → Int32) : List va_E := [.inr (3, [.int (f 0), .int (f 1), .int (f 2), .int (f 3)])]
def enX3 (cs : Nat → ClassId) (ad : Nat → Nat) (k : Nat) (f : Nat → Int32) : va_E := (enX3l ad cs f).getD k (.inr (0, []))
set_option maxHeartbeats 8000000 in
set_option maxRecDepth 100000 in
theorem c_X3_init (l : Launch) (D : va_G) (cs : Nat → ClassId) : uMc l yX3_init wsX3_init { frames := 1, cells := 0, slots := 0, locals := 12 } D vwCl cs 3 [.int 0, .int 0, .int 0, .int 0] 1 (enX3 cs) (fun _ _ => 0) 0 0 := by
  intro h0 sz
  refine Met.ofW (cc := cX3_init) (maxL := 1) (ret := none) (by decide) rfl ?_
  intro p e s m args below meth c s₁ B hml hv
  obtain ⟨rfl, hsz, hP, hK, hAO⟩ := hv
  have hx := B.exec
  have hb := B.bytes
  have hr := B.returns
  have hts := atoms_spec (ws := wsX3_init) B.pre
  have hown : s.vm.findClass RX3 = some m.cls := findClass_of_methodNamed B.named
  have hlocks := B.notSynchronized
  have hin : meth.name = "<init>" := (name_of_methodNamed B.named B.method).1
  subst hsz
  have hlt : h0 < s.heap.size := (hP 0 _ rfl).lt
  generalize hAe : uN h0 s.heap.size = A
  have hA : ∀ q : Nat, s.heap.size ≤ q → A q := fun q h => by rw [← hAe]; exact Or.inr h
  have hAn : ∀ q : Nat, A q → q ≠ h0 → s.heap.size ≤ q := fun q h g => by rw [← hAe] at h; exact h.resolve_left g
  have hD : va_D A [(h0, .inr (3, [.int 0, .int 0, .int 0, .int 0]))] := ⟨fun i j x y h1 h2 _ => by have a1 := (List.getElem?_eq_some_iff.mp h1).1; have a2 := (List.getElem?_eq_some_iff.mp h2).1; simp at a1 a2; omega, fun k q h => by have a1 := (List.getElem?_eq_some_iff.mp h).1; simp at a1; subst a1; cases h; rw [← hAe]; exact Or.inl rfl⟩
  have hS : va_S A s.heap s.heap [] := va_S.rf
  have hl := lv_entry ([.ref h0]) (n := 1) (Nat.le_of_ble_eq_true rfl)
  rw [lg_entry_eq]
  generalize (lg_sl ([.ref h0]) ++ List.replicate (1 - (lg_sl ([.ref h0])).length) Slot.unset).toArray = ls at hl ⊢
  have hl : lv_has ls 1 [(0, .ref h0)] := hl
  obtain ⟨H, eH⟩ : ∃ H, H = s.heap := ⟨_, rfl⟩
  obtain ⟨locs, eL⟩ : ∃ locs : List Loc, locs = [] := ⟨_, rfl⟩
  refine u_start2 eH eL hP hS ?_
  clear hP hS eH eL
  intro hP hS
  refine lv_aload_n hx hb dX3_init_0 rfl (lv_at hl 0 rfl) ?_
  refine W.objInit hx hb hown (hts (.methodLink RX3 3 objectInit) (by decide +kernel)) (hts (.instanceMethod objectInit) (by decide +kernel)) (hts (.code objectInit ⟨#[0xb1]⟩ 1 none) (by decide +kernel)) rfl (by rw [hml]; exact hl.1) rfl dX3_init_1 (Nat.le_of_ble_eq_true rfl) (Nat.le_of_ble_eq_true rfl) ?_
  refine W.eq (g2 := F0 m 4 ls []) rfl ?_
  obtain ⟨qs, eqs⟩ : ∃ qs : Nat → Nat, qs = fun k => ([h0] : List Nat).getD k 0 := ⟨_, rfl⟩
  have hP9 : va_P D vwCl (uw 1 qs (enX3 cs qs) (fun _ _ => 0)) H := by
    refine hP.sub [0] ?_
    subst eqs
    rfl
  have hD9 : va_D A (uw 1 qs (enX3 cs qs) (fun _ _ => 0)) := by
    refine hD.sub [0] (by decide) ?_
    subst eqs
    rfl
  have hq0 : qs 0 = h0 := by rw [eqs]; rfl
  have hJ9 := uw_J hD9
  have hn9 : ∀ k, 1 ≤ k → k < 1 → s.heap.size ≤ qs k := fun k h1 h2 => hAn _ (hJ9.2 k h2) (fun h => by have := hJ9.1 k 0 h2 (by omega) (h.trans hq0.symm); omega)
  subst hAe
  refine W.widen (k := 0) (n := 0) (Nat.le_of_ble_eq_true rfl) (Nat.le_of_ble_eq_true rfl) ?_
  exact W.vret hx hb hr (fun t ht hW => ⟨⟨qs, rfl, ⟨hq0, hJ9.1, hn9⟩, by show va_P D vwCl (uw 1 qs (enX3 cs qs) (fun _ _ => 0)) t.heap; rw [ht]; exact hP9⟩, hS.F ht⟩) hS.2.2 dX3_init_4
def enX4l (ad : Nat → Nat) (cs : Nat → ClassId) (f : Nat → Int32) : List va_E := [.inr (4, [.ref (ad 1), .ref (ad 2), .ref (ad 3), .ref (ad 4), .int (f 4)]), .inl (cs 0, 160, .inl f), .inl (cs 0, 160, .inl f), .inl (cs 0, 160, .inl f), .inl (cs 0, 160, .inl f)]
def enX4 (cs : Nat → ClassId) (ad : Nat → Nat) (k : Nat) (f : Nat → Int32) : va_E := (enX4l ad cs f).getD k (.inr (0, []))
set_option maxHeartbeats 8000000 in
set_option maxRecDepth 100000 in
theorem c_X4_init (l : Launch) (D : va_G) (cs : Nat → ClassId) : uMc l yX4_init wsX4_init { frames := 1, cells := 4, slots := 640, locals := 12 } D vwCl cs 4 [.null, .null, .null, .null, .int 0] 5 (enX4 cs) (fun _ _ => 0) 4 640 := by
  intro h0 sz
  refine Met.ofW (cc := cX4_init) (maxL := 1) (ret := none) (by decide) rfl ?_
  intro p e s m args below meth c s₁ B hml hv
  obtain ⟨rfl, hsz, hP, hK, hAO⟩ := hv
  have hx := B.exec
  have hb := B.bytes
  have hr := B.returns
  have hts := atoms_spec (ws := wsX4_init) B.pre
  have hown : s.vm.findClass RX4 = some m.cls := findClass_of_methodNamed B.named
  have hlocks := B.notSynchronized
  have hin : meth.name = "<init>" := (name_of_methodNamed B.named B.method).1
  subst hsz
  have hlt : h0 < s.heap.size := (hP 0 _ rfl).lt
  generalize hAe : uN h0 s.heap.size = A
  have hA : ∀ q : Nat, s.heap.size ≤ q → A q := fun q h => by rw [← hAe]; exact Or.inr h
  have hAn : ∀ q : Nat, A q → q ≠ h0 → s.heap.size ≤ q := fun q h g => by rw [← hAe] at h; exact h.resolve_left g
  have hD : va_D A [(h0, .inr (4, [.null, .null, .null, .null, .int 0]))] := ⟨fun i j x y h1 h2 _ => by have a1 := (List.getElem?_eq_some_iff.mp h1).1; have a2 := (List.getElem?_eq_some_iff.mp h2).1; simp at a1 a2; omega, fun k q h => by have a1 := (List.getElem?_eq_some_iff.mp h).1; simp at a1; subst a1; cases h; rw [← hAe]; exact Or.inl rfl⟩
  have hS : va_S A s.heap s.heap [] := va_S.rf
  have hl := lv_entry ([.ref h0]) (n := 1) (Nat.le_of_ble_eq_true rfl)
  rw [lg_entry_eq]
  generalize (lg_sl ([.ref h0]) ++ List.replicate (1 - (lg_sl ([.ref h0])).length) Slot.unset).toArray = ls at hl ⊢
  have hl : lv_has ls 1 [(0, .ref h0)] := hl
  obtain ⟨H, eH⟩ : ∃ H, H = s.heap := ⟨_, rfl⟩
  obtain ⟨locs, eL⟩ : ∃ locs : List Loc, locs = [] := ⟨_, rfl⟩
  refine u_start2 eH eL hP hS ?_
  clear hP hS eH eL
  intro hP hS
  refine lv_aload_n hx hb dX4_init_0 rfl (lv_at hl 0 rfl) ?_
  refine W.objInit hx hb hown (hts (.methodLink RX4 5 objectInit) (by decide +kernel)) (hts (.instanceMethod objectInit) (by decide +kernel)) (hts (.code objectInit ⟨#[0xb1]⟩ 1 none) (by decide +kernel)) rfl (by rw [hml]; exact hl.1) rfl dX4_init_1 (Nat.le_of_ble_eq_true rfl) (Nat.le_of_ble_eq_true rfl) ?_
  refine W.eq (g2 := F0 m 4 ls []) rfl ?_
  refine lv_aload_n hx hb dX4_init_4 rfl (lv_at hl 0 rfl) ?_
  refine lv_sipush (v := 160) hx hb dX4_init_5 (by decide) ?_
  refine u_newa 0 (atype := .int) (n := 160) (N' := 160) hx hb (hts (.arrayClass .int) (by decide +kernel)) (ty := .int) rfl hK hP hD hS hA rfl rfl (fun C h => by cases h) (by decide) (by decide) (by show 160 * 4 ≤ 536870912; omega) (Nat.le_of_ble_eq_true rfl) (Nat.le_of_ble_eq_true rfl) dX4_init_8 (fun q1 H hP hD hS => ?_)
  have hP : va_P D vwCl [(h0, .inr (4, [.null, .null, .null, .null, .int 0])), (q1, .inl (cs 0, 160, .inl (fun _ => 0)))] H := hP
  have hD : va_D A [(h0, .inr (4, [.null, .null, .null, .null, .int 0])), (q1, .inl (cs 0, 160, .inl (fun _ => 0)))] := hD
  refine va_putF (D := D) (ci := 4) (v := .ref q1) (ty := (tyX4 0)) (C := RX4) (T := TX4) (N := 5) hx hb hts (by decide +kernel) tyX4 tyX4_ok nmX4 hown hK hP hD hS 0 rfl rfl 0 (by decide) (hts (.fieldLink RX4 13 "GhostSigns$Places" "words" "[I") (by decide +kernel)) (fun _ h9 => h9) rfl hin rfl (by decide +kernel) rfl rfl (Nat.le_of_ble_eq_true rfl) dX4_init_10 (fun H locs hP hD hS => ?_)
  have hP : va_P D vwCl [(h0, .inr (4, [.ref q1, .null, .null, .null, .int 0])), (q1, .inl (cs 0, 160, .inl (fun _ => 0)))] H := hP
  have hD : va_D A [(h0, .inr (4, [.ref q1, .null, .null, .null, .int 0])), (q1, .inl (cs 0, 160, .inl (fun _ => 0)))] := hD
  refine lv_aload_n hx hb dX4_init_13 rfl (lv_at hl 0 rfl) ?_
  refine lv_sipush (v := 160) hx hb dX4_init_14 (by decide) ?_
  refine u_newa 0 (atype := .int) (n := 160) (N' := 160) hx hb (hts (.arrayClass .int) (by decide +kernel)) (ty := .int) rfl hK hP hD hS hA rfl rfl (fun C h => by cases h) (by decide) (by decide) (by show 160 * 4 ≤ 536870912; omega) (Nat.le_of_ble_eq_true rfl) (Nat.le_of_ble_eq_true rfl) dX4_init_17 (fun q2 H hP hD hS => ?_)
  have hP : va_P D vwCl [(h0, .inr (4, [.ref q1, .null, .null, .null, .int 0])), (q1, .inl (cs 0, 160, .inl (fun _ => 0))), (q2, .inl (cs 0, 160, .inl (fun _ => 0)))] H := hP
  have hD : va_D A [(h0, .inr (4, [.ref q1, .null, .null, .null, .int 0])), (q1, .inl (cs 0, 160, .inl (fun _ => 0))), (q2, .inl (cs 0, 160, .inl (fun _ => 0)))] := hD
  refine va_putF (D := D) (ci := 4) (v := .ref q2) (ty := (tyX4 1)) (C := RX4) (T := TX4) (N := 5) hx hb hts (by decide +kernel) tyX4 tyX4_ok nmX4 hown hK hP hD hS 0 rfl rfl 1 (by decide) (hts (.fieldLink RX4 17 "GhostSigns$Places" "slots" "[I") (by decide +kernel)) (fun _ h9 => h9) rfl hin rfl (by decide +kernel) rfl rfl (Nat.le_of_ble_eq_true rfl) dX4_init_19 (fun H locs hP hD hS => ?_)
  have hP : va_P D vwCl [(h0, .inr (4, [.ref q1, .ref q2, .null, .null, .int 0])), (q1, .inl (cs 0, 160, .inl (fun _ => 0))), (q2, .inl (cs 0, 160, .inl (fun _ => 0)))] H := hP
  have hD : va_D A [(h0, .inr (4, [.ref q1, .ref q2, .null, .null, .int 0])), (q1, .inl (cs 0, 160, .inl (fun _ => 0))), (q2, .inl (cs 0, 160, .inl (fun _ => 0)))] := hD
  refine lv_aload_n hx hb dX4_init_22 rfl (lv_at hl 0 rfl) ?_
  refine lv_sipush (v := 160) hx hb dX4_init_23 (by decide) ?_
  refine u_newa 0 (atype := .int) (n := 160) (N' := 160) hx hb (hts (.arrayClass .int) (by decide +kernel)) (ty := .int) rfl hK hP hD hS hA rfl rfl (fun C h => by cases h) (by decide) (by decide) (by show 160 * 4 ≤ 536870912; omega) (Nat.le_of_ble_eq_true rfl) (Nat.le_of_ble_eq_true rfl) dX4_init_26 (fun q3 H hP hD hS => ?_)
  have hP : va_P D vwCl [(h0, .inr (4, [.ref q1, .ref q2, .null, .null, .int 0])), (q1, .inl (cs 0, 160, .inl (fun _ => 0))), (q2, .inl (cs 0, 160, .inl (fun _ => 0))), (q3, .inl (cs 0, 160, .inl (fun _ => 0)))] H := hP
  have hD : va_D A [(h0, .inr (4, [.ref q1, .ref q2, .null, .null, .int 0])), (q1, .inl (cs 0, 160, .inl (fun _ => 0))), (q2, .inl (cs 0, 160, .inl (fun _ => 0))), (q3, .inl (cs 0, 160, .inl (fun _ => 0)))] := hD
  refine va_putF (D := D) (ci := 4) (v := .ref q3) (ty := (tyX4 2)) (C := RX4) (T := TX4) (N := 5) hx hb hts (by decide +kernel) tyX4 tyX4_ok nmX4 hown hK hP hD hS 0 rfl rfl 2 (by decide) (hts (.fieldLink RX4 20 "GhostSigns$Places" "lacks" "[I") (by decide +kernel)) (fun _ h9 => h9) rfl hin rfl (by decide +kernel) rfl rfl (Nat.le_of_ble_eq_true rfl) dX4_init_28 (fun H locs hP hD hS => ?_)
  have hP : va_P D vwCl [(h0, .inr (4, [.ref q1, .ref q2, .ref q3, .null, .int 0])), (q1, .inl (cs 0, 160, .inl (fun _ => 0))), (q2, .inl (cs 0, 160, .inl (fun _ => 0))), (q3, .inl (cs 0, 160, .inl (fun _ => 0)))] H := hP
  have hD : va_D A [(h0, .inr (4, [.ref q1, .ref q2, .ref q3, .null, .int 0])), (q1, .inl (cs 0, 160, .inl (fun _ => 0))), (q2, .inl (cs 0, 160, .inl (fun _ => 0))), (q3, .inl (cs 0, 160, .inl (fun _ => 0)))] := hD
  refine lv_aload_n hx hb dX4_init_31 rfl (lv_at hl 0 rfl) ?_
  refine lv_sipush (v := 160) hx hb dX4_init_32 (by decide) ?_
  refine u_newa 0 (atype := .int) (n := 160) (N' := 160) hx hb (hts (.arrayClass .int) (by decide +kernel)) (ty := .int) rfl hK hP hD hS hA rfl rfl (fun C h => by cases h) (by decide) (by decide) (by show 160 * 4 ≤ 536870912; omega) (Nat.le_of_ble_eq_true rfl) (Nat.le_of_ble_eq_true rfl) dX4_init_35 (fun q4 H hP hD hS => ?_)
  have hP : va_P D vwCl [(h0, .inr (4, [.ref q1, .ref q2, .ref q3, .null, .int 0])), (q1, .inl (cs 0, 160, .inl (fun _ => 0))), (q2, .inl (cs 0, 160, .inl (fun _ => 0))), (q3, .inl (cs 0, 160, .inl (fun _ => 0))), (q4, .inl (cs 0, 160, .inl (fun _ => 0)))] H := hP
  have hD : va_D A [(h0, .inr (4, [.ref q1, .ref q2, .ref q3, .null, .int 0])), (q1, .inl (cs 0, 160, .inl (fun _ => 0))), (q2, .inl (cs 0, 160, .inl (fun _ => 0))), (q3, .inl (cs 0, 160, .inl (fun _ => 0))), (q4, .inl (cs 0, 160, .inl (fun _ => 0)))] := hD
  refine va_putF (D := D) (ci := 4) (v := .ref q4) (ty := (tyX4 3)) (C := RX4) (T := TX4) (N := 5) hx hb hts (by decide +kernel) tyX4 tyX4_ok nmX4 hown hK hP hD hS 0 rfl rfl 3 (by decide) (hts (.fieldLink RX4 23 "GhostSigns$Places" "bares" "[I") (by decide +kernel)) (fun _ h9 => h9) rfl hin rfl (by decide +kernel) rfl rfl (Nat.le_of_ble_eq_true rfl) dX4_init_37 (fun H locs hP hD hS => ?_)
  have hP : va_P D vwCl [(h0, .inr (4, [.ref q1, .ref q2, .ref q3, .ref q4, .int 0])), (q1, .inl (cs 0, 160, .inl (fun _ => 0))), (q2, .inl (cs 0, 160, .inl (fun _ => 0))), (q3, .inl (cs 0, 160, .inl (fun _ => 0))), (q4, .inl (cs 0, 160, .inl (fun _ => 0)))] H := hP
  have hD : va_D A [(h0, .inr (4, [.ref q1, .ref q2, .ref q3, .ref q4, .int 0])), (q1, .inl (cs 0, 160, .inl (fun _ => 0))), (q2, .inl (cs 0, 160, .inl (fun _ => 0))), (q3, .inl (cs 0, 160, .inl (fun _ => 0))), (q4, .inl (cs 0, 160, .inl (fun _ => 0)))] := hD
  obtain ⟨qs, eqs⟩ : ∃ qs : Nat → Nat, qs = fun k => ([h0, q1, q2, q3, q4] : List Nat).getD k 0 := ⟨_, rfl⟩
  have hP9 : va_P D vwCl (uw 5 qs (enX4 cs qs) (fun _ _ => 0)) H := by
    refine hP.sub [0, 1, 2, 3, 4] ?_
    subst eqs
    rfl
  have hD9 : va_D A (uw 5 qs (enX4 cs qs) (fun _ _ => 0)) := by
    refine hD.sub [0, 1, 2, 3, 4] (by decide) ?_
    subst eqs
    rfl
  have hq0 : qs 0 = h0 := by rw [eqs]; rfl
  have hJ9 := uw_J hD9
  have hn9 : ∀ k, 1 ≤ k → k < 5 → s.heap.size ≤ qs k := fun k h1 h2 => hAn _ (hJ9.2 k h2) (fun h => by have := hJ9.1 k 0 h2 (by omega) (h.trans hq0.symm); omega)
  subst hAe
  refine W.widen (k := 4) (n := 640) (Nat.le_of_ble_eq_true rfl) (Nat.le_of_ble_eq_true rfl) ?_
  exact W.vret hx hb hr (fun t ht hW => ⟨⟨qs, rfl, ⟨hq0, hJ9.1, hn9⟩, by show va_P D vwCl (uw 5 qs (enX4 cs qs) (fun _ _ => 0)) t.heap; rw [ht]; exact hP9⟩, hS.F ht⟩) hS.2.2 dX4_init_40
def enX5l (ad : Nat → Nat) (cs : Nat → ClassId) (f : Nat → Int32) : List va_E := [.inr (5, [.ref (ad 1), .ref (ad 2)]), .inl (cs 4, 4, .inr (.inr (.inr (.inr (fun i => if i < 4 then some (ad (3 + i)) else none))))), .inl (cs 0, 4, .inl f), .inl (cs 1, 10, .inl f), .inl (cs 1, 10, .inl f), .inl (cs 1, 10, .inl f), .inl (cs 1, 10, .inl f)]
def enX5 (cs : Nat → ClassId) (ad : Nat → Nat) (k : Nat) (f : Nat → Int32) : va_E := (enX5l ad cs f).getD k (.inr (0, []))
set_option maxHeartbeats 8000000 in
set_option maxRecDepth 100000 in
theorem c_X5_init (l : Launch) (D : va_G) (cs : Nat → ClassId) : uMc l yX5_init wsX5_init { frames := 2, cells := 6, slots := 48, locals := 40 } D vwCl cs 5 [.null, .null] 7 (enX5 cs) (uf (fun _ _ => 0) 2 (upd (upd (upd (upd (fun _ => 0) 0 (-1)) 1 (-1)) 2 (-1)) 3 (-1))) 6 48 := by
  intro h0 sz
  refine Met.ofW (cc := cX5_init) (maxL := 1) (ret := none) (by decide) rfl ?_
  intro p e s m args below meth c s₁ B hml hv
  obtain ⟨rfl, hsz, hP, hK, hAO⟩ := hv
  have hx := B.exec
  have hb := B.bytes
  have hr := B.returns
  have hts := atoms_spec (ws := wsX5_init) B.pre
  have hown : s.vm.findClass RX5 = some m.cls := findClass_of_methodNamed B.named
  have hlocks := B.notSynchronized
  have hin : meth.name = "<init>" := (name_of_methodNamed B.named B.method).1
  subst hsz
  have hlt : h0 < s.heap.size := (hP 0 _ rfl).lt
  generalize hAe : uN h0 s.heap.size = A
  have hA : ∀ q : Nat, s.heap.size ≤ q → A q := fun q h => by rw [← hAe]; exact Or.inr h
  have hAn : ∀ q : Nat, A q → q ≠ h0 → s.heap.size ≤ q := fun q h g => by rw [← hAe] at h; exact h.resolve_left g
  have hD : va_D A [(h0, .inr (5, [.null, .null]))] := ⟨fun i j x y h1 h2 _ => by have a1 := (List.getElem?_eq_some_iff.mp h1).1; have a2 := (List.getElem?_eq_some_iff.mp h2).1; simp at a1 a2; omega, fun k q h => by have a1 := (List.getElem?_eq_some_iff.mp h).1; simp at a1; subst a1; cases h; rw [← hAe]; exact Or.inl rfl⟩
  have hS : va_S A s.heap s.heap [] := va_S.rf
  have hl := lv_entry ([.ref h0]) (n := 1) (Nat.le_of_ble_eq_true rfl)
  rw [lg_entry_eq]
  generalize (lg_sl ([.ref h0]) ++ List.replicate (1 - (lg_sl ([.ref h0])).length) Slot.unset).toArray = ls at hl ⊢
  have hl : lv_has ls 1 [(0, .ref h0)] := hl
  obtain ⟨H, eH⟩ : ∃ H, H = s.heap := ⟨_, rfl⟩
  obtain ⟨locs, eL⟩ : ∃ locs : List Loc, locs = [] := ⟨_, rfl⟩
  refine u_start2 eH eL hP hS ?_
  clear hP hS eH eL
  intro hP hS
  refine lv_aload_n hx hb dX5_init_0 rfl (lv_at hl 0 rfl) ?_
  refine W.objInit hx hb hown (hts (.methodLink RX5 1 objectInit) (by decide +kernel)) (hts (.instanceMethod objectInit) (by decide +kernel)) (hts (.code objectInit ⟨#[0xb1]⟩ 1 none) (by decide +kernel)) rfl (by rw [hml]; exact hl.1) rfl dX5_init_1 (Nat.le_of_ble_eq_true rfl) (Nat.le_of_ble_eq_true rfl) ?_
  refine W.eq (g2 := F0 m 4 ls []) rfl ?_
  refine lv_aload_n hx hb dX5_init_4 rfl (lv_at hl 0 rfl) ?_
  refine lv_iconst (v := 4) hx hb dX5_init_5 (by decide) ?_
  refine lv_bipush (v := 10) hx hb dX5_init_6 (by decide) ?_
  refine u_mna 1 4 (n := 4) (k := 10) (N' := 4) (K' := 10) (ty := .byte) hx hb hown (hts (.classLink RX5 9 "[[B") (by decide +kernel)) hAO.1 (hts (.arrayClass .byte) (by decide +kernel)) hK hP hD hS hA rfl rfl rfl ((hK.2 1 _ rfl).2) (by decide) (by decide) (by decide) (by decide) (by show 4 * 4 ≤ 536870912; omega) (by show 10 * 1 ≤ 536870912; omega) (by show 10 ≤ 536870912; omega) rfl rfl (Nat.le_of_ble_eq_true rfl) (Nat.le_of_ble_eq_true rfl) dX5_init_8 (fun q1 r1 H hP hD hS => ?_)
  have hP : va_P D vwCl [(h0, .inr (5, [.null, .null])), (q1, .inl (cs 4, 4, .inr (.inr (.inr (.inr (fun i => if i < 4 then some (r1 i) else none)))))), ((r1 0), .inl (cs 1, 10, .inl (fun _ => 0))), ((r1 1), .inl (cs 1, 10, .inl (fun _ => 0))), ((r1 2), .inl (cs 1, 10, .inl (fun _ => 0))), ((r1 3), .inl (cs 1, 10, .inl (fun _ => 0)))] H := hP
  have hD : va_D A [(h0, .inr (5, [.null, .null])), (q1, .inl (cs 4, 4, .inr (.inr (.inr (.inr (fun i => if i < 4 then some (r1 i) else none)))))), ((r1 0), .inl (cs 1, 10, .inl (fun _ => 0))), ((r1 1), .inl (cs 1, 10, .inl (fun _ => 0))), ((r1 2), .inl (cs 1, 10, .inl (fun _ => 0))), ((r1 3), .inl (cs 1, 10, .inl (fun _ => 0)))] := hD
  refine va_putF (D := D) (ci := 5) (v := .ref q1) (ty := (tyX5 0)) (C := RX5) (T := TX5) (N := 2) hx hb hts (by decide +kernel) tyX5 tyX5_ok nmX5 hown hK hP hD hS 0 rfl rfl 0 (by decide) (hts (.fieldLink RX5 11 "GhostSigns$Sheets" "rows" "[[B") (by decide +kernel)) (fun _ h9 => h9) rfl hin rfl (by decide +kernel) rfl rfl (Nat.le_of_ble_eq_true rfl) dX5_init_12 (fun H locs hP hD hS => ?_)
  have hP : va_P D vwCl [(h0, .inr (5, [.ref q1, .null])), (q1, .inl (cs 4, 4, .inr (.inr (.inr (.inr (fun i => if i < 4 then some (r1 i) else none)))))), ((r1 0), .inl (cs 1, 10, .inl (fun _ => 0))), ((r1 1), .inl (cs 1, 10, .inl (fun _ => 0))), ((r1 2), .inl (cs 1, 10, .inl (fun _ => 0))), ((r1 3), .inl (cs 1, 10, .inl (fun _ => 0)))] H := hP
  have hD : va_D A [(h0, .inr (5, [.ref q1, .null])), (q1, .inl (cs 4, 4, .inr (.inr (.inr (.inr (fun i => if i < 4 then some (r1 i) else none)))))), ((r1 0), .inl (cs 1, 10, .inl (fun _ => 0))), ((r1 1), .inl (cs 1, 10, .inl (fun _ => 0))), ((r1 2), .inl (cs 1, 10, .inl (fun _ => 0))), ((r1 3), .inl (cs 1, 10, .inl (fun _ => 0)))] := hD
  refine lv_aload_n hx hb dX5_init_15 rfl (lv_at hl 0 rfl) ?_
  refine lv_iconst (v := 4) hx hb dX5_init_16 (by decide) ?_
  refine u_newa 0 (atype := .int) (n := 4) (N' := 4) hx hb (hts (.arrayClass .int) (by decide +kernel)) (ty := .int) rfl hK hP hD hS hA rfl rfl (fun C h => by cases h) (by decide) (by decide) (by show 4 * 4 ≤ 536870912; omega) (Nat.le_of_ble_eq_true rfl) (Nat.le_of_ble_eq_true rfl) dX5_init_17 (fun q2 H hP hD hS => ?_)
  have hP : va_P D vwCl [(h0, .inr (5, [.ref q1, .null])), (q1, .inl (cs 4, 4, .inr (.inr (.inr (.inr (fun i => if i < 4 then some (r1 i) else none)))))), ((r1 0), .inl (cs 1, 10, .inl (fun _ => 0))), ((r1 1), .inl (cs 1, 10, .inl (fun _ => 0))), ((r1 2), .inl (cs 1, 10, .inl (fun _ => 0))), ((r1 3), .inl (cs 1, 10, .inl (fun _ => 0))), (q2, .inl (cs 0, 4, .inl (fun _ => 0)))] H := hP
  have hD : va_D A [(h0, .inr (5, [.ref q1, .null])), (q1, .inl (cs 4, 4, .inr (.inr (.inr (.inr (fun i => if i < 4 then some (r1 i) else none)))))), ((r1 0), .inl (cs 1, 10, .inl (fun _ => 0))), ((r1 1), .inl (cs 1, 10, .inl (fun _ => 0))), ((r1 2), .inl (cs 1, 10, .inl (fun _ => 0))), ((r1 3), .inl (cs 1, 10, .inl (fun _ => 0))), (q2, .inl (cs 0, 4, .inl (fun _ => 0)))] := hD
  refine va_putF (D := D) (ci := 5) (v := .ref q2) (ty := (tyX5 1)) (C := RX5) (T := TX5) (N := 2) hx hb hts (by decide +kernel) tyX5 tyX5_ok nmX5 hown hK hP hD hS 0 rfl rfl 1 (by decide) (hts (.fieldLink RX5 14 "GhostSigns$Sheets" "sizes" "[I") (by decide +kernel)) (fun _ h9 => h9) rfl hin rfl (by decide +kernel) rfl rfl (Nat.le_of_ble_eq_true rfl) dX5_init_19 (fun H locs hP hD hS => ?_)
  have hP : va_P D vwCl [(h0, .inr (5, [.ref q1, .ref q2])), (q1, .inl (cs 4, 4, .inr (.inr (.inr (.inr (fun i => if i < 4 then some (r1 i) else none)))))), ((r1 0), .inl (cs 1, 10, .inl (fun _ => 0))), ((r1 1), .inl (cs 1, 10, .inl (fun _ => 0))), ((r1 2), .inl (cs 1, 10, .inl (fun _ => 0))), ((r1 3), .inl (cs 1, 10, .inl (fun _ => 0))), (q2, .inl (cs 0, 4, .inl (fun _ => 0)))] H := hP
  have hD : va_D A [(h0, .inr (5, [.ref q1, .ref q2])), (q1, .inl (cs 4, 4, .inr (.inr (.inr (.inr (fun i => if i < 4 then some (r1 i) else none)))))), ((r1 0), .inl (cs 1, 10, .inl (fun _ => 0))), ((r1 1), .inl (cs 1, 10, .inl (fun _ => 0))), ((r1 2), .inl (cs 1, 10, .inl (fun _ => 0))), ((r1 3), .inl (cs 1, 10, .inl (fun _ => 0))), (q2, .inl (cs 0, 4, .inl (fun _ => 0)))] := hD
  refine lv_aload_n hx hb dX5_init_22 rfl (lv_at hl 0 rfl) ?_
  refine va_get (D := D) (ci := 5) (v := .ref q2) (C := RX5) (T := TX5) (N := 2) hx hb hts (by decide +kernel) hown hK hP 0 rfl rfl 1 (by decide) (hts (.fieldLink RX5 14 "GhostSigns$Sheets" "sizes" "[I") (by decide +kernel)) (fun _ h9 => h9) rfl dX5_init_23 ?_
  refine lv_iconst (v := (-1)) hx hb dX5_init_26 (by decide) ?_
  have hPc : va_P D vwCl (uw 1 (fun _ => q2) (enF cs) (fun _ _ => 0)) H := hP.sub [6] rfl
  have hqA : A q2 := hD.2 6 _ rfl
  have hJ1 : uJ 1 (fun _ => q2) := fun i j hi hj _ => by omega
  have hfr : ∀ z, uAd 1 (fun _ => q2) H.size z → A z := fun z h => h.elim (fun ⟨_, _, h⟩ => by rw [h]; exact hqA) (fun h => hA z (Nat.le_trans hS.1 h))
  refine va_callv (va_runS (As := [.ref q2, .int (-1)]) (rest := []) ⟨hx, hb, hml, hown, hts⟩ (c_J7_fill_53178 l D (fun _ => q2) cs hJ1 (fun _ _ => 0) (-1) () _ fill_m1 H.size) (va_cwS 2 hts gX5_init_J7_fill_53178 rfl rfl rfl (by decide +kernel) ⟨Nat.le_of_ble_eq_true rfl, Nat.le_of_ble_eq_true rfl⟩) ⟨uPre_blind, fun U hU hW => ⟨rfl, by rw [hU], by rw [hU]; exact hPc, va_K.moved hW.alike hK⟩⟩ rfl rfl hl.1 rfl (lv_room (Nat.le_of_ble_eq_true rfl)) dX5_init_27 ⟨Nat.le_of_ble_eq_true rfl, Nat.le_of_ble_eq_true rfl⟩) hS (fun z _ h => hfr z h) hfr (fun u t H1 locs ht hvm hw hB hz1 hk1 hS => ?_)
  rw [ht] at hB
  have hq9 : va_at D vwCl (q2, .inl (cs 0, 4, .inl (upd (upd (upd (upd (fun _ => 0) 0 (-1)) 1 (-1)) 2 (-1)) 3 (-1)))) H1 := hB 0 _ rfl
  have hP : va_P D vwCl ([(h0, .inr (5, [.ref q1, .ref q2])), (q1, .inl (cs 4, 4, .inr (.inr (.inr (.inr (fun i => if i < 4 then some (r1 i) else none)))))), ((r1 0), .inl (cs 1, 10, .inl (fun _ => 0))), ((r1 1), .inl (cs 1, 10, .inl (fun _ => 0))), ((r1 2), .inl (cs 1, 10, .inl (fun _ => 0))), ((r1 3), .inl (cs 1, 10, .inl (fun _ => 0))), (q2, .inl (cs 0, 4, .inl (fun _ => 0)))].set 6 (q2, .inl (cs 0, 4, .inl (upd (upd (upd (upd (fun _ => 0) 0 (-1)) 1 (-1)) 2 (-1)) 3 (-1))))) H1 := by
    intro i x hi
    by_cases ei : i = 6
    · subst ei; cases hi; exact hq9
    · rw [List.getElem?_set_ne (fun h => ei h.symm)] at hi
      refine (hP i x hi).kept (hk1 _ (hP i x hi).lt (fun h => ?_))
      rcases h with ⟨_, _, h⟩ | h
      · exact ei (hD.1 i 6 x _ hi rfl h)
      · exact absurd (hP i x hi).lt (Nat.not_lt.mpr h)
  have hD := hD.set (p := 6) (e := .inl (cs 0, 4, .inl (upd (upd (upd (upd (fun _ => 0) 0 (-1)) 1 (-1)) 2 (-1)) 3 (-1)))) rfl
  generalize H1 = H at hP hS ⊢
  have hP : va_P D vwCl [(h0, .inr (5, [.ref q1, .ref q2])), (q1, .inl (cs 4, 4, .inr (.inr (.inr (.inr (fun i => if i < 4 then some (r1 i) else none)))))), ((r1 0), .inl (cs 1, 10, .inl (fun _ => 0))), ((r1 1), .inl (cs 1, 10, .inl (fun _ => 0))), ((r1 2), .inl (cs 1, 10, .inl (fun _ => 0))), ((r1 3), .inl (cs 1, 10, .inl (fun _ => 0))), (q2, .inl (cs 0, 4, .inl (upd (upd (upd (upd (fun _ => 0) 0 (-1)) 1 (-1)) 2 (-1)) 3 (-1))))] H := hP
  have hD : va_D A [(h0, .inr (5, [.ref q1, .ref q2])), (q1, .inl (cs 4, 4, .inr (.inr (.inr (.inr (fun i => if i < 4 then some (r1 i) else none)))))), ((r1 0), .inl (cs 1, 10, .inl (fun _ => 0))), ((r1 1), .inl (cs 1, 10, .inl (fun _ => 0))), ((r1 2), .inl (cs 1, 10, .inl (fun _ => 0))), ((r1 3), .inl (cs 1, 10, .inl (fun _ => 0))), (q2, .inl (cs 0, 4, .inl (upd (upd (upd (upd (fun _ => 0) 0 (-1)) 1 (-1)) 2 (-1)) 3 (-1))))] := hD
  obtain ⟨qs, eqs⟩ : ∃ qs : Nat → Nat, qs = fun k => ([h0, q1, q2, (r1 0), (r1 1), (r1 2), (r1 3)] : List Nat).getD k 0 := ⟨_, rfl⟩
  have eo : (fun i => if i < 4 then some (r1 i) else none) = (fun i => if i < 4 then some (qs (3 + i)) else none) := by
    funext i
    by_cases hi : i < 4
    · rw [if_pos hi, if_pos hi, eqs]
      match i, hi with
      | 0, _ => rfl
      | 1, _ => rfl
      | 2, _ => rfl
      | 3, _ => rfl
    · rw [if_neg hi, if_neg hi]
  rw [eo] at hP hD
  have hP9 : va_P D vwCl (uw 7 qs (enX5 cs qs) (uf (fun _ _ => 0) 2 (upd (upd (upd (upd (fun _ => 0) 0 (-1)) 1 (-1)) 2 (-1)) 3 (-1)))) H := by
    refine hP.sub [0, 1, 6, 2, 3, 4, 5] ?_
    subst eqs
    rfl
  have hD9 : va_D A (uw 7 qs (enX5 cs qs) (uf (fun _ _ => 0) 2 (upd (upd (upd (upd (fun _ => 0) 0 (-1)) 1 (-1)) 2 (-1)) 3 (-1)))) := by
    refine hD.sub [0, 1, 6, 2, 3, 4, 5] (by decide) ?_
    subst eqs
    rfl
  have hq0 : qs 0 = h0 := by rw [eqs]; rfl
  have hJ9 := uw_J hD9
  have hn9 : ∀ k, 1 ≤ k → k < 7 → s.heap.size ≤ qs k := fun k h1 h2 => hAn _ (hJ9.2 k h2) (fun h => by have := hJ9.1 k 0 h2 (by omega) (h.trans hq0.symm); omega)
  subst hAe
  refine W.widen (k := 6) (n := 48) (Nat.le_of_ble_eq_true rfl) (Nat.le_of_ble_eq_true rfl) ?_
  exact W.vret hx hb hr (fun t ht hW => ⟨⟨qs, rfl, ⟨hq0, hJ9.1, hn9⟩, by show va_P D vwCl (uw 7 qs (enX5 cs qs) (uf (fun _ _ => 0) 2 (upd (upd (upd (upd (fun _ => 0) 0 (-1)) 1 (-1)) 2 (-1)) 3 (-1)))) t.heap; rw [ht]; exact hP9⟩, hS.F ht⟩) hS.2.2 dX5_init_30
def enX6l (ad : Nat → Nat) (cs : Nat → ClassId) (f : Nat → Int32) : List va_E := [.inr (6, [.ref (ad 1), .ref (ad 2), .ref (ad 3), .int (f 3), .int (f 4), .int (f 5)]), .inl (cs 0, 8, .inl f), .inl (cs 0, 8, .inl f), .inl (cs 0, 8, .inl f)]
def enX6 (cs : Nat → ClassId) (ad : Nat → Nat) (k : Nat) (f : Nat → Int32) : va_E := (enX6l ad cs f).getD k (.inr (0, []))
set_option maxHeartbeats 8000000 in
set_option maxRecDepth 100000 in
theorem c_X6_init (l : Launch) (D : va_G) (cs : Nat → ClassId) : uMc l yX6_init wsX6_init { frames := 1, cells := 3, slots := 24, locals := 12 } D vwCl cs 6 [.null, .null, .null, .int 0, .int 0, .int 0] 4 (enX6 cs) (us (us (fun _ _ => 0) 0 4 1) 0 5 1900) 3 24 := by
  intro h0 sz
  refine Met.ofW (cc := cX6_init) (maxL := 1) (ret := none) (by decide) rfl ?_
  intro p e s m args below meth c s₁ B hml hv
  obtain ⟨rfl, hsz, hP, hK, hAO⟩ := hv
  have hx := B.exec
  have hb := B.bytes
  have hr := B.returns
  have hts := atoms_spec (ws := wsX6_init) B.pre
  have hown : s.vm.findClass RX6 = some m.cls := findClass_of_methodNamed B.named
  have hlocks := B.notSynchronized
  have hin : meth.name = "<init>" := (name_of_methodNamed B.named B.method).1
  subst hsz
  have hlt : h0 < s.heap.size := (hP 0 _ rfl).lt
  generalize hAe : uN h0 s.heap.size = A
  have hA : ∀ q : Nat, s.heap.size ≤ q → A q := fun q h => by rw [← hAe]; exact Or.inr h
  have hAn : ∀ q : Nat, A q → q ≠ h0 → s.heap.size ≤ q := fun q h g => by rw [← hAe] at h; exact h.resolve_left g
  have hD : va_D A [(h0, .inr (6, [.null, .null, .null, .int 0, .int 0, .int 0]))] := ⟨fun i j x y h1 h2 _ => by have a1 := (List.getElem?_eq_some_iff.mp h1).1; have a2 := (List.getElem?_eq_some_iff.mp h2).1; simp at a1 a2; omega, fun k q h => by have a1 := (List.getElem?_eq_some_iff.mp h).1; simp at a1; subst a1; cases h; rw [← hAe]; exact Or.inl rfl⟩
  have hS : va_S A s.heap s.heap [] := va_S.rf
  have hl := lv_entry ([.ref h0]) (n := 1) (Nat.le_of_ble_eq_true rfl)
  rw [lg_entry_eq]
  generalize (lg_sl ([.ref h0]) ++ List.replicate (1 - (lg_sl ([.ref h0])).length) Slot.unset).toArray = ls at hl ⊢
  have hl : lv_has ls 1 [(0, .ref h0)] := hl
  obtain ⟨H, eH⟩ : ∃ H, H = s.heap := ⟨_, rfl⟩
  obtain ⟨locs, eL⟩ : ∃ locs : List Loc, locs = [] := ⟨_, rfl⟩
  refine u_start2 eH eL hP hS ?_
  clear hP hS eH eL
  intro hP hS
  refine lv_aload_n hx hb dX6_init_0 rfl (lv_at hl 0 rfl) ?_
  refine W.objInit hx hb hown (hts (.methodLink RX6 3 objectInit) (by decide +kernel)) (hts (.instanceMethod objectInit) (by decide +kernel)) (hts (.code objectInit ⟨#[0xb1]⟩ 1 none) (by decide +kernel)) rfl (by rw [hml]; exact hl.1) rfl dX6_init_1 (Nat.le_of_ble_eq_true rfl) (Nat.le_of_ble_eq_true rfl) ?_
  refine W.eq (g2 := F0 m 4 ls []) rfl ?_
  refine lv_aload_n hx hb dX6_init_4 rfl (lv_at hl 0 rfl) ?_
  refine lv_bipush (v := 8) hx hb dX6_init_5 (by decide) ?_
  refine u_newa 0 (atype := .int) (n := 8) (N' := 8) hx hb (hts (.arrayClass .int) (by decide +kernel)) (ty := .int) rfl hK hP hD hS hA rfl rfl (fun C h => by cases h) (by decide) (by decide) (by show 8 * 4 ≤ 536870912; omega) (Nat.le_of_ble_eq_true rfl) (Nat.le_of_ble_eq_true rfl) dX6_init_7 (fun q1 H hP hD hS => ?_)
  have hP : va_P D vwCl [(h0, .inr (6, [.null, .null, .null, .int 0, .int 0, .int 0])), (q1, .inl (cs 0, 8, .inl (fun _ => 0)))] H := hP
  have hD : va_D A [(h0, .inr (6, [.null, .null, .null, .int 0, .int 0, .int 0])), (q1, .inl (cs 0, 8, .inl (fun _ => 0)))] := hD
  refine va_putF (D := D) (ci := 6) (v := .ref q1) (ty := (tyX6 0)) (C := RX6) (T := TX6) (N := 6) hx hb hts (by decide +kernel) tyX6 tyX6_ok nmX6 hown hK hP hD hS 0 rfl rfl 0 (by decide) (hts (.fieldLink RX6 11 "GhostSigns$Street" "years" "[I") (by decide +kernel)) (fun _ h9 => h9) rfl hin rfl (by decide +kernel) rfl rfl (Nat.le_of_ble_eq_true rfl) dX6_init_9 (fun H locs hP hD hS => ?_)
  have hP : va_P D vwCl [(h0, .inr (6, [.ref q1, .null, .null, .int 0, .int 0, .int 0])), (q1, .inl (cs 0, 8, .inl (fun _ => 0)))] H := hP
  have hD : va_D A [(h0, .inr (6, [.ref q1, .null, .null, .int 0, .int 0, .int 0])), (q1, .inl (cs 0, 8, .inl (fun _ => 0)))] := hD
  refine lv_aload_n hx hb dX6_init_12 rfl (lv_at hl 0 rfl) ?_
  refine lv_bipush (v := 8) hx hb dX6_init_13 (by decide) ?_
  refine u_newa 0 (atype := .int) (n := 8) (N' := 8) hx hb (hts (.arrayClass .int) (by decide +kernel)) (ty := .int) rfl hK hP hD hS hA rfl rfl (fun C h => by cases h) (by decide) (by decide) (by show 8 * 4 ≤ 536870912; omega) (Nat.le_of_ble_eq_true rfl) (Nat.le_of_ble_eq_true rfl) dX6_init_15 (fun q2 H hP hD hS => ?_)
  have hP : va_P D vwCl [(h0, .inr (6, [.ref q1, .null, .null, .int 0, .int 0, .int 0])), (q1, .inl (cs 0, 8, .inl (fun _ => 0))), (q2, .inl (cs 0, 8, .inl (fun _ => 0)))] H := hP
  have hD : va_D A [(h0, .inr (6, [.ref q1, .null, .null, .int 0, .int 0, .int 0])), (q1, .inl (cs 0, 8, .inl (fun _ => 0))), (q2, .inl (cs 0, 8, .inl (fun _ => 0)))] := hD
  refine va_putF (D := D) (ci := 6) (v := .ref q2) (ty := (tyX6 1)) (C := RX6) (T := TX6) (N := 6) hx hb hts (by decide +kernel) tyX6 tyX6_ok nmX6 hown hK hP hD hS 0 rfl rfl 1 (by decide) (hts (.fieldLink RX6 15 "GhostSigns$Street" "factors" "[I") (by decide +kernel)) (fun _ h9 => h9) rfl hin rfl (by decide +kernel) rfl rfl (Nat.le_of_ble_eq_true rfl) dX6_init_17 (fun H locs hP hD hS => ?_)
  have hP : va_P D vwCl [(h0, .inr (6, [.ref q1, .ref q2, .null, .int 0, .int 0, .int 0])), (q1, .inl (cs 0, 8, .inl (fun _ => 0))), (q2, .inl (cs 0, 8, .inl (fun _ => 0)))] H := hP
  have hD : va_D A [(h0, .inr (6, [.ref q1, .ref q2, .null, .int 0, .int 0, .int 0])), (q1, .inl (cs 0, 8, .inl (fun _ => 0))), (q2, .inl (cs 0, 8, .inl (fun _ => 0)))] := hD
  refine lv_aload_n hx hb dX6_init_20 rfl (lv_at hl 0 rfl) ?_
  refine lv_bipush (v := 8) hx hb dX6_init_21 (by decide) ?_
  refine u_newa 0 (atype := .int) (n := 8) (N' := 8) hx hb (hts (.arrayClass .int) (by decide +kernel)) (ty := .int) rfl hK hP hD hS hA rfl rfl (fun C h => by cases h) (by decide) (by decide) (by show 8 * 4 ≤ 536870912; omega) (Nat.le_of_ble_eq_true rfl) (Nat.le_of_ble_eq_true rfl) dX6_init_23 (fun q3 H hP hD hS => ?_)
  have hP : va_P D vwCl [(h0, .inr (6, [.ref q1, .ref q2, .null, .int 0, .int 0, .int 0])), (q1, .inl (cs 0, 8, .inl (fun _ => 0))), (q2, .inl (cs 0, 8, .inl (fun _ => 0))), (q3, .inl (cs 0, 8, .inl (fun _ => 0)))] H := hP
  have hD : va_D A [(h0, .inr (6, [.ref q1, .ref q2, .null, .int 0, .int 0, .int 0])), (q1, .inl (cs 0, 8, .inl (fun _ => 0))), (q2, .inl (cs 0, 8, .inl (fun _ => 0))), (q3, .inl (cs 0, 8, .inl (fun _ => 0)))] := hD
  refine va_putF (D := D) (ci := 6) (v := .ref q3) (ty := (tyX6 2)) (C := RX6) (T := TX6) (N := 6) hx hb hts (by decide +kernel) tyX6 tyX6_ok nmX6 hown hK hP hD hS 0 rfl rfl 2 (by decide) (hts (.fieldLink RX6 18 "GhostSigns$Street" "shifts" "[I") (by decide +kernel)) (fun _ h9 => h9) rfl hin rfl (by decide +kernel) rfl rfl (Nat.le_of_ble_eq_true rfl) dX6_init_25 (fun H locs hP hD hS => ?_)
  have hP : va_P D vwCl [(h0, .inr (6, [.ref q1, .ref q2, .ref q3, .int 0, .int 0, .int 0])), (q1, .inl (cs 0, 8, .inl (fun _ => 0))), (q2, .inl (cs 0, 8, .inl (fun _ => 0))), (q3, .inl (cs 0, 8, .inl (fun _ => 0)))] H := hP
  have hD : va_D A [(h0, .inr (6, [.ref q1, .ref q2, .ref q3, .int 0, .int 0, .int 0])), (q1, .inl (cs 0, 8, .inl (fun _ => 0))), (q2, .inl (cs 0, 8, .inl (fun _ => 0))), (q3, .inl (cs 0, 8, .inl (fun _ => 0)))] := hD
  refine lv_aload_n hx hb dX6_init_28 rfl (lv_at hl 0 rfl) ?_
  refine lv_iconst (v := 1) hx hb dX6_init_29 (by decide) ?_
  refine va_put (D := D) (ci := 6) (v := .int 1) (ty := (tyX6 4)) (C := RX6) (T := TX6) (N := 6) hx hb hts (by decide +kernel) tyX6 tyX6_ok nmX6 hown hK hP hD hS 0 rfl rfl 4 (by decide) (hts (.fieldLink RX6 21 "GhostSigns$Street" "wallNumber" "I") (by decide +kernel)) (fun _ h9 => h9) rfl (by decide +kernel) rfl rfl (Nat.le_of_ble_eq_true rfl) dX6_init_30 (fun H locs hP hD hS => ?_)
  have hP : va_P D vwCl [(h0, .inr (6, [.ref q1, .ref q2, .ref q3, .int 0, .int 1, .int 0])), (q1, .inl (cs 0, 8, .inl (fun _ => 0))), (q2, .inl (cs 0, 8, .inl (fun _ => 0))), (q3, .inl (cs 0, 8, .inl (fun _ => 0)))] H := hP
  have hD : va_D A [(h0, .inr (6, [.ref q1, .ref q2, .ref q3, .int 0, .int 1, .int 0])), (q1, .inl (cs 0, 8, .inl (fun _ => 0))), (q2, .inl (cs 0, 8, .inl (fun _ => 0))), (q3, .inl (cs 0, 8, .inl (fun _ => 0)))] := hD
  refine lv_aload_n hx hb dX6_init_33 rfl (lv_at hl 0 rfl) ?_
  refine lv_sipush (v := 1900) hx hb dX6_init_34 (by decide) ?_
  refine va_put (D := D) (ci := 6) (v := .int 1900) (ty := (tyX6 5)) (C := RX6) (T := TX6) (N := 6) hx hb hts (by decide +kernel) tyX6 tyX6_ok nmX6 hown hK hP hD hS 0 rfl rfl 5 (by decide) (hts (.fieldLink RX6 25 "GhostSigns$Street" "wallYear" "I") (by decide +kernel)) (fun _ h9 => h9) rfl (by decide +kernel) rfl rfl (Nat.le_of_ble_eq_true rfl) dX6_init_37 (fun H locs hP hD hS => ?_)
  have hP : va_P D vwCl [(h0, .inr (6, [.ref q1, .ref q2, .ref q3, .int 0, .int 1, .int 1900])), (q1, .inl (cs 0, 8, .inl (fun _ => 0))), (q2, .inl (cs 0, 8, .inl (fun _ => 0))), (q3, .inl (cs 0, 8, .inl (fun _ => 0)))] H := hP
  have hD : va_D A [(h0, .inr (6, [.ref q1, .ref q2, .ref q3, .int 0, .int 1, .int 1900])), (q1, .inl (cs 0, 8, .inl (fun _ => 0))), (q2, .inl (cs 0, 8, .inl (fun _ => 0))), (q3, .inl (cs 0, 8, .inl (fun _ => 0)))] := hD
  obtain ⟨qs, eqs⟩ : ∃ qs : Nat → Nat, qs = fun k => ([h0, q1, q2, q3] : List Nat).getD k 0 := ⟨_, rfl⟩
  have hP9 : va_P D vwCl (uw 4 qs (enX6 cs qs) (us (us (fun _ _ => 0) 0 4 1) 0 5 1900)) H := by
    refine hP.sub [0, 1, 2, 3] ?_
    subst eqs
    rfl
  have hD9 : va_D A (uw 4 qs (enX6 cs qs) (us (us (fun _ _ => 0) 0 4 1) 0 5 1900)) := by
    refine hD.sub [0, 1, 2, 3] (by decide) ?_
    subst eqs
    rfl
  have hq0 : qs 0 = h0 := by rw [eqs]; rfl
  have hJ9 := uw_J hD9
  have hn9 : ∀ k, 1 ≤ k → k < 4 → s.heap.size ≤ qs k := fun k h1 h2 => hAn _ (hJ9.2 k h2) (fun h => by have := hJ9.1 k 0 h2 (by omega) (h.trans hq0.symm); omega)
  subst hAe
  refine W.widen (k := 3) (n := 24) (Nat.le_of_ble_eq_true rfl) (Nat.le_of_ble_eq_true rfl) ?_
  exact W.vret hx hb hr (fun t ht hW => ⟨⟨qs, rfl, ⟨hq0, hJ9.1, hn9⟩, by show va_P D vwCl (uw 4 qs (enX6 cs qs) (us (us (fun _ _ => 0) 0 4 1) 0 5 1900)) t.heap; rw [ht]; exact hP9⟩, hS.F ht⟩) hS.2.2 dX6_init_40
def enX7l (ad : Nat → Nat) (cs : Nat → ClassId) (f : Nat → Int32) : List va_E := [.inr (7, [.ref (ad 1), .ref (ad 2), .int (f 2), .int (f 3)]), .inl (cs 0, 12, .inl f), .inl (cs 0, 12, .inl f)]
def enX7 (cs : Nat → ClassId) (ad : Nat → Nat) (k : Nat) (f : Nat → Int32) : va_E := (enX7l ad cs f).getD k (.inr (0, []))
set_option maxHeartbeats 8000000 in
set_option maxRecDepth 100000 in
theorem c_X7_init (l : Launch) (D : va_G) (cs : Nat → ClassId) : uMc l yX7_init wsX7_init { frames := 1, cells := 2, slots := 24, locals := 12 } D vwCl cs 7 [.null, .null, .int 0, .int 0] 3 (enX7 cs) (fun _ _ => 0) 2 24 := by
  intro h0 sz
  refine Met.ofW (cc := cX7_init) (maxL := 1) (ret := none) (by decide) rfl ?_
  intro p e s m args below meth c s₁ B hml hv
  obtain ⟨rfl, hsz, hP, hK, hAO⟩ := hv
  have hx := B.exec
  have hb := B.bytes
  have hr := B.returns
  have hts := atoms_spec (ws := wsX7_init) B.pre
  have hown : s.vm.findClass RX7 = some m.cls := findClass_of_methodNamed B.named
  have hlocks := B.notSynchronized
  have hin : meth.name = "<init>" := (name_of_methodNamed B.named B.method).1
  subst hsz
  have hlt : h0 < s.heap.size := (hP 0 _ rfl).lt
  generalize hAe : uN h0 s.heap.size = A
  have hA : ∀ q : Nat, s.heap.size ≤ q → A q := fun q h => by rw [← hAe]; exact Or.inr h
  have hAn : ∀ q : Nat, A q → q ≠ h0 → s.heap.size ≤ q := fun q h g => by rw [← hAe] at h; exact h.resolve_left g
  have hD : va_D A [(h0, .inr (7, [.null, .null, .int 0, .int 0]))] := ⟨fun i j x y h1 h2 _ => by have a1 := (List.getElem?_eq_some_iff.mp h1).1; have a2 := (List.getElem?_eq_some_iff.mp h2).1; simp at a1 a2; omega, fun k q h => by have a1 := (List.getElem?_eq_some_iff.mp h).1; simp at a1; subst a1; cases h; rw [← hAe]; exact Or.inl rfl⟩
  have hS : va_S A s.heap s.heap [] := va_S.rf
  have hl := lv_entry ([.ref h0]) (n := 1) (Nat.le_of_ble_eq_true rfl)
  rw [lg_entry_eq]
  generalize (lg_sl ([.ref h0]) ++ List.replicate (1 - (lg_sl ([.ref h0])).length) Slot.unset).toArray = ls at hl ⊢
  have hl : lv_has ls 1 [(0, .ref h0)] := hl
  obtain ⟨H, eH⟩ : ∃ H, H = s.heap := ⟨_, rfl⟩
  obtain ⟨locs, eL⟩ : ∃ locs : List Loc, locs = [] := ⟨_, rfl⟩
  refine u_start2 eH eL hP hS ?_
  clear hP hS eH eL
  intro hP hS
  refine lv_aload_n hx hb dX7_init_0 rfl (lv_at hl 0 rfl) ?_
  refine W.objInit hx hb hown (hts (.methodLink RX7 1 objectInit) (by decide +kernel)) (hts (.instanceMethod objectInit) (by decide +kernel)) (hts (.code objectInit ⟨#[0xb1]⟩ 1 none) (by decide +kernel)) rfl (by rw [hml]; exact hl.1) rfl dX7_init_1 (Nat.le_of_ble_eq_true rfl) (Nat.le_of_ble_eq_true rfl) ?_
  refine W.eq (g2 := F0 m 4 ls []) rfl ?_
  refine lv_aload_n hx hb dX7_init_4 rfl (lv_at hl 0 rfl) ?_
  refine lv_bipush (v := 12) hx hb dX7_init_5 (by decide) ?_
  refine u_newa 0 (atype := .int) (n := 12) (N' := 12) hx hb (hts (.arrayClass .int) (by decide +kernel)) (ty := .int) rfl hK hP hD hS hA rfl rfl (fun C h => by cases h) (by decide) (by decide) (by show 12 * 4 ≤ 536870912; omega) (Nat.le_of_ble_eq_true rfl) (Nat.le_of_ble_eq_true rfl) dX7_init_7 (fun q1 H hP hD hS => ?_)
  have hP : va_P D vwCl [(h0, .inr (7, [.null, .null, .int 0, .int 0])), (q1, .inl (cs 0, 12, .inl (fun _ => 0)))] H := hP
  have hD : va_D A [(h0, .inr (7, [.null, .null, .int 0, .int 0])), (q1, .inl (cs 0, 12, .inl (fun _ => 0)))] := hD
  refine va_putF (D := D) (ci := 7) (v := .ref q1) (ty := (tyX7 0)) (C := RX7) (T := TX7) (N := 4) hx hb hts (by decide +kernel) tyX7 tyX7_ok nmX7 hown hK hP hD hS 0 rfl rfl 0 (by decide) (hts (.fieldLink RX7 9 "GhostSigns$Walls" "worths" "[I") (by decide +kernel)) (fun _ h9 => h9) rfl hin rfl (by decide +kernel) rfl rfl (Nat.le_of_ble_eq_true rfl) dX7_init_9 (fun H locs hP hD hS => ?_)
  have hP : va_P D vwCl [(h0, .inr (7, [.ref q1, .null, .int 0, .int 0])), (q1, .inl (cs 0, 12, .inl (fun _ => 0)))] H := hP
  have hD : va_D A [(h0, .inr (7, [.ref q1, .null, .int 0, .int 0])), (q1, .inl (cs 0, 12, .inl (fun _ => 0)))] := hD
  refine lv_aload_n hx hb dX7_init_12 rfl (lv_at hl 0 rfl) ?_
  refine lv_bipush (v := 12) hx hb dX7_init_13 (by decide) ?_
  refine u_newa 0 (atype := .int) (n := 12) (N' := 12) hx hb (hts (.arrayClass .int) (by decide +kernel)) (ty := .int) rfl hK hP hD hS hA rfl rfl (fun C h => by cases h) (by decide) (by decide) (by show 12 * 4 ≤ 536870912; omega) (Nat.le_of_ble_eq_true rfl) (Nat.le_of_ble_eq_true rfl) dX7_init_15 (fun q2 H hP hD hS => ?_)
  have hP : va_P D vwCl [(h0, .inr (7, [.ref q1, .null, .int 0, .int 0])), (q1, .inl (cs 0, 12, .inl (fun _ => 0))), (q2, .inl (cs 0, 12, .inl (fun _ => 0)))] H := hP
  have hD : va_D A [(h0, .inr (7, [.ref q1, .null, .int 0, .int 0])), (q1, .inl (cs 0, 12, .inl (fun _ => 0))), (q2, .inl (cs 0, 12, .inl (fun _ => 0)))] := hD
  refine va_putF (D := D) (ci := 7) (v := .ref q2) (ty := (tyX7 1)) (C := RX7) (T := TX7) (N := 4) hx hb hts (by decide +kernel) tyX7 tyX7_ok nmX7 hown hK hP hD hS 0 rfl rfl 1 (by decide) (hts (.fieldLink RX7 13 "GhostSigns$Walls" "costs" "[I") (by decide +kernel)) (fun _ h9 => h9) rfl hin rfl (by decide +kernel) rfl rfl (Nat.le_of_ble_eq_true rfl) dX7_init_17 (fun H locs hP hD hS => ?_)
  have hP : va_P D vwCl [(h0, .inr (7, [.ref q1, .ref q2, .int 0, .int 0])), (q1, .inl (cs 0, 12, .inl (fun _ => 0))), (q2, .inl (cs 0, 12, .inl (fun _ => 0)))] H := hP
  have hD : va_D A [(h0, .inr (7, [.ref q1, .ref q2, .int 0, .int 0])), (q1, .inl (cs 0, 12, .inl (fun _ => 0))), (q2, .inl (cs 0, 12, .inl (fun _ => 0)))] := hD
  obtain ⟨qs, eqs⟩ : ∃ qs : Nat → Nat, qs = fun k => ([h0, q1, q2] : List Nat).getD k 0 := ⟨_, rfl⟩
  have hP9 : va_P D vwCl (uw 3 qs (enX7 cs qs) (fun _ _ => 0)) H := by
    refine hP.sub [0, 1, 2] ?_
    subst eqs
    rfl
  have hD9 : va_D A (uw 3 qs (enX7 cs qs) (fun _ _ => 0)) := by
    refine hD.sub [0, 1, 2] (by decide) ?_
    subst eqs
    rfl
  have hq0 : qs 0 = h0 := by rw [eqs]; rfl
  have hJ9 := uw_J hD9
  have hn9 : ∀ k, 1 ≤ k → k < 3 → s.heap.size ≤ qs k := fun k h1 h2 => hAn _ (hJ9.2 k h2) (fun h => by have := hJ9.1 k 0 h2 (by omega) (h.trans hq0.symm); omega)
  subst hAe
  refine W.widen (k := 2) (n := 24) (Nat.le_of_ble_eq_true rfl) (Nat.le_of_ble_eq_true rfl) ?_
  exact W.vret hx hb hr (fun t ht hW => ⟨⟨qs, rfl, ⟨hq0, hJ9.1, hn9⟩, by show va_P D vwCl (uw 3 qs (enX7 cs qs) (fun _ _ => 0)) t.heap; rw [ht]; exact hP9⟩, hS.F ht⟩) hS.2.2 dX7_init_20
def enX8l (ad : Nat → Nat) (cs : Nat → ClassId) (f : Nat → Int32) : List va_E := [.inr (8, [.ref (ad 1), .ref (ad 2), .ref (ad 3), .ref (ad 4), .ref (ad 5), .ref (ad 6), .ref (ad 7), .ref (ad 8), .ref (ad 9), .int (f 9)]), .inl (cs 0, 26, .inl f), .inl (cs 4, 16, .inr (.inr (.inr (.inr (fun i => if i < 16 then some (ad (10 + i)) else none))))), .inl (cs 0, 16, .inl f), .inl (cs 0, 16, .inl f), .inl (cs 0, 16, .inl f), .inl (cs 0, 16, .inl f), .inl (cs 0, 16, .inl f), .inl (cs 0, 16, .inl f), .inl (cs 2, 16, .inl f), .inl (cs 1, 8, .inl f), .inl (cs 1, 8, .inl f), .inl (cs 1, 8, .inl f), .inl (cs 1, 8, .inl f), .inl (cs 1, 8, .inl f), .inl (cs 1, 8, .inl f), .inl (cs 1, 8, .inl f), .inl (cs 1, 8, .inl f), .inl (cs 1, 8, .inl f), .inl (cs 1, 8, .inl f), .inl (cs 1, 8, .inl f), .inl (cs 1, 8, .inl f), .inl (cs 1, 8, .inl f), .inl (cs 1, 8, .inl f), .inl (cs 1, 8, .inl f), .inl (cs 1, 8, .inl f)]
def enX8 (cs : Nat → ClassId) (ad : Nat → Nat) (k : Nat) (f : Nat → Int32) : va_E := (enX8l ad cs f).getD k (.inr (0, []))
set_option maxHeartbeats 8000000 in
set_option maxRecDepth 100000 in
theorem c_X8_init (l : Launch) (D : va_G) (cs : Nat → ClassId) : uMc l yX8_init wsX8_init { frames := 1, cells := 25, slots := 282, locals := 12 } D vwCl cs 8 [.null, .null, .null, .null, .null, .null, .null, .null, .null, .int 0] 26 (enX8 cs) (fun _ _ => 0) 25 282 := by
  intro h0 sz
  refine Met.ofW (cc := cX8_init) (maxL := 1) (ret := none) (by decide) rfl ?_
  intro p e s m args below meth c s₁ B hml hv
  obtain ⟨rfl, hsz, hP, hK, hAO⟩ := hv
  have hx := B.exec
  have hb := B.bytes
  have hr := B.returns
  have hts := atoms_spec (ws := wsX8_init) B.pre
  have hown : s.vm.findClass RX8 = some m.cls := findClass_of_methodNamed B.named
  have hlocks := B.notSynchronized
  have hin : meth.name = "<init>" := (name_of_methodNamed B.named B.method).1
  subst hsz
  have hlt : h0 < s.heap.size := (hP 0 _ rfl).lt
  generalize hAe : uN h0 s.heap.size = A
  have hA : ∀ q : Nat, s.heap.size ≤ q → A q := fun q h => by rw [← hAe]; exact Or.inr h
  have hAn : ∀ q : Nat, A q → q ≠ h0 → s.heap.size ≤ q := fun q h g => by rw [← hAe] at h; exact h.resolve_left g
  have hD : va_D A [(h0, .inr (8, [.null, .null, .null, .null, .null, .null, .null, .null, .null, .int 0]))] := ⟨fun i j x y h1 h2 _ => by have a1 := (List.getElem?_eq_some_iff.mp h1).1; have a2 := (List.getElem?_eq_some_iff.mp h2).1; simp at a1 a2; omega, fun k q h => by have a1 := (List.getElem?_eq_some_iff.mp h).1; simp at a1; subst a1; cases h; rw [← hAe]; exact Or.inl rfl⟩
  have hS : va_S A s.heap s.heap [] := va_S.rf
  have hl := lv_entry ([.ref h0]) (n := 1) (Nat.le_of_ble_eq_true rfl)
  rw [lg_entry_eq]
  generalize (lg_sl ([.ref h0]) ++ List.replicate (1 - (lg_sl ([.ref h0])).length) Slot.unset).toArray = ls at hl ⊢
  have hl : lv_has ls 1 [(0, .ref h0)] := hl
  obtain ⟨H, eH⟩ : ∃ H, H = s.heap := ⟨_, rfl⟩
  obtain ⟨locs, eL⟩ : ∃ locs : List Loc, locs = [] := ⟨_, rfl⟩
  refine u_start2 eH eL hP hS ?_
  clear hP hS eH eL
  intro hP hS
  refine lv_aload_n hx hb dX8_init_0 rfl (lv_at hl 0 rfl) ?_
  refine W.objInit hx hb hown (hts (.methodLink RX8 3 objectInit) (by decide +kernel)) (hts (.instanceMethod objectInit) (by decide +kernel)) (hts (.code objectInit ⟨#[0xb1]⟩ 1 none) (by decide +kernel)) rfl (by rw [hml]; exact hl.1) rfl dX8_init_1 (Nat.le_of_ble_eq_true rfl) (Nat.le_of_ble_eq_true rfl) ?_
  refine W.eq (g2 := F0 m 4 ls []) rfl ?_
  refine lv_aload_n hx hb dX8_init_4 rfl (lv_at hl 0 rfl) ?_
  refine lv_bipush (v := 26) hx hb dX8_init_5 (by decide) ?_
  refine u_newa 0 (atype := .int) (n := 26) (N' := 26) hx hb (hts (.arrayClass .int) (by decide +kernel)) (ty := .int) rfl hK hP hD hS hA rfl rfl (fun C h => by cases h) (by decide) (by decide) (by show 26 * 4 ≤ 536870912; omega) (Nat.le_of_ble_eq_true rfl) (Nat.le_of_ble_eq_true rfl) dX8_init_7 (fun q1 H hP hD hS => ?_)
  have hP : va_P D vwCl [(h0, .inr (8, [.null, .null, .null, .null, .null, .null, .null, .null, .null, .int 0])), (q1, .inl (cs 0, 26, .inl (fun _ => 0)))] H := hP
  have hD : va_D A [(h0, .inr (8, [.null, .null, .null, .null, .null, .null, .null, .null, .null, .int 0])), (q1, .inl (cs 0, 26, .inl (fun _ => 0)))] := hD
  refine va_putF (D := D) (ci := 8) (v := .ref q1) (ty := (tyX8 0)) (C := RX8) (T := TX8) (N := 10) hx hb hts (by decide +kernel) tyX8 tyX8_ok nmX8 hown hK hP hD hS 0 rfl rfl 0 (by decide) (hts (.fieldLink RX8 11 "GhostSigns$Words" "strokes" "[I") (by decide +kernel)) (fun _ h9 => h9) rfl hin rfl (by decide +kernel) rfl rfl (Nat.le_of_ble_eq_true rfl) dX8_init_9 (fun H locs hP hD hS => ?_)
  have hP : va_P D vwCl [(h0, .inr (8, [.ref q1, .null, .null, .null, .null, .null, .null, .null, .null, .int 0])), (q1, .inl (cs 0, 26, .inl (fun _ => 0)))] H := hP
  have hD : va_D A [(h0, .inr (8, [.ref q1, .null, .null, .null, .null, .null, .null, .null, .null, .int 0])), (q1, .inl (cs 0, 26, .inl (fun _ => 0)))] := hD
  refine lv_aload_n hx hb dX8_init_12 rfl (lv_at hl 0 rfl) ?_
  refine lv_bipush (v := 16) hx hb dX8_init_13 (by decide) ?_
  refine lv_bipush (v := 8) hx hb dX8_init_15 (by decide) ?_
  refine u_mna 1 4 (n := 16) (k := 8) (N' := 16) (K' := 8) (ty := .byte) hx hb hown (hts (.classLink RX8 15 "[[B") (by decide +kernel)) hAO.1 (hts (.arrayClass .byte) (by decide +kernel)) hK hP hD hS hA rfl rfl rfl ((hK.2 1 _ rfl).2) (by decide) (by decide) (by decide) (by decide) (by show 16 * 4 ≤ 536870912; omega) (by show 8 * 1 ≤ 536870912; omega) (by show 8 ≤ 536870912; omega) rfl rfl (Nat.le_of_ble_eq_true rfl) (Nat.le_of_ble_eq_true rfl) dX8_init_17 (fun q2 r2 H hP hD hS => ?_)
  have hP : va_P D vwCl [(h0, .inr (8, [.ref q1, .null, .null, .null, .null, .null, .null, .null, .null, .int 0])), (q1, .inl (cs 0, 26, .inl (fun _ => 0))), (q2, .inl (cs 4, 16, .inr (.inr (.inr (.inr (fun i => if i < 16 then some (r2 i) else none)))))), ((r2 0), .inl (cs 1, 8, .inl (fun _ => 0))), ((r2 1), .inl (cs 1, 8, .inl (fun _ => 0))), ((r2 2), .inl (cs 1, 8, .inl (fun _ => 0))), ((r2 3), .inl (cs 1, 8, .inl (fun _ => 0))), ((r2 4), .inl (cs 1, 8, .inl (fun _ => 0))), ((r2 5), .inl (cs 1, 8, .inl (fun _ => 0))), ((r2 6), .inl (cs 1, 8, .inl (fun _ => 0))), ((r2 7), .inl (cs 1, 8, .inl (fun _ => 0))), ((r2 8), .inl (cs 1, 8, .inl (fun _ => 0))), ((r2 9), .inl (cs 1, 8, .inl (fun _ => 0))), ((r2 10), .inl (cs 1, 8, .inl (fun _ => 0))), ((r2 11), .inl (cs 1, 8, .inl (fun _ => 0))), ((r2 12), .inl (cs 1, 8, .inl (fun _ => 0))), ((r2 13), .inl (cs 1, 8, .inl (fun _ => 0))), ((r2 14), .inl (cs 1, 8, .inl (fun _ => 0))), ((r2 15), .inl (cs 1, 8, .inl (fun _ => 0)))] H := hP
  have hD : va_D A [(h0, .inr (8, [.ref q1, .null, .null, .null, .null, .null, .null, .null, .null, .int 0])), (q1, .inl (cs 0, 26, .inl (fun _ => 0))), (q2, .inl (cs 4, 16, .inr (.inr (.inr (.inr (fun i => if i < 16 then some (r2 i) else none)))))), ((r2 0), .inl (cs 1, 8, .inl (fun _ => 0))), ((r2 1), .inl (cs 1, 8, .inl (fun _ => 0))), ((r2 2), .inl (cs 1, 8, .inl (fun _ => 0))), ((r2 3), .inl (cs 1, 8, .inl (fun _ => 0))), ((r2 4), .inl (cs 1, 8, .inl (fun _ => 0))), ((r2 5), .inl (cs 1, 8, .inl (fun _ => 0))), ((r2 6), .inl (cs 1, 8, .inl (fun _ => 0))), ((r2 7), .inl (cs 1, 8, .inl (fun _ => 0))), ((r2 8), .inl (cs 1, 8, .inl (fun _ => 0))), ((r2 9), .inl (cs 1, 8, .inl (fun _ => 0))), ((r2 10), .inl (cs 1, 8, .inl (fun _ => 0))), ((r2 11), .inl (cs 1, 8, .inl (fun _ => 0))), ((r2 12), .inl (cs 1, 8, .inl (fun _ => 0))), ((r2 13), .inl (cs 1, 8, .inl (fun _ => 0))), ((r2 14), .inl (cs 1, 8, .inl (fun _ => 0))), ((r2 15), .inl (cs 1, 8, .inl (fun _ => 0)))] := hD
  refine va_putF (D := D) (ci := 8) (v := .ref q2) (ty := (tyX8 1)) (C := RX8) (T := TX8) (N := 10) hx hb hts (by decide +kernel) tyX8 tyX8_ok nmX8 hown hK hP hD hS 0 rfl rfl 1 (by decide) (hts (.fieldLink RX8 17 "GhostSigns$Words" "letters" "[[B") (by decide +kernel)) (fun _ h9 => h9) rfl hin rfl (by decide +kernel) rfl rfl (Nat.le_of_ble_eq_true rfl) dX8_init_21 (fun H locs hP hD hS => ?_)
  have hP : va_P D vwCl [(h0, .inr (8, [.ref q1, .ref q2, .null, .null, .null, .null, .null, .null, .null, .int 0])), (q1, .inl (cs 0, 26, .inl (fun _ => 0))), (q2, .inl (cs 4, 16, .inr (.inr (.inr (.inr (fun i => if i < 16 then some (r2 i) else none)))))), ((r2 0), .inl (cs 1, 8, .inl (fun _ => 0))), ((r2 1), .inl (cs 1, 8, .inl (fun _ => 0))), ((r2 2), .inl (cs 1, 8, .inl (fun _ => 0))), ((r2 3), .inl (cs 1, 8, .inl (fun _ => 0))), ((r2 4), .inl (cs 1, 8, .inl (fun _ => 0))), ((r2 5), .inl (cs 1, 8, .inl (fun _ => 0))), ((r2 6), .inl (cs 1, 8, .inl (fun _ => 0))), ((r2 7), .inl (cs 1, 8, .inl (fun _ => 0))), ((r2 8), .inl (cs 1, 8, .inl (fun _ => 0))), ((r2 9), .inl (cs 1, 8, .inl (fun _ => 0))), ((r2 10), .inl (cs 1, 8, .inl (fun _ => 0))), ((r2 11), .inl (cs 1, 8, .inl (fun _ => 0))), ((r2 12), .inl (cs 1, 8, .inl (fun _ => 0))), ((r2 13), .inl (cs 1, 8, .inl (fun _ => 0))), ((r2 14), .inl (cs 1, 8, .inl (fun _ => 0))), ((r2 15), .inl (cs 1, 8, .inl (fun _ => 0)))] H := hP
  have hD : va_D A [(h0, .inr (8, [.ref q1, .ref q2, .null, .null, .null, .null, .null, .null, .null, .int 0])), (q1, .inl (cs 0, 26, .inl (fun _ => 0))), (q2, .inl (cs 4, 16, .inr (.inr (.inr (.inr (fun i => if i < 16 then some (r2 i) else none)))))), ((r2 0), .inl (cs 1, 8, .inl (fun _ => 0))), ((r2 1), .inl (cs 1, 8, .inl (fun _ => 0))), ((r2 2), .inl (cs 1, 8, .inl (fun _ => 0))), ((r2 3), .inl (cs 1, 8, .inl (fun _ => 0))), ((r2 4), .inl (cs 1, 8, .inl (fun _ => 0))), ((r2 5), .inl (cs 1, 8, .inl (fun _ => 0))), ((r2 6), .inl (cs 1, 8, .inl (fun _ => 0))), ((r2 7), .inl (cs 1, 8, .inl (fun _ => 0))), ((r2 8), .inl (cs 1, 8, .inl (fun _ => 0))), ((r2 9), .inl (cs 1, 8, .inl (fun _ => 0))), ((r2 10), .inl (cs 1, 8, .inl (fun _ => 0))), ((r2 11), .inl (cs 1, 8, .inl (fun _ => 0))), ((r2 12), .inl (cs 1, 8, .inl (fun _ => 0))), ((r2 13), .inl (cs 1, 8, .inl (fun _ => 0))), ((r2 14), .inl (cs 1, 8, .inl (fun _ => 0))), ((r2 15), .inl (cs 1, 8, .inl (fun _ => 0)))] := hD
  refine lv_aload_n hx hb dX8_init_24 rfl (lv_at hl 0 rfl) ?_
  refine lv_bipush (v := 16) hx hb dX8_init_25 (by decide) ?_
  refine u_newa 0 (atype := .int) (n := 16) (N' := 16) hx hb (hts (.arrayClass .int) (by decide +kernel)) (ty := .int) rfl hK hP hD hS hA rfl rfl (fun C h => by cases h) (by decide) (by decide) (by show 16 * 4 ≤ 536870912; omega) (Nat.le_of_ble_eq_true rfl) (Nat.le_of_ble_eq_true rfl) dX8_init_27 (fun q3 H hP hD hS => ?_)
  have hP : va_P D vwCl [(h0, .inr (8, [.ref q1, .ref q2, .null, .null, .null, .null, .null, .null, .null, .int 0])), (q1, .inl (cs 0, 26, .inl (fun _ => 0))), (q2, .inl (cs 4, 16, .inr (.inr (.inr (.inr (fun i => if i < 16 then some (r2 i) else none)))))), ((r2 0), .inl (cs 1, 8, .inl (fun _ => 0))), ((r2 1), .inl (cs 1, 8, .inl (fun _ => 0))), ((r2 2), .inl (cs 1, 8, .inl (fun _ => 0))), ((r2 3), .inl (cs 1, 8, .inl (fun _ => 0))), ((r2 4), .inl (cs 1, 8, .inl (fun _ => 0))), ((r2 5), .inl (cs 1, 8, .inl (fun _ => 0))), ((r2 6), .inl (cs 1, 8, .inl (fun _ => 0))), ((r2 7), .inl (cs 1, 8, .inl (fun _ => 0))), ((r2 8), .inl (cs 1, 8, .inl (fun _ => 0))), ((r2 9), .inl (cs 1, 8, .inl (fun _ => 0))), ((r2 10), .inl (cs 1, 8, .inl (fun _ => 0))), ((r2 11), .inl (cs 1, 8, .inl (fun _ => 0))), ((r2 12), .inl (cs 1, 8, .inl (fun _ => 0))), ((r2 13), .inl (cs 1, 8, .inl (fun _ => 0))), ((r2 14), .inl (cs 1, 8, .inl (fun _ => 0))), ((r2 15), .inl (cs 1, 8, .inl (fun _ => 0))), (q3, .inl (cs 0, 16, .inl (fun _ => 0)))] H := hP
  have hD : va_D A [(h0, .inr (8, [.ref q1, .ref q2, .null, .null, .null, .null, .null, .null, .null, .int 0])), (q1, .inl (cs 0, 26, .inl (fun _ => 0))), (q2, .inl (cs 4, 16, .inr (.inr (.inr (.inr (fun i => if i < 16 then some (r2 i) else none)))))), ((r2 0), .inl (cs 1, 8, .inl (fun _ => 0))), ((r2 1), .inl (cs 1, 8, .inl (fun _ => 0))), ((r2 2), .inl (cs 1, 8, .inl (fun _ => 0))), ((r2 3), .inl (cs 1, 8, .inl (fun _ => 0))), ((r2 4), .inl (cs 1, 8, .inl (fun _ => 0))), ((r2 5), .inl (cs 1, 8, .inl (fun _ => 0))), ((r2 6), .inl (cs 1, 8, .inl (fun _ => 0))), ((r2 7), .inl (cs 1, 8, .inl (fun _ => 0))), ((r2 8), .inl (cs 1, 8, .inl (fun _ => 0))), ((r2 9), .inl (cs 1, 8, .inl (fun _ => 0))), ((r2 10), .inl (cs 1, 8, .inl (fun _ => 0))), ((r2 11), .inl (cs 1, 8, .inl (fun _ => 0))), ((r2 12), .inl (cs 1, 8, .inl (fun _ => 0))), ((r2 13), .inl (cs 1, 8, .inl (fun _ => 0))), ((r2 14), .inl (cs 1, 8, .inl (fun _ => 0))), ((r2 15), .inl (cs 1, 8, .inl (fun _ => 0))), (q3, .inl (cs 0, 16, .inl (fun _ => 0)))] := hD
  refine va_putF (D := D) (ci := 8) (v := .ref q3) (ty := (tyX8 2)) (C := RX8) (T := TX8) (N := 10) hx hb hts (by decide +kernel) tyX8 tyX8_ok nmX8 hown hK hP hD hS 0 rfl rfl 2 (by decide) (hts (.fieldLink RX8 20 "GhostSigns$Words" "lengths" "[I") (by decide +kernel)) (fun _ h9 => h9) rfl hin rfl (by decide +kernel) rfl rfl (Nat.le_of_ble_eq_true rfl) dX8_init_29 (fun H locs hP hD hS => ?_)
  have hP : va_P D vwCl [(h0, .inr (8, [.ref q1, .ref q2, .ref q3, .null, .null, .null, .null, .null, .null, .int 0])), (q1, .inl (cs 0, 26, .inl (fun _ => 0))), (q2, .inl (cs 4, 16, .inr (.inr (.inr (.inr (fun i => if i < 16 then some (r2 i) else none)))))), ((r2 0), .inl (cs 1, 8, .inl (fun _ => 0))), ((r2 1), .inl (cs 1, 8, .inl (fun _ => 0))), ((r2 2), .inl (cs 1, 8, .inl (fun _ => 0))), ((r2 3), .inl (cs 1, 8, .inl (fun _ => 0))), ((r2 4), .inl (cs 1, 8, .inl (fun _ => 0))), ((r2 5), .inl (cs 1, 8, .inl (fun _ => 0))), ((r2 6), .inl (cs 1, 8, .inl (fun _ => 0))), ((r2 7), .inl (cs 1, 8, .inl (fun _ => 0))), ((r2 8), .inl (cs 1, 8, .inl (fun _ => 0))), ((r2 9), .inl (cs 1, 8, .inl (fun _ => 0))), ((r2 10), .inl (cs 1, 8, .inl (fun _ => 0))), ((r2 11), .inl (cs 1, 8, .inl (fun _ => 0))), ((r2 12), .inl (cs 1, 8, .inl (fun _ => 0))), ((r2 13), .inl (cs 1, 8, .inl (fun _ => 0))), ((r2 14), .inl (cs 1, 8, .inl (fun _ => 0))), ((r2 15), .inl (cs 1, 8, .inl (fun _ => 0))), (q3, .inl (cs 0, 16, .inl (fun _ => 0)))] H := hP
  have hD : va_D A [(h0, .inr (8, [.ref q1, .ref q2, .ref q3, .null, .null, .null, .null, .null, .null, .int 0])), (q1, .inl (cs 0, 26, .inl (fun _ => 0))), (q2, .inl (cs 4, 16, .inr (.inr (.inr (.inr (fun i => if i < 16 then some (r2 i) else none)))))), ((r2 0), .inl (cs 1, 8, .inl (fun _ => 0))), ((r2 1), .inl (cs 1, 8, .inl (fun _ => 0))), ((r2 2), .inl (cs 1, 8, .inl (fun _ => 0))), ((r2 3), .inl (cs 1, 8, .inl (fun _ => 0))), ((r2 4), .inl (cs 1, 8, .inl (fun _ => 0))), ((r2 5), .inl (cs 1, 8, .inl (fun _ => 0))), ((r2 6), .inl (cs 1, 8, .inl (fun _ => 0))), ((r2 7), .inl (cs 1, 8, .inl (fun _ => 0))), ((r2 8), .inl (cs 1, 8, .inl (fun _ => 0))), ((r2 9), .inl (cs 1, 8, .inl (fun _ => 0))), ((r2 10), .inl (cs 1, 8, .inl (fun _ => 0))), ((r2 11), .inl (cs 1, 8, .inl (fun _ => 0))), ((r2 12), .inl (cs 1, 8, .inl (fun _ => 0))), ((r2 13), .inl (cs 1, 8, .inl (fun _ => 0))), ((r2 14), .inl (cs 1, 8, .inl (fun _ => 0))), ((r2 15), .inl (cs 1, 8, .inl (fun _ => 0))), (q3, .inl (cs 0, 16, .inl (fun _ => 0)))] := hD
  refine lv_aload_n hx hb dX8_init_32 rfl (lv_at hl 0 rfl) ?_
  refine lv_bipush (v := 16) hx hb dX8_init_33 (by decide) ?_
  refine u_newa 0 (atype := .int) (n := 16) (N' := 16) hx hb (hts (.arrayClass .int) (by decide +kernel)) (ty := .int) rfl hK hP hD hS hA rfl rfl (fun C h => by cases h) (by decide) (by decide) (by show 16 * 4 ≤ 536870912; omega) (Nat.le_of_ble_eq_true rfl) (Nat.le_of_ble_eq_true rfl) dX8_init_35 (fun q4 H hP hD hS => ?_)
  have hP : va_P D vwCl [(h0, .inr (8, [.ref q1, .ref q2, .ref q3, .null, .null, .null, .null, .null, .null, .int 0])), (q1, .inl (cs 0, 26, .inl (fun _ => 0))), (q2, .inl (cs 4, 16, .inr (.inr (.inr (.inr (fun i => if i < 16 then some (r2 i) else none)))))), ((r2 0), .inl (cs 1, 8, .inl (fun _ => 0))), ((r2 1), .inl (cs 1, 8, .inl (fun _ => 0))), ((r2 2), .inl (cs 1, 8, .inl (fun _ => 0))), ((r2 3), .inl (cs 1, 8, .inl (fun _ => 0))), ((r2 4), .inl (cs 1, 8, .inl (fun _ => 0))), ((r2 5), .inl (cs 1, 8, .inl (fun _ => 0))), ((r2 6), .inl (cs 1, 8, .inl (fun _ => 0))), ((r2 7), .inl (cs 1, 8, .inl (fun _ => 0))), ((r2 8), .inl (cs 1, 8, .inl (fun _ => 0))), ((r2 9), .inl (cs 1, 8, .inl (fun _ => 0))), ((r2 10), .inl (cs 1, 8, .inl (fun _ => 0))), ((r2 11), .inl (cs 1, 8, .inl (fun _ => 0))), ((r2 12), .inl (cs 1, 8, .inl (fun _ => 0))), ((r2 13), .inl (cs 1, 8, .inl (fun _ => 0))), ((r2 14), .inl (cs 1, 8, .inl (fun _ => 0))), ((r2 15), .inl (cs 1, 8, .inl (fun _ => 0))), (q3, .inl (cs 0, 16, .inl (fun _ => 0))), (q4, .inl (cs 0, 16, .inl (fun _ => 0)))] H := hP
  have hD : va_D A [(h0, .inr (8, [.ref q1, .ref q2, .ref q3, .null, .null, .null, .null, .null, .null, .int 0])), (q1, .inl (cs 0, 26, .inl (fun _ => 0))), (q2, .inl (cs 4, 16, .inr (.inr (.inr (.inr (fun i => if i < 16 then some (r2 i) else none)))))), ((r2 0), .inl (cs 1, 8, .inl (fun _ => 0))), ((r2 1), .inl (cs 1, 8, .inl (fun _ => 0))), ((r2 2), .inl (cs 1, 8, .inl (fun _ => 0))), ((r2 3), .inl (cs 1, 8, .inl (fun _ => 0))), ((r2 4), .inl (cs 1, 8, .inl (fun _ => 0))), ((r2 5), .inl (cs 1, 8, .inl (fun _ => 0))), ((r2 6), .inl (cs 1, 8, .inl (fun _ => 0))), ((r2 7), .inl (cs 1, 8, .inl (fun _ => 0))), ((r2 8), .inl (cs 1, 8, .inl (fun _ => 0))), ((r2 9), .inl (cs 1, 8, .inl (fun _ => 0))), ((r2 10), .inl (cs 1, 8, .inl (fun _ => 0))), ((r2 11), .inl (cs 1, 8, .inl (fun _ => 0))), ((r2 12), .inl (cs 1, 8, .inl (fun _ => 0))), ((r2 13), .inl (cs 1, 8, .inl (fun _ => 0))), ((r2 14), .inl (cs 1, 8, .inl (fun _ => 0))), ((r2 15), .inl (cs 1, 8, .inl (fun _ => 0))), (q3, .inl (cs 0, 16, .inl (fun _ => 0))), (q4, .inl (cs 0, 16, .inl (fun _ => 0)))] := hD
  refine va_putF (D := D) (ci := 8) (v := .ref q4) (ty := (tyX8 3)) (C := RX8) (T := TX8) (N := 10) hx hb hts (by decide +kernel) tyX8 tyX8_ok nmX8 hown hK hP hD hS 0 rfl rfl 3 (by decide) (hts (.fieldLink RX8 23 "GhostSigns$Words" "kinds" "[I") (by decide +kernel)) (fun _ h9 => h9) rfl hin rfl (by decide +kernel) rfl rfl (Nat.le_of_ble_eq_true rfl) dX8_init_37 (fun H locs hP hD hS => ?_)
  have hP : va_P D vwCl [(h0, .inr (8, [.ref q1, .ref q2, .ref q3, .ref q4, .null, .null, .null, .null, .null, .int 0])), (q1, .inl (cs 0, 26, .inl (fun _ => 0))), (q2, .inl (cs 4, 16, .inr (.inr (.inr (.inr (fun i => if i < 16 then some (r2 i) else none)))))), ((r2 0), .inl (cs 1, 8, .inl (fun _ => 0))), ((r2 1), .inl (cs 1, 8, .inl (fun _ => 0))), ((r2 2), .inl (cs 1, 8, .inl (fun _ => 0))), ((r2 3), .inl (cs 1, 8, .inl (fun _ => 0))), ((r2 4), .inl (cs 1, 8, .inl (fun _ => 0))), ((r2 5), .inl (cs 1, 8, .inl (fun _ => 0))), ((r2 6), .inl (cs 1, 8, .inl (fun _ => 0))), ((r2 7), .inl (cs 1, 8, .inl (fun _ => 0))), ((r2 8), .inl (cs 1, 8, .inl (fun _ => 0))), ((r2 9), .inl (cs 1, 8, .inl (fun _ => 0))), ((r2 10), .inl (cs 1, 8, .inl (fun _ => 0))), ((r2 11), .inl (cs 1, 8, .inl (fun _ => 0))), ((r2 12), .inl (cs 1, 8, .inl (fun _ => 0))), ((r2 13), .inl (cs 1, 8, .inl (fun _ => 0))), ((r2 14), .inl (cs 1, 8, .inl (fun _ => 0))), ((r2 15), .inl (cs 1, 8, .inl (fun _ => 0))), (q3, .inl (cs 0, 16, .inl (fun _ => 0))), (q4, .inl (cs 0, 16, .inl (fun _ => 0)))] H := hP
  have hD : va_D A [(h0, .inr (8, [.ref q1, .ref q2, .ref q3, .ref q4, .null, .null, .null, .null, .null, .int 0])), (q1, .inl (cs 0, 26, .inl (fun _ => 0))), (q2, .inl (cs 4, 16, .inr (.inr (.inr (.inr (fun i => if i < 16 then some (r2 i) else none)))))), ((r2 0), .inl (cs 1, 8, .inl (fun _ => 0))), ((r2 1), .inl (cs 1, 8, .inl (fun _ => 0))), ((r2 2), .inl (cs 1, 8, .inl (fun _ => 0))), ((r2 3), .inl (cs 1, 8, .inl (fun _ => 0))), ((r2 4), .inl (cs 1, 8, .inl (fun _ => 0))), ((r2 5), .inl (cs 1, 8, .inl (fun _ => 0))), ((r2 6), .inl (cs 1, 8, .inl (fun _ => 0))), ((r2 7), .inl (cs 1, 8, .inl (fun _ => 0))), ((r2 8), .inl (cs 1, 8, .inl (fun _ => 0))), ((r2 9), .inl (cs 1, 8, .inl (fun _ => 0))), ((r2 10), .inl (cs 1, 8, .inl (fun _ => 0))), ((r2 11), .inl (cs 1, 8, .inl (fun _ => 0))), ((r2 12), .inl (cs 1, 8, .inl (fun _ => 0))), ((r2 13), .inl (cs 1, 8, .inl (fun _ => 0))), ((r2 14), .inl (cs 1, 8, .inl (fun _ => 0))), ((r2 15), .inl (cs 1, 8, .inl (fun _ => 0))), (q3, .inl (cs 0, 16, .inl (fun _ => 0))), (q4, .inl (cs 0, 16, .inl (fun _ => 0)))] := hD
  refine lv_aload_n hx hb dX8_init_40 rfl (lv_at hl 0 rfl) ?_
  refine lv_bipush (v := 16) hx hb dX8_init_41 (by decide) ?_
  refine u_newa 0 (atype := .int) (n := 16) (N' := 16) hx hb (hts (.arrayClass .int) (by decide +kernel)) (ty := .int) rfl hK hP hD hS hA rfl rfl (fun C h => by cases h) (by decide) (by decide) (by show 16 * 4 ≤ 536870912; omega) (Nat.le_of_ble_eq_true rfl) (Nat.le_of_ble_eq_true rfl) dX8_init_43 (fun q5 H hP hD hS => ?_)
  have hP : va_P D vwCl [(h0, .inr (8, [.ref q1, .ref q2, .ref q3, .ref q4, .null, .null, .null, .null, .null, .int 0])), (q1, .inl (cs 0, 26, .inl (fun _ => 0))), (q2, .inl (cs 4, 16, .inr (.inr (.inr (.inr (fun i => if i < 16 then some (r2 i) else none)))))), ((r2 0), .inl (cs 1, 8, .inl (fun _ => 0))), ((r2 1), .inl (cs 1, 8, .inl (fun _ => 0))), ((r2 2), .inl (cs 1, 8, .inl (fun _ => 0))), ((r2 3), .inl (cs 1, 8, .inl (fun _ => 0))), ((r2 4), .inl (cs 1, 8, .inl (fun _ => 0))), ((r2 5), .inl (cs 1, 8, .inl (fun _ => 0))), ((r2 6), .inl (cs 1, 8, .inl (fun _ => 0))), ((r2 7), .inl (cs 1, 8, .inl (fun _ => 0))), ((r2 8), .inl (cs 1, 8, .inl (fun _ => 0))), ((r2 9), .inl (cs 1, 8, .inl (fun _ => 0))), ((r2 10), .inl (cs 1, 8, .inl (fun _ => 0))), ((r2 11), .inl (cs 1, 8, .inl (fun _ => 0))), ((r2 12), .inl (cs 1, 8, .inl (fun _ => 0))), ((r2 13), .inl (cs 1, 8, .inl (fun _ => 0))), ((r2 14), .inl (cs 1, 8, .inl (fun _ => 0))), ((r2 15), .inl (cs 1, 8, .inl (fun _ => 0))), (q3, .inl (cs 0, 16, .inl (fun _ => 0))), (q4, .inl (cs 0, 16, .inl (fun _ => 0))), (q5, .inl (cs 0, 16, .inl (fun _ => 0)))] H := hP
  have hD : va_D A [(h0, .inr (8, [.ref q1, .ref q2, .ref q3, .ref q4, .null, .null, .null, .null, .null, .int 0])), (q1, .inl (cs 0, 26, .inl (fun _ => 0))), (q2, .inl (cs 4, 16, .inr (.inr (.inr (.inr (fun i => if i < 16 then some (r2 i) else none)))))), ((r2 0), .inl (cs 1, 8, .inl (fun _ => 0))), ((r2 1), .inl (cs 1, 8, .inl (fun _ => 0))), ((r2 2), .inl (cs 1, 8, .inl (fun _ => 0))), ((r2 3), .inl (cs 1, 8, .inl (fun _ => 0))), ((r2 4), .inl (cs 1, 8, .inl (fun _ => 0))), ((r2 5), .inl (cs 1, 8, .inl (fun _ => 0))), ((r2 6), .inl (cs 1, 8, .inl (fun _ => 0))), ((r2 7), .inl (cs 1, 8, .inl (fun _ => 0))), ((r2 8), .inl (cs 1, 8, .inl (fun _ => 0))), ((r2 9), .inl (cs 1, 8, .inl (fun _ => 0))), ((r2 10), .inl (cs 1, 8, .inl (fun _ => 0))), ((r2 11), .inl (cs 1, 8, .inl (fun _ => 0))), ((r2 12), .inl (cs 1, 8, .inl (fun _ => 0))), ((r2 13), .inl (cs 1, 8, .inl (fun _ => 0))), ((r2 14), .inl (cs 1, 8, .inl (fun _ => 0))), ((r2 15), .inl (cs 1, 8, .inl (fun _ => 0))), (q3, .inl (cs 0, 16, .inl (fun _ => 0))), (q4, .inl (cs 0, 16, .inl (fun _ => 0))), (q5, .inl (cs 0, 16, .inl (fun _ => 0)))] := hD
  refine va_putF (D := D) (ci := 8) (v := .ref q5) (ty := (tyX8 4)) (C := RX8) (T := TX8) (N := 10) hx hb hts (by decide +kernel) tyX8 tyX8_ok nmX8 hown hK hP hD hS 0 rfl rfl 4 (by decide) (hts (.fieldLink RX8 26 "GhostSigns$Words" "firms" "[I") (by decide +kernel)) (fun _ h9 => h9) rfl hin rfl (by decide +kernel) rfl rfl (Nat.le_of_ble_eq_true rfl) dX8_init_45 (fun H locs hP hD hS => ?_)
  have hP : va_P D vwCl [(h0, .inr (8, [.ref q1, .ref q2, .ref q3, .ref q4, .ref q5, .null, .null, .null, .null, .int 0])), (q1, .inl (cs 0, 26, .inl (fun _ => 0))), (q2, .inl (cs 4, 16, .inr (.inr (.inr (.inr (fun i => if i < 16 then some (r2 i) else none)))))), ((r2 0), .inl (cs 1, 8, .inl (fun _ => 0))), ((r2 1), .inl (cs 1, 8, .inl (fun _ => 0))), ((r2 2), .inl (cs 1, 8, .inl (fun _ => 0))), ((r2 3), .inl (cs 1, 8, .inl (fun _ => 0))), ((r2 4), .inl (cs 1, 8, .inl (fun _ => 0))), ((r2 5), .inl (cs 1, 8, .inl (fun _ => 0))), ((r2 6), .inl (cs 1, 8, .inl (fun _ => 0))), ((r2 7), .inl (cs 1, 8, .inl (fun _ => 0))), ((r2 8), .inl (cs 1, 8, .inl (fun _ => 0))), ((r2 9), .inl (cs 1, 8, .inl (fun _ => 0))), ((r2 10), .inl (cs 1, 8, .inl (fun _ => 0))), ((r2 11), .inl (cs 1, 8, .inl (fun _ => 0))), ((r2 12), .inl (cs 1, 8, .inl (fun _ => 0))), ((r2 13), .inl (cs 1, 8, .inl (fun _ => 0))), ((r2 14), .inl (cs 1, 8, .inl (fun _ => 0))), ((r2 15), .inl (cs 1, 8, .inl (fun _ => 0))), (q3, .inl (cs 0, 16, .inl (fun _ => 0))), (q4, .inl (cs 0, 16, .inl (fun _ => 0))), (q5, .inl (cs 0, 16, .inl (fun _ => 0)))] H := hP
  have hD : va_D A [(h0, .inr (8, [.ref q1, .ref q2, .ref q3, .ref q4, .ref q5, .null, .null, .null, .null, .int 0])), (q1, .inl (cs 0, 26, .inl (fun _ => 0))), (q2, .inl (cs 4, 16, .inr (.inr (.inr (.inr (fun i => if i < 16 then some (r2 i) else none)))))), ((r2 0), .inl (cs 1, 8, .inl (fun _ => 0))), ((r2 1), .inl (cs 1, 8, .inl (fun _ => 0))), ((r2 2), .inl (cs 1, 8, .inl (fun _ => 0))), ((r2 3), .inl (cs 1, 8, .inl (fun _ => 0))), ((r2 4), .inl (cs 1, 8, .inl (fun _ => 0))), ((r2 5), .inl (cs 1, 8, .inl (fun _ => 0))), ((r2 6), .inl (cs 1, 8, .inl (fun _ => 0))), ((r2 7), .inl (cs 1, 8, .inl (fun _ => 0))), ((r2 8), .inl (cs 1, 8, .inl (fun _ => 0))), ((r2 9), .inl (cs 1, 8, .inl (fun _ => 0))), ((r2 10), .inl (cs 1, 8, .inl (fun _ => 0))), ((r2 11), .inl (cs 1, 8, .inl (fun _ => 0))), ((r2 12), .inl (cs 1, 8, .inl (fun _ => 0))), ((r2 13), .inl (cs 1, 8, .inl (fun _ => 0))), ((r2 14), .inl (cs 1, 8, .inl (fun _ => 0))), ((r2 15), .inl (cs 1, 8, .inl (fun _ => 0))), (q3, .inl (cs 0, 16, .inl (fun _ => 0))), (q4, .inl (cs 0, 16, .inl (fun _ => 0))), (q5, .inl (cs 0, 16, .inl (fun _ => 0)))] := hD
  refine lv_aload_n hx hb dX8_init_48 rfl (lv_at hl 0 rfl) ?_
  refine lv_bipush (v := 16) hx hb dX8_init_49 (by decide) ?_
  refine u_newa 0 (atype := .int) (n := 16) (N' := 16) hx hb (hts (.arrayClass .int) (by decide +kernel)) (ty := .int) rfl hK hP hD hS hA rfl rfl (fun C h => by cases h) (by decide) (by decide) (by show 16 * 4 ≤ 536870912; omega) (Nat.le_of_ble_eq_true rfl) (Nat.le_of_ble_eq_true rfl) dX8_init_51 (fun q6 H hP hD hS => ?_)
  have hP : va_P D vwCl [(h0, .inr (8, [.ref q1, .ref q2, .ref q3, .ref q4, .ref q5, .null, .null, .null, .null, .int 0])), (q1, .inl (cs 0, 26, .inl (fun _ => 0))), (q2, .inl (cs 4, 16, .inr (.inr (.inr (.inr (fun i => if i < 16 then some (r2 i) else none)))))), ((r2 0), .inl (cs 1, 8, .inl (fun _ => 0))), ((r2 1), .inl (cs 1, 8, .inl (fun _ => 0))), ((r2 2), .inl (cs 1, 8, .inl (fun _ => 0))), ((r2 3), .inl (cs 1, 8, .inl (fun _ => 0))), ((r2 4), .inl (cs 1, 8, .inl (fun _ => 0))), ((r2 5), .inl (cs 1, 8, .inl (fun _ => 0))), ((r2 6), .inl (cs 1, 8, .inl (fun _ => 0))), ((r2 7), .inl (cs 1, 8, .inl (fun _ => 0))), ((r2 8), .inl (cs 1, 8, .inl (fun _ => 0))), ((r2 9), .inl (cs 1, 8, .inl (fun _ => 0))), ((r2 10), .inl (cs 1, 8, .inl (fun _ => 0))), ((r2 11), .inl (cs 1, 8, .inl (fun _ => 0))), ((r2 12), .inl (cs 1, 8, .inl (fun _ => 0))), ((r2 13), .inl (cs 1, 8, .inl (fun _ => 0))), ((r2 14), .inl (cs 1, 8, .inl (fun _ => 0))), ((r2 15), .inl (cs 1, 8, .inl (fun _ => 0))), (q3, .inl (cs 0, 16, .inl (fun _ => 0))), (q4, .inl (cs 0, 16, .inl (fun _ => 0))), (q5, .inl (cs 0, 16, .inl (fun _ => 0))), (q6, .inl (cs 0, 16, .inl (fun _ => 0)))] H := hP
  have hD : va_D A [(h0, .inr (8, [.ref q1, .ref q2, .ref q3, .ref q4, .ref q5, .null, .null, .null, .null, .int 0])), (q1, .inl (cs 0, 26, .inl (fun _ => 0))), (q2, .inl (cs 4, 16, .inr (.inr (.inr (.inr (fun i => if i < 16 then some (r2 i) else none)))))), ((r2 0), .inl (cs 1, 8, .inl (fun _ => 0))), ((r2 1), .inl (cs 1, 8, .inl (fun _ => 0))), ((r2 2), .inl (cs 1, 8, .inl (fun _ => 0))), ((r2 3), .inl (cs 1, 8, .inl (fun _ => 0))), ((r2 4), .inl (cs 1, 8, .inl (fun _ => 0))), ((r2 5), .inl (cs 1, 8, .inl (fun _ => 0))), ((r2 6), .inl (cs 1, 8, .inl (fun _ => 0))), ((r2 7), .inl (cs 1, 8, .inl (fun _ => 0))), ((r2 8), .inl (cs 1, 8, .inl (fun _ => 0))), ((r2 9), .inl (cs 1, 8, .inl (fun _ => 0))), ((r2 10), .inl (cs 1, 8, .inl (fun _ => 0))), ((r2 11), .inl (cs 1, 8, .inl (fun _ => 0))), ((r2 12), .inl (cs 1, 8, .inl (fun _ => 0))), ((r2 13), .inl (cs 1, 8, .inl (fun _ => 0))), ((r2 14), .inl (cs 1, 8, .inl (fun _ => 0))), ((r2 15), .inl (cs 1, 8, .inl (fun _ => 0))), (q3, .inl (cs 0, 16, .inl (fun _ => 0))), (q4, .inl (cs 0, 16, .inl (fun _ => 0))), (q5, .inl (cs 0, 16, .inl (fun _ => 0))), (q6, .inl (cs 0, 16, .inl (fun _ => 0)))] := hD
  refine va_putF (D := D) (ci := 8) (v := .ref q6) (ty := (tyX8 5)) (C := RX8) (T := TX8) (N := 10) hx hb hts (by decide +kernel) tyX8 tyX8_ok nmX8 hown hK hP hD hS 0 rfl rfl 5 (by decide) (hts (.fieldLink RX8 29 "GhostSigns$Words" "numbers" "[I") (by decide +kernel)) (fun _ h9 => h9) rfl hin rfl (by decide +kernel) rfl rfl (Nat.le_of_ble_eq_true rfl) dX8_init_53 (fun H locs hP hD hS => ?_)
  have hP : va_P D vwCl [(h0, .inr (8, [.ref q1, .ref q2, .ref q3, .ref q4, .ref q5, .ref q6, .null, .null, .null, .int 0])), (q1, .inl (cs 0, 26, .inl (fun _ => 0))), (q2, .inl (cs 4, 16, .inr (.inr (.inr (.inr (fun i => if i < 16 then some (r2 i) else none)))))), ((r2 0), .inl (cs 1, 8, .inl (fun _ => 0))), ((r2 1), .inl (cs 1, 8, .inl (fun _ => 0))), ((r2 2), .inl (cs 1, 8, .inl (fun _ => 0))), ((r2 3), .inl (cs 1, 8, .inl (fun _ => 0))), ((r2 4), .inl (cs 1, 8, .inl (fun _ => 0))), ((r2 5), .inl (cs 1, 8, .inl (fun _ => 0))), ((r2 6), .inl (cs 1, 8, .inl (fun _ => 0))), ((r2 7), .inl (cs 1, 8, .inl (fun _ => 0))), ((r2 8), .inl (cs 1, 8, .inl (fun _ => 0))), ((r2 9), .inl (cs 1, 8, .inl (fun _ => 0))), ((r2 10), .inl (cs 1, 8, .inl (fun _ => 0))), ((r2 11), .inl (cs 1, 8, .inl (fun _ => 0))), ((r2 12), .inl (cs 1, 8, .inl (fun _ => 0))), ((r2 13), .inl (cs 1, 8, .inl (fun _ => 0))), ((r2 14), .inl (cs 1, 8, .inl (fun _ => 0))), ((r2 15), .inl (cs 1, 8, .inl (fun _ => 0))), (q3, .inl (cs 0, 16, .inl (fun _ => 0))), (q4, .inl (cs 0, 16, .inl (fun _ => 0))), (q5, .inl (cs 0, 16, .inl (fun _ => 0))), (q6, .inl (cs 0, 16, .inl (fun _ => 0)))] H := hP
  have hD : va_D A [(h0, .inr (8, [.ref q1, .ref q2, .ref q3, .ref q4, .ref q5, .ref q6, .null, .null, .null, .int 0])), (q1, .inl (cs 0, 26, .inl (fun _ => 0))), (q2, .inl (cs 4, 16, .inr (.inr (.inr (.inr (fun i => if i < 16 then some (r2 i) else none)))))), ((r2 0), .inl (cs 1, 8, .inl (fun _ => 0))), ((r2 1), .inl (cs 1, 8, .inl (fun _ => 0))), ((r2 2), .inl (cs 1, 8, .inl (fun _ => 0))), ((r2 3), .inl (cs 1, 8, .inl (fun _ => 0))), ((r2 4), .inl (cs 1, 8, .inl (fun _ => 0))), ((r2 5), .inl (cs 1, 8, .inl (fun _ => 0))), ((r2 6), .inl (cs 1, 8, .inl (fun _ => 0))), ((r2 7), .inl (cs 1, 8, .inl (fun _ => 0))), ((r2 8), .inl (cs 1, 8, .inl (fun _ => 0))), ((r2 9), .inl (cs 1, 8, .inl (fun _ => 0))), ((r2 10), .inl (cs 1, 8, .inl (fun _ => 0))), ((r2 11), .inl (cs 1, 8, .inl (fun _ => 0))), ((r2 12), .inl (cs 1, 8, .inl (fun _ => 0))), ((r2 13), .inl (cs 1, 8, .inl (fun _ => 0))), ((r2 14), .inl (cs 1, 8, .inl (fun _ => 0))), ((r2 15), .inl (cs 1, 8, .inl (fun _ => 0))), (q3, .inl (cs 0, 16, .inl (fun _ => 0))), (q4, .inl (cs 0, 16, .inl (fun _ => 0))), (q5, .inl (cs 0, 16, .inl (fun _ => 0))), (q6, .inl (cs 0, 16, .inl (fun _ => 0)))] := hD
  refine lv_aload_n hx hb dX8_init_56 rfl (lv_at hl 0 rfl) ?_
  refine lv_bipush (v := 16) hx hb dX8_init_57 (by decide) ?_
  refine u_newa 0 (atype := .int) (n := 16) (N' := 16) hx hb (hts (.arrayClass .int) (by decide +kernel)) (ty := .int) rfl hK hP hD hS hA rfl rfl (fun C h => by cases h) (by decide) (by decide) (by show 16 * 4 ≤ 536870912; omega) (Nat.le_of_ble_eq_true rfl) (Nat.le_of_ble_eq_true rfl) dX8_init_59 (fun q7 H hP hD hS => ?_)
  have hP : va_P D vwCl [(h0, .inr (8, [.ref q1, .ref q2, .ref q3, .ref q4, .ref q5, .ref q6, .null, .null, .null, .int 0])), (q1, .inl (cs 0, 26, .inl (fun _ => 0))), (q2, .inl (cs 4, 16, .inr (.inr (.inr (.inr (fun i => if i < 16 then some (r2 i) else none)))))), ((r2 0), .inl (cs 1, 8, .inl (fun _ => 0))), ((r2 1), .inl (cs 1, 8, .inl (fun _ => 0))), ((r2 2), .inl (cs 1, 8, .inl (fun _ => 0))), ((r2 3), .inl (cs 1, 8, .inl (fun _ => 0))), ((r2 4), .inl (cs 1, 8, .inl (fun _ => 0))), ((r2 5), .inl (cs 1, 8, .inl (fun _ => 0))), ((r2 6), .inl (cs 1, 8, .inl (fun _ => 0))), ((r2 7), .inl (cs 1, 8, .inl (fun _ => 0))), ((r2 8), .inl (cs 1, 8, .inl (fun _ => 0))), ((r2 9), .inl (cs 1, 8, .inl (fun _ => 0))), ((r2 10), .inl (cs 1, 8, .inl (fun _ => 0))), ((r2 11), .inl (cs 1, 8, .inl (fun _ => 0))), ((r2 12), .inl (cs 1, 8, .inl (fun _ => 0))), ((r2 13), .inl (cs 1, 8, .inl (fun _ => 0))), ((r2 14), .inl (cs 1, 8, .inl (fun _ => 0))), ((r2 15), .inl (cs 1, 8, .inl (fun _ => 0))), (q3, .inl (cs 0, 16, .inl (fun _ => 0))), (q4, .inl (cs 0, 16, .inl (fun _ => 0))), (q5, .inl (cs 0, 16, .inl (fun _ => 0))), (q6, .inl (cs 0, 16, .inl (fun _ => 0))), (q7, .inl (cs 0, 16, .inl (fun _ => 0)))] H := hP
  have hD : va_D A [(h0, .inr (8, [.ref q1, .ref q2, .ref q3, .ref q4, .ref q5, .ref q6, .null, .null, .null, .int 0])), (q1, .inl (cs 0, 26, .inl (fun _ => 0))), (q2, .inl (cs 4, 16, .inr (.inr (.inr (.inr (fun i => if i < 16 then some (r2 i) else none)))))), ((r2 0), .inl (cs 1, 8, .inl (fun _ => 0))), ((r2 1), .inl (cs 1, 8, .inl (fun _ => 0))), ((r2 2), .inl (cs 1, 8, .inl (fun _ => 0))), ((r2 3), .inl (cs 1, 8, .inl (fun _ => 0))), ((r2 4), .inl (cs 1, 8, .inl (fun _ => 0))), ((r2 5), .inl (cs 1, 8, .inl (fun _ => 0))), ((r2 6), .inl (cs 1, 8, .inl (fun _ => 0))), ((r2 7), .inl (cs 1, 8, .inl (fun _ => 0))), ((r2 8), .inl (cs 1, 8, .inl (fun _ => 0))), ((r2 9), .inl (cs 1, 8, .inl (fun _ => 0))), ((r2 10), .inl (cs 1, 8, .inl (fun _ => 0))), ((r2 11), .inl (cs 1, 8, .inl (fun _ => 0))), ((r2 12), .inl (cs 1, 8, .inl (fun _ => 0))), ((r2 13), .inl (cs 1, 8, .inl (fun _ => 0))), ((r2 14), .inl (cs 1, 8, .inl (fun _ => 0))), ((r2 15), .inl (cs 1, 8, .inl (fun _ => 0))), (q3, .inl (cs 0, 16, .inl (fun _ => 0))), (q4, .inl (cs 0, 16, .inl (fun _ => 0))), (q5, .inl (cs 0, 16, .inl (fun _ => 0))), (q6, .inl (cs 0, 16, .inl (fun _ => 0))), (q7, .inl (cs 0, 16, .inl (fun _ => 0)))] := hD
  refine va_putF (D := D) (ci := 8) (v := .ref q7) (ty := (tyX8 6)) (C := RX8) (T := TX8) (N := 10) hx hb hts (by decide +kernel) tyX8 tyX8_ok nmX8 hown hK hP hD hS 0 rfl rfl 6 (by decide) (hts (.fieldLink RX8 32 "GhostSigns$Words" "froms" "[I") (by decide +kernel)) (fun _ h9 => h9) rfl hin rfl (by decide +kernel) rfl rfl (Nat.le_of_ble_eq_true rfl) dX8_init_61 (fun H locs hP hD hS => ?_)
  have hP : va_P D vwCl [(h0, .inr (8, [.ref q1, .ref q2, .ref q3, .ref q4, .ref q5, .ref q6, .ref q7, .null, .null, .int 0])), (q1, .inl (cs 0, 26, .inl (fun _ => 0))), (q2, .inl (cs 4, 16, .inr (.inr (.inr (.inr (fun i => if i < 16 then some (r2 i) else none)))))), ((r2 0), .inl (cs 1, 8, .inl (fun _ => 0))), ((r2 1), .inl (cs 1, 8, .inl (fun _ => 0))), ((r2 2), .inl (cs 1, 8, .inl (fun _ => 0))), ((r2 3), .inl (cs 1, 8, .inl (fun _ => 0))), ((r2 4), .inl (cs 1, 8, .inl (fun _ => 0))), ((r2 5), .inl (cs 1, 8, .inl (fun _ => 0))), ((r2 6), .inl (cs 1, 8, .inl (fun _ => 0))), ((r2 7), .inl (cs 1, 8, .inl (fun _ => 0))), ((r2 8), .inl (cs 1, 8, .inl (fun _ => 0))), ((r2 9), .inl (cs 1, 8, .inl (fun _ => 0))), ((r2 10), .inl (cs 1, 8, .inl (fun _ => 0))), ((r2 11), .inl (cs 1, 8, .inl (fun _ => 0))), ((r2 12), .inl (cs 1, 8, .inl (fun _ => 0))), ((r2 13), .inl (cs 1, 8, .inl (fun _ => 0))), ((r2 14), .inl (cs 1, 8, .inl (fun _ => 0))), ((r2 15), .inl (cs 1, 8, .inl (fun _ => 0))), (q3, .inl (cs 0, 16, .inl (fun _ => 0))), (q4, .inl (cs 0, 16, .inl (fun _ => 0))), (q5, .inl (cs 0, 16, .inl (fun _ => 0))), (q6, .inl (cs 0, 16, .inl (fun _ => 0))), (q7, .inl (cs 0, 16, .inl (fun _ => 0)))] H := hP
  have hD : va_D A [(h0, .inr (8, [.ref q1, .ref q2, .ref q3, .ref q4, .ref q5, .ref q6, .ref q7, .null, .null, .int 0])), (q1, .inl (cs 0, 26, .inl (fun _ => 0))), (q2, .inl (cs 4, 16, .inr (.inr (.inr (.inr (fun i => if i < 16 then some (r2 i) else none)))))), ((r2 0), .inl (cs 1, 8, .inl (fun _ => 0))), ((r2 1), .inl (cs 1, 8, .inl (fun _ => 0))), ((r2 2), .inl (cs 1, 8, .inl (fun _ => 0))), ((r2 3), .inl (cs 1, 8, .inl (fun _ => 0))), ((r2 4), .inl (cs 1, 8, .inl (fun _ => 0))), ((r2 5), .inl (cs 1, 8, .inl (fun _ => 0))), ((r2 6), .inl (cs 1, 8, .inl (fun _ => 0))), ((r2 7), .inl (cs 1, 8, .inl (fun _ => 0))), ((r2 8), .inl (cs 1, 8, .inl (fun _ => 0))), ((r2 9), .inl (cs 1, 8, .inl (fun _ => 0))), ((r2 10), .inl (cs 1, 8, .inl (fun _ => 0))), ((r2 11), .inl (cs 1, 8, .inl (fun _ => 0))), ((r2 12), .inl (cs 1, 8, .inl (fun _ => 0))), ((r2 13), .inl (cs 1, 8, .inl (fun _ => 0))), ((r2 14), .inl (cs 1, 8, .inl (fun _ => 0))), ((r2 15), .inl (cs 1, 8, .inl (fun _ => 0))), (q3, .inl (cs 0, 16, .inl (fun _ => 0))), (q4, .inl (cs 0, 16, .inl (fun _ => 0))), (q5, .inl (cs 0, 16, .inl (fun _ => 0))), (q6, .inl (cs 0, 16, .inl (fun _ => 0))), (q7, .inl (cs 0, 16, .inl (fun _ => 0)))] := hD
  refine lv_aload_n hx hb dX8_init_64 rfl (lv_at hl 0 rfl) ?_
  refine lv_bipush (v := 16) hx hb dX8_init_65 (by decide) ?_
  refine u_newa 0 (atype := .int) (n := 16) (N' := 16) hx hb (hts (.arrayClass .int) (by decide +kernel)) (ty := .int) rfl hK hP hD hS hA rfl rfl (fun C h => by cases h) (by decide) (by decide) (by show 16 * 4 ≤ 536870912; omega) (Nat.le_of_ble_eq_true rfl) (Nat.le_of_ble_eq_true rfl) dX8_init_67 (fun q8 H hP hD hS => ?_)
  have hP : va_P D vwCl [(h0, .inr (8, [.ref q1, .ref q2, .ref q3, .ref q4, .ref q5, .ref q6, .ref q7, .null, .null, .int 0])), (q1, .inl (cs 0, 26, .inl (fun _ => 0))), (q2, .inl (cs 4, 16, .inr (.inr (.inr (.inr (fun i => if i < 16 then some (r2 i) else none)))))), ((r2 0), .inl (cs 1, 8, .inl (fun _ => 0))), ((r2 1), .inl (cs 1, 8, .inl (fun _ => 0))), ((r2 2), .inl (cs 1, 8, .inl (fun _ => 0))), ((r2 3), .inl (cs 1, 8, .inl (fun _ => 0))), ((r2 4), .inl (cs 1, 8, .inl (fun _ => 0))), ((r2 5), .inl (cs 1, 8, .inl (fun _ => 0))), ((r2 6), .inl (cs 1, 8, .inl (fun _ => 0))), ((r2 7), .inl (cs 1, 8, .inl (fun _ => 0))), ((r2 8), .inl (cs 1, 8, .inl (fun _ => 0))), ((r2 9), .inl (cs 1, 8, .inl (fun _ => 0))), ((r2 10), .inl (cs 1, 8, .inl (fun _ => 0))), ((r2 11), .inl (cs 1, 8, .inl (fun _ => 0))), ((r2 12), .inl (cs 1, 8, .inl (fun _ => 0))), ((r2 13), .inl (cs 1, 8, .inl (fun _ => 0))), ((r2 14), .inl (cs 1, 8, .inl (fun _ => 0))), ((r2 15), .inl (cs 1, 8, .inl (fun _ => 0))), (q3, .inl (cs 0, 16, .inl (fun _ => 0))), (q4, .inl (cs 0, 16, .inl (fun _ => 0))), (q5, .inl (cs 0, 16, .inl (fun _ => 0))), (q6, .inl (cs 0, 16, .inl (fun _ => 0))), (q7, .inl (cs 0, 16, .inl (fun _ => 0))), (q8, .inl (cs 0, 16, .inl (fun _ => 0)))] H := hP
  have hD : va_D A [(h0, .inr (8, [.ref q1, .ref q2, .ref q3, .ref q4, .ref q5, .ref q6, .ref q7, .null, .null, .int 0])), (q1, .inl (cs 0, 26, .inl (fun _ => 0))), (q2, .inl (cs 4, 16, .inr (.inr (.inr (.inr (fun i => if i < 16 then some (r2 i) else none)))))), ((r2 0), .inl (cs 1, 8, .inl (fun _ => 0))), ((r2 1), .inl (cs 1, 8, .inl (fun _ => 0))), ((r2 2), .inl (cs 1, 8, .inl (fun _ => 0))), ((r2 3), .inl (cs 1, 8, .inl (fun _ => 0))), ((r2 4), .inl (cs 1, 8, .inl (fun _ => 0))), ((r2 5), .inl (cs 1, 8, .inl (fun _ => 0))), ((r2 6), .inl (cs 1, 8, .inl (fun _ => 0))), ((r2 7), .inl (cs 1, 8, .inl (fun _ => 0))), ((r2 8), .inl (cs 1, 8, .inl (fun _ => 0))), ((r2 9), .inl (cs 1, 8, .inl (fun _ => 0))), ((r2 10), .inl (cs 1, 8, .inl (fun _ => 0))), ((r2 11), .inl (cs 1, 8, .inl (fun _ => 0))), ((r2 12), .inl (cs 1, 8, .inl (fun _ => 0))), ((r2 13), .inl (cs 1, 8, .inl (fun _ => 0))), ((r2 14), .inl (cs 1, 8, .inl (fun _ => 0))), ((r2 15), .inl (cs 1, 8, .inl (fun _ => 0))), (q3, .inl (cs 0, 16, .inl (fun _ => 0))), (q4, .inl (cs 0, 16, .inl (fun _ => 0))), (q5, .inl (cs 0, 16, .inl (fun _ => 0))), (q6, .inl (cs 0, 16, .inl (fun _ => 0))), (q7, .inl (cs 0, 16, .inl (fun _ => 0))), (q8, .inl (cs 0, 16, .inl (fun _ => 0)))] := hD
  refine va_putF (D := D) (ci := 8) (v := .ref q8) (ty := (tyX8 7)) (C := RX8) (T := TX8) (N := 10) hx hb hts (by decide +kernel) tyX8 tyX8_ok nmX8 hown hK hP hD hS 0 rfl rfl 7 (by decide) (hts (.fieldLink RX8 35 "GhostSigns$Words" "tos" "[I") (by decide +kernel)) (fun _ h9 => h9) rfl hin rfl (by decide +kernel) rfl rfl (Nat.le_of_ble_eq_true rfl) dX8_init_69 (fun H locs hP hD hS => ?_)
  have hP : va_P D vwCl [(h0, .inr (8, [.ref q1, .ref q2, .ref q3, .ref q4, .ref q5, .ref q6, .ref q7, .ref q8, .null, .int 0])), (q1, .inl (cs 0, 26, .inl (fun _ => 0))), (q2, .inl (cs 4, 16, .inr (.inr (.inr (.inr (fun i => if i < 16 then some (r2 i) else none)))))), ((r2 0), .inl (cs 1, 8, .inl (fun _ => 0))), ((r2 1), .inl (cs 1, 8, .inl (fun _ => 0))), ((r2 2), .inl (cs 1, 8, .inl (fun _ => 0))), ((r2 3), .inl (cs 1, 8, .inl (fun _ => 0))), ((r2 4), .inl (cs 1, 8, .inl (fun _ => 0))), ((r2 5), .inl (cs 1, 8, .inl (fun _ => 0))), ((r2 6), .inl (cs 1, 8, .inl (fun _ => 0))), ((r2 7), .inl (cs 1, 8, .inl (fun _ => 0))), ((r2 8), .inl (cs 1, 8, .inl (fun _ => 0))), ((r2 9), .inl (cs 1, 8, .inl (fun _ => 0))), ((r2 10), .inl (cs 1, 8, .inl (fun _ => 0))), ((r2 11), .inl (cs 1, 8, .inl (fun _ => 0))), ((r2 12), .inl (cs 1, 8, .inl (fun _ => 0))), ((r2 13), .inl (cs 1, 8, .inl (fun _ => 0))), ((r2 14), .inl (cs 1, 8, .inl (fun _ => 0))), ((r2 15), .inl (cs 1, 8, .inl (fun _ => 0))), (q3, .inl (cs 0, 16, .inl (fun _ => 0))), (q4, .inl (cs 0, 16, .inl (fun _ => 0))), (q5, .inl (cs 0, 16, .inl (fun _ => 0))), (q6, .inl (cs 0, 16, .inl (fun _ => 0))), (q7, .inl (cs 0, 16, .inl (fun _ => 0))), (q8, .inl (cs 0, 16, .inl (fun _ => 0)))] H := hP
  have hD : va_D A [(h0, .inr (8, [.ref q1, .ref q2, .ref q3, .ref q4, .ref q5, .ref q6, .ref q7, .ref q8, .null, .int 0])), (q1, .inl (cs 0, 26, .inl (fun _ => 0))), (q2, .inl (cs 4, 16, .inr (.inr (.inr (.inr (fun i => if i < 16 then some (r2 i) else none)))))), ((r2 0), .inl (cs 1, 8, .inl (fun _ => 0))), ((r2 1), .inl (cs 1, 8, .inl (fun _ => 0))), ((r2 2), .inl (cs 1, 8, .inl (fun _ => 0))), ((r2 3), .inl (cs 1, 8, .inl (fun _ => 0))), ((r2 4), .inl (cs 1, 8, .inl (fun _ => 0))), ((r2 5), .inl (cs 1, 8, .inl (fun _ => 0))), ((r2 6), .inl (cs 1, 8, .inl (fun _ => 0))), ((r2 7), .inl (cs 1, 8, .inl (fun _ => 0))), ((r2 8), .inl (cs 1, 8, .inl (fun _ => 0))), ((r2 9), .inl (cs 1, 8, .inl (fun _ => 0))), ((r2 10), .inl (cs 1, 8, .inl (fun _ => 0))), ((r2 11), .inl (cs 1, 8, .inl (fun _ => 0))), ((r2 12), .inl (cs 1, 8, .inl (fun _ => 0))), ((r2 13), .inl (cs 1, 8, .inl (fun _ => 0))), ((r2 14), .inl (cs 1, 8, .inl (fun _ => 0))), ((r2 15), .inl (cs 1, 8, .inl (fun _ => 0))), (q3, .inl (cs 0, 16, .inl (fun _ => 0))), (q4, .inl (cs 0, 16, .inl (fun _ => 0))), (q5, .inl (cs 0, 16, .inl (fun _ => 0))), (q6, .inl (cs 0, 16, .inl (fun _ => 0))), (q7, .inl (cs 0, 16, .inl (fun _ => 0))), (q8, .inl (cs 0, 16, .inl (fun _ => 0)))] := hD
  refine lv_aload_n hx hb dX8_init_72 rfl (lv_at hl 0 rfl) ?_
  refine lv_bipush (v := 16) hx hb dX8_init_73 (by decide) ?_
  refine u_newa 2 (atype := .boolean) (n := 16) (N' := 16) hx hb (hts (.arrayClass .boolean) (by decide +kernel)) (ty := .boolean) rfl hK hP hD hS hA rfl rfl (fun C h => by cases h) (by decide) (by decide) (by show 16 * 1 ≤ 536870912; omega) (Nat.le_of_ble_eq_true rfl) (Nat.le_of_ble_eq_true rfl) dX8_init_75 (fun q9 H hP hD hS => ?_)
  have hP : va_P D vwCl [(h0, .inr (8, [.ref q1, .ref q2, .ref q3, .ref q4, .ref q5, .ref q6, .ref q7, .ref q8, .null, .int 0])), (q1, .inl (cs 0, 26, .inl (fun _ => 0))), (q2, .inl (cs 4, 16, .inr (.inr (.inr (.inr (fun i => if i < 16 then some (r2 i) else none)))))), ((r2 0), .inl (cs 1, 8, .inl (fun _ => 0))), ((r2 1), .inl (cs 1, 8, .inl (fun _ => 0))), ((r2 2), .inl (cs 1, 8, .inl (fun _ => 0))), ((r2 3), .inl (cs 1, 8, .inl (fun _ => 0))), ((r2 4), .inl (cs 1, 8, .inl (fun _ => 0))), ((r2 5), .inl (cs 1, 8, .inl (fun _ => 0))), ((r2 6), .inl (cs 1, 8, .inl (fun _ => 0))), ((r2 7), .inl (cs 1, 8, .inl (fun _ => 0))), ((r2 8), .inl (cs 1, 8, .inl (fun _ => 0))), ((r2 9), .inl (cs 1, 8, .inl (fun _ => 0))), ((r2 10), .inl (cs 1, 8, .inl (fun _ => 0))), ((r2 11), .inl (cs 1, 8, .inl (fun _ => 0))), ((r2 12), .inl (cs 1, 8, .inl (fun _ => 0))), ((r2 13), .inl (cs 1, 8, .inl (fun _ => 0))), ((r2 14), .inl (cs 1, 8, .inl (fun _ => 0))), ((r2 15), .inl (cs 1, 8, .inl (fun _ => 0))), (q3, .inl (cs 0, 16, .inl (fun _ => 0))), (q4, .inl (cs 0, 16, .inl (fun _ => 0))), (q5, .inl (cs 0, 16, .inl (fun _ => 0))), (q6, .inl (cs 0, 16, .inl (fun _ => 0))), (q7, .inl (cs 0, 16, .inl (fun _ => 0))), (q8, .inl (cs 0, 16, .inl (fun _ => 0))), (q9, .inl (cs 2, 16, .inl (fun _ => 0)))] H := hP
  have hD : va_D A [(h0, .inr (8, [.ref q1, .ref q2, .ref q3, .ref q4, .ref q5, .ref q6, .ref q7, .ref q8, .null, .int 0])), (q1, .inl (cs 0, 26, .inl (fun _ => 0))), (q2, .inl (cs 4, 16, .inr (.inr (.inr (.inr (fun i => if i < 16 then some (r2 i) else none)))))), ((r2 0), .inl (cs 1, 8, .inl (fun _ => 0))), ((r2 1), .inl (cs 1, 8, .inl (fun _ => 0))), ((r2 2), .inl (cs 1, 8, .inl (fun _ => 0))), ((r2 3), .inl (cs 1, 8, .inl (fun _ => 0))), ((r2 4), .inl (cs 1, 8, .inl (fun _ => 0))), ((r2 5), .inl (cs 1, 8, .inl (fun _ => 0))), ((r2 6), .inl (cs 1, 8, .inl (fun _ => 0))), ((r2 7), .inl (cs 1, 8, .inl (fun _ => 0))), ((r2 8), .inl (cs 1, 8, .inl (fun _ => 0))), ((r2 9), .inl (cs 1, 8, .inl (fun _ => 0))), ((r2 10), .inl (cs 1, 8, .inl (fun _ => 0))), ((r2 11), .inl (cs 1, 8, .inl (fun _ => 0))), ((r2 12), .inl (cs 1, 8, .inl (fun _ => 0))), ((r2 13), .inl (cs 1, 8, .inl (fun _ => 0))), ((r2 14), .inl (cs 1, 8, .inl (fun _ => 0))), ((r2 15), .inl (cs 1, 8, .inl (fun _ => 0))), (q3, .inl (cs 0, 16, .inl (fun _ => 0))), (q4, .inl (cs 0, 16, .inl (fun _ => 0))), (q5, .inl (cs 0, 16, .inl (fun _ => 0))), (q6, .inl (cs 0, 16, .inl (fun _ => 0))), (q7, .inl (cs 0, 16, .inl (fun _ => 0))), (q8, .inl (cs 0, 16, .inl (fun _ => 0))), (q9, .inl (cs 2, 16, .inl (fun _ => 0)))] := hD
  refine va_putF (D := D) (ci := 8) (v := .ref q9) (ty := (tyX8 8)) (C := RX8) (T := TX8) (N := 10) hx hb hts (by decide +kernel) tyX8 tyX8_ok nmX8 hown hK hP hD hS 0 rfl rfl 8 (by decide) (hts (.fieldLink RX8 38 "GhostSigns$Words" "struck" "[Z") (by decide +kernel)) (fun _ h9 => h9) rfl hin rfl (by decide +kernel) rfl rfl (Nat.le_of_ble_eq_true rfl) dX8_init_77 (fun H locs hP hD hS => ?_)
  have hP : va_P D vwCl [(h0, .inr (8, [.ref q1, .ref q2, .ref q3, .ref q4, .ref q5, .ref q6, .ref q7, .ref q8, .ref q9, .int 0])), (q1, .inl (cs 0, 26, .inl (fun _ => 0))), (q2, .inl (cs 4, 16, .inr (.inr (.inr (.inr (fun i => if i < 16 then some (r2 i) else none)))))), ((r2 0), .inl (cs 1, 8, .inl (fun _ => 0))), ((r2 1), .inl (cs 1, 8, .inl (fun _ => 0))), ((r2 2), .inl (cs 1, 8, .inl (fun _ => 0))), ((r2 3), .inl (cs 1, 8, .inl (fun _ => 0))), ((r2 4), .inl (cs 1, 8, .inl (fun _ => 0))), ((r2 5), .inl (cs 1, 8, .inl (fun _ => 0))), ((r2 6), .inl (cs 1, 8, .inl (fun _ => 0))), ((r2 7), .inl (cs 1, 8, .inl (fun _ => 0))), ((r2 8), .inl (cs 1, 8, .inl (fun _ => 0))), ((r2 9), .inl (cs 1, 8, .inl (fun _ => 0))), ((r2 10), .inl (cs 1, 8, .inl (fun _ => 0))), ((r2 11), .inl (cs 1, 8, .inl (fun _ => 0))), ((r2 12), .inl (cs 1, 8, .inl (fun _ => 0))), ((r2 13), .inl (cs 1, 8, .inl (fun _ => 0))), ((r2 14), .inl (cs 1, 8, .inl (fun _ => 0))), ((r2 15), .inl (cs 1, 8, .inl (fun _ => 0))), (q3, .inl (cs 0, 16, .inl (fun _ => 0))), (q4, .inl (cs 0, 16, .inl (fun _ => 0))), (q5, .inl (cs 0, 16, .inl (fun _ => 0))), (q6, .inl (cs 0, 16, .inl (fun _ => 0))), (q7, .inl (cs 0, 16, .inl (fun _ => 0))), (q8, .inl (cs 0, 16, .inl (fun _ => 0))), (q9, .inl (cs 2, 16, .inl (fun _ => 0)))] H := hP
  have hD : va_D A [(h0, .inr (8, [.ref q1, .ref q2, .ref q3, .ref q4, .ref q5, .ref q6, .ref q7, .ref q8, .ref q9, .int 0])), (q1, .inl (cs 0, 26, .inl (fun _ => 0))), (q2, .inl (cs 4, 16, .inr (.inr (.inr (.inr (fun i => if i < 16 then some (r2 i) else none)))))), ((r2 0), .inl (cs 1, 8, .inl (fun _ => 0))), ((r2 1), .inl (cs 1, 8, .inl (fun _ => 0))), ((r2 2), .inl (cs 1, 8, .inl (fun _ => 0))), ((r2 3), .inl (cs 1, 8, .inl (fun _ => 0))), ((r2 4), .inl (cs 1, 8, .inl (fun _ => 0))), ((r2 5), .inl (cs 1, 8, .inl (fun _ => 0))), ((r2 6), .inl (cs 1, 8, .inl (fun _ => 0))), ((r2 7), .inl (cs 1, 8, .inl (fun _ => 0))), ((r2 8), .inl (cs 1, 8, .inl (fun _ => 0))), ((r2 9), .inl (cs 1, 8, .inl (fun _ => 0))), ((r2 10), .inl (cs 1, 8, .inl (fun _ => 0))), ((r2 11), .inl (cs 1, 8, .inl (fun _ => 0))), ((r2 12), .inl (cs 1, 8, .inl (fun _ => 0))), ((r2 13), .inl (cs 1, 8, .inl (fun _ => 0))), ((r2 14), .inl (cs 1, 8, .inl (fun _ => 0))), ((r2 15), .inl (cs 1, 8, .inl (fun _ => 0))), (q3, .inl (cs 0, 16, .inl (fun _ => 0))), (q4, .inl (cs 0, 16, .inl (fun _ => 0))), (q5, .inl (cs 0, 16, .inl (fun _ => 0))), (q6, .inl (cs 0, 16, .inl (fun _ => 0))), (q7, .inl (cs 0, 16, .inl (fun _ => 0))), (q8, .inl (cs 0, 16, .inl (fun _ => 0))), (q9, .inl (cs 2, 16, .inl (fun _ => 0)))] := hD
  obtain ⟨qs, eqs⟩ : ∃ qs : Nat → Nat, qs = fun k => ([h0, q1, q2, q3, q4, q5, q6, q7, q8, q9, (r2 0), (r2 1), (r2 2), (r2 3), (r2 4), (r2 5), (r2 6), (r2 7), (r2 8), (r2 9), (r2 10), (r2 11), (r2 12), (r2 13), (r2 14), (r2 15)] : List Nat).getD k 0 := ⟨_, rfl⟩
  have eo : (fun i => if i < 16 then some (r2 i) else none) = (fun i => if i < 16 then some (qs (10 + i)) else none) := by
    funext i
    by_cases hi : i < 16
    · rw [if_pos hi, if_pos hi, eqs]
      match i, hi with
      | 0, _ => rfl
      | 1, _ => rfl
      | 2, _ => rfl
      | 3, _ => rfl
      | 4, _ => rfl
      | 5, _ => rfl
      | 6, _ => rfl
      | 7, _ => rfl
      | 8, _ => rfl
      | 9, _ => rfl
      | 10, _ => rfl
      | 11, _ => rfl
      | 12, _ => rfl
      | 13, _ => rfl
      | 14, _ => rfl
      | 15, _ => rfl
      | n + 16, h => exact absurd h (by omega)
    · rw [if_neg hi, if_neg hi]
  rw [eo] at hP hD
  have hP9 : va_P D vwCl (uw 26 qs (enX8 cs qs) (fun _ _ => 0)) H := by
    refine hP.sub [0, 1, 2, 19, 20, 21, 22, 23, 24, 25, 3, 4, 5, 6, 7, 8, 9, 10, 11, 12, 13, 14, 15, 16, 17, 18] ?_
    subst eqs
    rfl
  have hD9 : va_D A (uw 26 qs (enX8 cs qs) (fun _ _ => 0)) := by
    refine hD.sub [0, 1, 2, 19, 20, 21, 22, 23, 24, 25, 3, 4, 5, 6, 7, 8, 9, 10, 11, 12, 13, 14, 15, 16, 17, 18] (by decide) ?_
    subst eqs
    rfl
  have hq0 : qs 0 = h0 := by rw [eqs]; rfl
  have hJ9 := uw_J hD9
  have hn9 : ∀ k, 1 ≤ k → k < 26 → s.heap.size ≤ qs k := fun k h1 h2 => hAn _ (hJ9.2 k h2) (fun h => by have := hJ9.1 k 0 h2 (by omega) (h.trans hq0.symm); omega)
  subst hAe
  refine W.widen (k := 25) (n := 282) (Nat.le_of_ble_eq_true rfl) (Nat.le_of_ble_eq_true rfl) ?_
  exact W.vret hx hb hr (fun t ht hW => ⟨⟨qs, rfl, ⟨hq0, hJ9.1, hn9⟩, by show va_P D vwCl (uw 26 qs (enX8 cs qs) (fun _ _ => 0)) t.heap; rw [ht]; exact hP9⟩, hS.F ht⟩) hS.2.2 dX8_init_80
