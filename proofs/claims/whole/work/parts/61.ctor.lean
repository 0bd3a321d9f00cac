/-! ===== constructors: what they need, what they leave ===== -/
def nestX : List (Nat × MethodName) := [(18, yX8_init), (29, yX2_init), (32, yX6_init), (39, yX1_init), (46, yX0_init), (53, yX7_init), (60, yX4_init), (70, yX3_init)]
def uNw (U : State) : Prop := ∀ q ∈ nestX, va_Nw (.methodLinkNest RX9 q.1 q.2 RX9) U
def uAO (U : State) : Prop := va_AOA .byte U ∧ va_AOA .int U ∧ va_AO "GhostSigns$Line" U ∧ uNw U
theorem uAO.warm {s U : State} (hW : s.WarmedH U.vm) (h : uAO s) : uAO U := ⟨h.1.moved hW.alike, h.2.1.moved hW.alike, h.2.2.1.moved hW.alike, fun q hq => va_Nw.warmM hW (h.2.2.2 q hq)⟩
theorem uAO.same {u U : State} (hv : u.vm = U.vm) (h : uAO u) : uAO U := ⟨h.1.moved (hv ▸ Vm.Alike.refl u.vm), h.2.1.moved (hv ▸ Vm.Alike.refl u.vm), h.2.2.1.moved (hv ▸ Vm.Alike.refl u.vm), fun q hq => va_Nw.same rfl hv (h.2.2.2 q hq)⟩
/-- a new object at h0: the cells that its constructor may change -/
def uN (h0 sz : Nat) : Nat → Prop := fun q => q = h0 ∨ sz ≤ q
def uPc (D : va_G) (cl : List vw_C) (cs : Nat → ClassId) (h0 ci : Nat) (fs : List Value) (sz : Nat) : Array Value → State → Prop := va_Pc [.ref h0] (fun U => U.heap.size = sz ∧ va_P D cl [(h0, .inr (ci, fs))] U.heap ∧ va_K D cl (tyX cs) U ∧ uAO U)
def uQc (D : va_G) (cl : List vw_C) (n : Nat) (en : (Nat → Nat) → Nat → (Nat → Int32) → va_E) (σ : St) (h0 sz : Nat) : Array Value → State → Outcome → State → Prop := va_Qv (fun qs : Nat → Nat => qs 0 = h0 ∧ uJ n qs ∧ ∀ k, 1 ≤ k → k < n → sz ≤ qs k) (fun qs t => va_P D cl (uw n qs (en qs) σ) t.heap) (uN h0 sz)
/-- a constructor's contract: from a fresh object at h0, its own world of n cells, cell 0 at h0, the rest new -/
def uMc (l : Launch) (y : MethodName) (ws : List Cond) (rm : Room) (D : va_G) (cl : List vw_C) (cs : Nat → ClassId) (ci : Nat) (fs : List Value) (n : Nat) (en : (Nat → Nat) → Nat → (Nat → Int32) → va_E) (σ : St) (mc ms : Nat) : Prop :=
  ∀ h0 sz : Nat, Met l y ws rm (uPc D cl cs h0 ci fs sz) (uQc D cl n en σ h0 sz) mc ms (uN h0 sz)
theorem uPc_blind {D : va_G} {cl : List vw_C} {cs : Nat → ClassId} {h0 ci : Nat} {fs : List Value} {sz : Nat} : FrameBlind (uPc D cl cs h0 ci fs sz) := by
  intro a U g mk q
  obtain ⟨q0, q1, q2, q3, q4⟩ := q
  exact ⟨q0, q1, q2, va_K.moved (u := U) (U := U.calling g mk a) (Vm.Alike.refl U.vm) q3, uAO.same (u := U) (U := U.calling g mk a) rfl q4⟩
theorem uw_J {n : Nat} {ad : Nat → Nat} {en : Nat → (Nat → Int32) → va_E} {σ : St} {A : Nat → Prop} (h : va_D A (uw n ad en σ)) : uJ n ad ∧ ∀ k, k < n → A (ad k) :=
  ⟨fun i j hi hj e => h.1 i j _ _ (uw_get hi) (uw_get hj) e, fun k hk => h.2 k _ (uw_get hk)⟩
/-- the array's own number is the one that the tables have -/
theorem uK_cls {D : va_G} {cl : List vw_C} {cs : Nat → ClassId} {cA : ClassId} {ty : FieldType} {s : State} (t : Nat) (hK : va_K D cl (tyX cs ++ [(cA, ty)]) s) (ht : (tyX cs)[t]? = some (cs t, ty)) (hno : ∀ C, ty ≠ .object C) : cA = cs t := by
  have h1 : (tyX cs ++ [(cA, ty)])[t]? = some (cs t, ty) := by
    rw [List.getElem?_append_left (List.getElem?_eq_some_iff.mp ht).1]
    exact ht
  have h2 : (tyX cs ++ [(cA, ty)])[6]? = some (cA, ty) := rfl
  have a := (hK.2 _ _ h1).2
  have b := (hK.2 _ _ h2).2
  cases ty with
  | object C => exact absurd rfl (hno C)
  | _ => exact Option.some.inj (b.symm.trans a)
theorem uK_clsO {D : va_G} {cl : List vw_C} {cs : Nat → ClassId} {cA : ClassId} {C : String} {s : State} (t : Nat) (hK : va_K D cl (tyX cs ++ [(cA, .object C)]) s) (ht : (tyX cs)[t]? = some (cs t, .object C)) : cA = cs t := by
  have h1 : (tyX cs ++ [(cA, .object C)])[t]? = some (cs t, .object C) := by
    rw [List.getElem?_append_left (List.getElem?_eq_some_iff.mp ht).1]
    exact ht
  have h2 : (tyX cs ++ [(cA, .object C)])[6]? = some (cA, .object C) := rfl
  obtain ⟨_, _, _, _, _, a⟩ := (hK.2 _ _ h1).2
  obtain ⟨_, _, _, _, _, b⟩ := (hK.2 _ _ h2).2
  exact Option.some.inj (b.symm.trans a)
theorem va_pl_rows {r : Nat → Nat} {f : Nat → va_E} {N : Nat} {e : va_E} : va_pl ([] ++ (List.range N).map r) (vr_up f ((List.range N).map r) e) = (List.range N).map (fun i => (r i, e)) := by
  unfold va_pl
  rw [List.nil_append, List.map_map]
  apply List.map_congr_left
  intro i hi
  show (r i, vr_up f _ e (r i)) = (r i, e)
  rw [vr_up_in (List.mem_map.mpr ⟨i, hi, rfl⟩)]
section UM
variable {p : Program} {l : Launch} {e : Env} {R : Room} {s : State} {m : MethodId} {args : Array Value} {below : List Frame} {meth : Method} {c : Code} {H : Heap} {locs : List Loc} {cells slots : Nat} {Q : State → Prop}
variable {cc : ByteArray} {pc : Nat} {ls : Array Slot} {rest : List Value} {D : va_G} {cl : List vw_C} {A : Nat → Prop} {cs : Nat → ClassId} {ws : va_W} {H0 : Heap}
/-- new T[n] -/
theorem u_newa (t : Nat) (hexec : p.tables.exec = Jvm.exec) (hb : c.code = cc) {atype : ArrayType} (harr : (Cond.arrayClass (newarray.typeOf atype)).before args s = true) {ty : FieldType} (hty : newarray.typeOf atype = ty) (hK : va_K D cl (tyX cs) s) (hP : va_P D cl ws H) (hD : va_D A ws) (hS : va_S A H0 H locs) (hA : ∀ q, H0.size ≤ q → A q)
    {n : Int32} {N' : Nat} (hdv : defaultValue ty = .int 0) (ht : (tyX cs)[t]? = some (cs t, ty)) (hno : ∀ C, ty ≠ .object C) (hn : ¬ n < 0) (hN : n.toNatClampNeg = N') (hbytes : N' * componentBytes ty ≤ 536870912) (hcells : cells + 1 ≤ R.cells) (hslots : slots + N' ≤ R.slots) (hdg : decode cc pc = .ok (.newarray atype, 2))
    (kk : ∀ (q : Nat) (H : Heap), va_P D cl (ws ++ [(q, .inl (cs t, N', .inl (fun _ => 0)))]) H → va_D A (ws ++ [(q, .inl (cs t, N', .inl (fun _ => 0)))]) → va_S A H0 H locs →
      W p l e R s m args below meth c H locs (cells + 1) (slots + N') Q (F0 m (pc + 2) ls (.ref q :: rest))) : W p l e R s m args below meth c H locs cells slots Q (F0 m pc ls (.int n :: rest)) := by
  refine va_newa hexec hb harr hty hK hP hD hS hA (a0 := (N', .inl (fun _ => 0))) (fun cA => by rw [vp_cell_i, hdv]) hn hN hbytes hcells hslots hdg (fun q cA H1 hK1 hP1 hD1 hS1 => ?_)
  have e := uK_cls t hK1 ht hno
  subst e
  exact kk q H1 hP1 hD1 hS1
/-- new T[n][k] -/
theorem u_mna (t t2 : Nat) (hexec : p.tables.exec = Jvm.exec) (hb : c.code = cc) {own : String} {index : Nat} {ty : FieldType} (hown : s.vm.findClass own = some m.cls) (hclink : (Cond.classLink own index ("[" ++ (FieldType.array ty).toString)).before args s = true) (hover : va_AOA ty s) (harr : (Cond.arrayClass ty).before args s = true)
    (hK : va_K D cl (tyX cs) s) (hP : va_P D cl ws H) (hD : va_D A ws) (hS : va_S A H0 H locs) (hA : ∀ q, H0.size ≤ q → A q) {n k : Int32} {N' K' : Nat} (hdv : defaultValue ty = .int 0) (ht : (tyX cs)[t]? = some (cs t, ty)) (ht2 : (tyX cs)[t2]? = some (cs t2, .array ty)) (hcy : s.vm.findClass (FieldType.array ty).toString = some (cs t)) (hn : ¬ n < 0) (hk : ¬ k < 0) (hN : n.toNatClampNeg = N') (hM : k.toNatClampNeg = K')
    (hb1 : N' * 4 ≤ 536870912) (hb2 : K' * componentBytes ty ≤ 536870912) (hb3 : K' ≤ 536870912) (hdf : fits ty (defaultValue ty) = true) (hdd : (defaultValue ty).isDefault = true) (hcells : cells + (1 + N') ≤ R.cells) (hslots : slots + (N' + N' * K') ≤ R.slots) (hdg : decode cc pc = .ok (.multianewarray index 2, 4))
    (kk : ∀ (q : Nat) (r : Nat → Nat) (H : Heap), va_P D cl ((ws ++ [(q, .inl (cs t2, N', .inr (.inr (.inr (.inr (fun i => if i < N' then some (r i) else none))))))]) ++ (List.range N').map (fun i => (r i, .inl (cs t, K', .inl (fun _ => 0))))) H → va_D A ((ws ++ [(q, .inl (cs t2, N', .inr (.inr (.inr (.inr (fun i => if i < N' then some (r i) else none))))))]) ++ (List.range N').map (fun i => (r i, .inl (cs t, K', .inl (fun _ => 0))))) → va_S A H0 H locs →
      W p l e R s m args below meth c H locs (cells + 1 + N') (slots + N' + N' * K') Q (F0 m (pc + 4) ls (.ref q :: rest))) : W p l e R s m args below meth c H locs cells slots Q (F0 m pc ls (.int k :: .int n :: rest)) := by
  have e0 : ws = ws ++ va_pl [] (fun _ => (.inr (0, []) : va_E)) := by unfold va_pl; rw [List.map_nil, List.append_nil]
  refine va_mna (X := ws) (L := []) (f := fun _ => (.inr (0, []) : va_E)) hexec hb hown hclink hover harr hcy hK (by rw [← e0]; exact hP) (by rw [← e0]; exact hD) hS hA (z := (K', .inl (fun _ => 0))) hn hk hN hM hb1 hb2 hb3 hdf hdd hcells hslots (fun c => ?_) hdg (fun q r cA H1 _ _ hK1 hP1 hD1 hS1 => ?_)
  · show ({ cls := c, slots := Array.replicate K' (defaultValue ty), vm := .none } : Cell) = _
    rw [arrV_new, vp_cell_i, hdv]
  · have e := uK_cls t2 hK1 ht2 (fun C h => by cases h)
    subst e
    rw [va_pl_rows] at hP1 hD1
    exact kk q r H1 hP1 hD1 hS1
end UM
theorem u_start2 {p : Program} {l : Launch} {e : Env} {R : Room} {s : State} {m : MethodId} {args : Array Value} {below : List Frame} {meth : Method} {c : Code} {H : Heap} {locs : List Loc} {cells slots : Nat} {Q : State → Prop} {g : JFrame} {D : va_G} {cl : List vw_C} {ws : va_W} {A : Nat → Prop} (eH : H = s.heap) (eL : locs = []) (hP : va_P D cl ws s.heap) (hS : va_S A s.heap s.heap []) (k : va_P D cl ws H → va_S A s.heap H locs → W p l e R s m args below meth c H locs cells slots Q g) : W p l e R s m args below meth c s.heap [] cells slots Q g := by
  subst eH
  subst eL
  exact k hP hS
