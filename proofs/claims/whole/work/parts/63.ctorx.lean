section UP
variable {p : Program} {l : Launch} {e : Env} {R : Room} {s : State} {m : MethodId} {args : Array Value} {below : List Frame} {meth : Method} {c : Code} {H : Heap} {locs : List Loc} {cells slots : Nat} {Q : State → Prop}
variable {cc : ByteArray} {pc nL : Nat} {ls : Array Slot} {rest : List Value} {D : va_G} {cl : List vw_C} {A : Nat → Prop} {cs : Nat → ClassId} {ws : va_W} {Ts : List Cond} {own : String} {lv : List (Nat × Value)}
/-- new C(): the object and what its constructor makes, behind the rest -/
theorem u_made (S : CallFix p m c cc nL s args Ts own) (hK : va_K D cl (tyX cs) s) (hAO : uAO s) (hA : ∀ q, s.heap.size ≤ q → A q) (hP : va_P D cl ws H) (hD : va_D A ws) (hS : va_S A s.heap H locs)
    {y : MethodName} {wy : List Cond} {rm : Room} {ci N nC mc ms idx idy maxL : Nat} {fsd : List Value} {enC : (Nat → Nat) → Nat → (Nat → Int32) → va_E} {σ0 : St} {C : String} {T : u_T} {bytes : ByteArray} (hM : uMc l y wy rm D cl cs ci fsd nC enC σ0 mc ms) (hnC : 0 < nC)
    (hc : cl[ci]? = some (C, T, N)) (hcin : ∀ w ∈ u_ws C T N, w ∈ Ts) (ty : Nat → FieldType) (hty : ∀ k, k < N → parseFieldDescriptor (T k).2.2.1 = some (ty k)) (hfsd : ∀ j, j < N → defaultValue (ty j) = vp_V fsd j)
    (hcl : Cond.classLink own idx C ∈ Ts) (hinst : Cond.instantiable C N ∈ Ts) (hini : Cond.initialized C ∈ Ts)
    (cw : CallB R s args own idy y bytes maxL none wy rm mc ms 0 ∧ y.name = "<init>" ∧ (Cond.instanceMethod y).before args s = true) (hl : lv_has ls nL lv)
    (r1 : cells + 1 ≤ R.cells ∧ slots + N ≤ R.slots) (r2 : cells + 1 + mc ≤ R.cells ∧ slots + N + ms ≤ R.slots) (hW : (rest.map fun v => v.category).sum ≤ 7)
    (d1 : decode cc pc = .ok (.new idx, 3)) (d2 : decode cc (pc + 3) = .ok (.dup, 1)) (d3 : decode cc (pc + 4) = .ok (.invokespecial idy, 3))
    (kk : ∀ (qs : Nat → Nat) (H : Heap) (locs : List Loc), va_P D cl (ws ++ uw nC qs (enC qs) σ0) H → va_D A (ws ++ uw nC qs (enC qs) σ0) → va_S A s.heap H locs →
      W p l e R s m args below meth c H locs (cells + 1 + mc) (slots + N + ms) Q (F0 m (pc + 7) ls (.ref (qs 0) :: rest))) : W p l e R s m args below meth c H locs cells slots Q (F0 m pc ls rest) := by
  obtain ⟨hx, hb, hml, hown, hts⟩ := id S
  refine va_new (ci := ci) (fs := fsd) hx hb hts hcin ty hty hown (hts _ hcl) (hts _ hinst) (hts _ hini) hK hP hD hS hA hc hfsd r1.1 r1.2 d1 (fun q H1 hP1 hD1 hS1 => ?_)
  refine lv_dup hx hb d2 rfl ?_
  have hq : (ws ++ [(q, .inr (ci, fsd))])[ws.length]? = some (q, .inr (ci, fsd)) := by simp
  have hPc : va_P D cl [(q, .inr (ci, fsd))] H1 := fun k x h => by
    have h1 := (List.getElem?_eq_some_iff.mp h).1
    simp at h1
    subst h1
    cases h
    exact hP1 _ _ hq
  have hqA : A q := hD1.2 _ _ hq
  have hfr : ∀ z, uN q H1.size z → A z := fun z h => h.elim (fun h => by rw [h]; exact hqA) (fun h => hA z (Nat.le_trans hS1.1 h))
  refine va_callv (va_runI (As := []) (rest := .ref q :: rest) S (hM q H1.size) cw ⟨uPc_blind, fun U hU hW => ⟨rfl, by rw [hU], by rw [hU]; exact hPc, va_K.moved hW.alike hK, hAO.moved hW.alike⟩⟩ rfl rfl hl.1 rfl (lv_room (by simp only [List.map_cons, List.sum_cons, Value.category]; omega)) d3 r2) hS1 (fun z _ h => hfr z h) hfr (fun qs t H2 locs2 ht hvm hw hB hz1 hk1 hS2 => ?_)
  obtain ⟨g0, gJ, gN⟩ := hw
  rw [ht] at hB
  have hPw : va_P D cl ws H2 := fun k x h => by
    have h1 : (ws ++ [(q, .inr (ci, fsd))])[k]? = some x := by rw [List.getElem?_append_left (List.getElem?_eq_some_iff.mp h).1]; exact h
    have hv := hP1 k x h1
    refine hv.kept (hk1 _ hv.lt (fun h2 => ?_))
    rcases h2 with h2 | h2
    · have := hD1.1 k ws.length x _ h1 hq h2
      have := (List.getElem?_eq_some_iff.mp h).1
      omega
    · exact absurd hv.lt (Nat.not_lt.mpr h2)
  have hDw : va_D A ws := hD
  have hDq : va_D A (uw nC qs (enC qs) σ0) := uw_D gJ (fun k hk => by
    rcases Nat.eq_zero_or_pos k with h | h
    · rw [h, g0]; exact hqA
    · exact hA _ (Nat.le_trans hS1.1 (gN k h hk)))
  have hDall : va_D A (ws ++ uw nC qs (enC qs) σ0) := va_D.app hDw hDq (fun i j x z h1 h2 e => by
    obtain ⟨b1, b2⟩ := uw_of h2
    have h3 : (ws ++ [(q, .inr (ci, fsd))])[i]? = some x := by rw [List.getElem?_append_left (List.getElem?_eq_some_iff.mp h1).1]; exact h1
    have hv := hP1 i x h3
    subst b2
    have e : x.1 = qs j := e
    rcases Nat.eq_zero_or_pos j with h | h
    · rw [h, g0] at e
      have := hD1.1 i ws.length x _ h3 hq e
      have := (List.getElem?_eq_some_iff.mp h1).1
      omega
    · have := gN j h b1
      have := hv.lt
      omega)
  have := kk qs H2 locs2 (va_P.app hPw hB) hDall hS2
  rw [g0] at this
  exact this
end UP

def sX0 : St := (us (us (uf (fun _ _ => 0) 3 (upd (upd (upd (upd (fun _ => 0) 0 (-1)) 1 (-1)) 2 (-1)) 3 (-1))) 71 4 1) 71 5 1900)
def adXl (h0 ql qsp qtf : Nat) (q5 q8 qL0 qL1 qL2 qL3 q6 q1 q0 q7 q4 q4b q3 : Nat → Nat) : List Nat := [h0, q5 0, q5 1, q5 2, q5 3, q5 4, q5 5, q5 6, q8 0, q8 1, q8 2, q8 3, q8 4, q8 5, q8 6, q8 7, q8 8, q8 9, q8 10, q8 11, q8 12, q8 13, q8 14, q8 15, q8 16, q8 17, q8 18, q8 19, q8 20, q8 21, q8 22, q8 23, q8 24, q8 25, ql, qL0 0, qL0 1, qL0 2, qL0 3, qL0 4, qL0 5, qL0 6, qL0 7, qL0 8, qL1 0, qL1 1, qL1 2, qL1 3, qL1 4, qL1 5, qL1 6, qL1 7, qL1 8, qL2 0, qL2 1, qL2 2, qL2 3, qL2 4, qL2 5, qL2 6, qL2 7, qL2 8, qL3 0, qL3 1, qL3 2, qL3 3, qL3 4, qL3 5, qL3 6, qL3 7, qL3 8, q6 0, q6 1, q6 2, q6 3, q1 0, q1 1, q1 2, q1 3, q1 4, q0 0, q0 1, q0 2, q7 0, q7 1, q7 2, q4 0, q4 1, q4 2, q4 3, q4 4, q4b 0, q4b 1, q4b 2, q4b 3, q4b 4, q3 0, qsp, qtf]
def adX (h0 ql qsp qtf : Nat) (q5 q8 qL0 qL1 qL2 qL3 q6 q1 q0 q7 q4 q4b q3 : Nat → Nat) (k : Nat) : Nat := (adXl h0 ql qsp qtf q5 q8 qL0 qL1 qL2 qL3 q6 q1 q0 q7 q4 q4b q3).getD k 0
set_option maxHeartbeats 16000000 in
set_option maxRecDepth 100000 in
theorem xw_list (cs : Nat → ClassId) (h0 ql qsp qtf : Nat) (q5 q8 qL0 qL1 qL2 qL3 q6 q1 q0 q7 q4 q4b q3 : Nat → Nat) : ∀ k, k < 99 → (((h0, .inr (9, [.ref (q5 0), .ref (q8 0), .ref ql, .ref (q6 0), .ref (q1 0), .ref (q0 0), .ref (q7 0), .ref (q4 0), .ref (q4b 0), .ref (q3 0), .ref qsp, .ref qtf, .int 0, .int 0])) :: (((((((((((((((uw 7 q5 (enX5 cs q5) (uf (fun _ _ => 0) 2 (upd (upd (upd (upd (fun _ => 0) 0 (-1)) 1 (-1)) 2 (-1)) 3 (-1))) ++ uw 26 q8 (enX8 cs q8) (fun _ _ => 0)) ++ [(ql, .inl (cs 3, 4, .inr (.inr (.inr (.inr (va_up (va_up (va_up (va_up (fun _ => none) (0 : Int32).toNatClampNeg (some (qL0 0))) (1 : Int32).toNatClampNeg (some (qL1 0))) (2 : Int32).toNatClampNeg (some (qL2 0))) (3 : Int32).toNatClampNeg (some (qL3 0))))))))]) ++ uw 9 qL0 (enX2 cs qL0) (fun _ _ => 0)) ++ uw 9 qL1 (enX2 cs qL1) (fun _ _ => 0)) ++ uw 9 qL2 (enX2 cs qL2) (fun _ _ => 0)) ++ uw 9 qL3 (enX2 cs qL3) (fun _ _ => 0)) ++ uw 4 q6 (enX6 cs q6) (us (us (fun _ _ => 0) 0 4 1) 0 5 1900)) ++ uw 5 q1 (enX1 cs q1) (fun _ _ => 0)) ++ uw 3 q0 (enX0 cs q0) (fun _ _ => 0)) ++ uw 3 q7 (enX7 cs q7) (fun _ _ => 0)) ++ uw 5 q4 (enX4 cs q4) (fun _ _ => 0)) ++ uw 5 q4b (enX4 cs q4b) (fun _ _ => 0)) ++ uw 1 q3 (enX3 cs q3) (fun _ _ => 0)) ++ [(qsp, .inl (cs 0, 10, .inl (fun _ => 0)))]) ++ [(qtf, .inl (cs 0, 6, .inl (fun _ => 0)))])) : va_W)[k]? = some (adX h0 ql qsp qtf q5 q8 qL0 qL1 qL2 qL3 q6 q1 q0 q7 q4 q4b q3 k, enX (adX h0 ql qsp qtf q5 q8 qL0 qL1 qL2 qL3 q6 q1 q0 q7 q4 q4b q3) cs k (sX0 k)) := by
  intro k hk
  match k, hk with
  | 0, _ => rfl
  | 1, _ => rfl
  | 2, _ =>
    refine congrArg (fun g => some ((q5 1), (.inl (cs 4, 4, .inr (.inr (.inr (.inr g)))) : va_E))) (funext fun i => ?_)
    by_cases hi : i < 4
    · match i, hi with
      | 0, _ => rfl
      | 1, _ => rfl
      | 2, _ => rfl
      | 3, _ => rfl
    · simp [hi]
  | 3, _ => rfl
  | 4, _ => rfl
  | 5, _ => rfl
  | 6, _ => rfl
  | 7, _ => rfl
  | 8, _ => rfl
  | 9, _ => rfl
  | 10, _ =>
    refine congrArg (fun g => some ((q8 2), (.inl (cs 4, 16, .inr (.inr (.inr (.inr g)))) : va_E))) (funext fun i => ?_)
    by_cases hi : i < 16
    · match i, hi with
      | 0, _ => rfl
      | 1, _ => rfl
      | 2, _ => rfl
      | 3, _ => rfl
      | 4, _ => rfl
      | 5, _ => rfl
      | 6, _ => rfl
      | 7, _ => rfl
      | 8, _ => rfl
      | 9, _ => rfl
      | 10, _ => rfl
      | 11, _ => rfl
      | 12, _ => rfl
      | 13, _ => rfl
      | 14, _ => rfl
      | 15, _ => rfl
      | n + 16, h => exact absurd h (by omega)
    · simp [hi]
  | 11, _ => rfl
  | 12, _ => rfl
  | 13, _ => rfl
  | 14, _ => rfl
  | 15, _ => rfl
  | 16, _ => rfl
  | 17, _ => rfl
  | 18, _ => rfl
  | 19, _ => rfl
  | 20, _ => rfl
  | 21, _ => rfl
  | 22, _ => rfl
  | 23, _ => rfl
  | 24, _ => rfl
  | 25, _ => rfl
  | 26, _ => rfl
  | 27, _ => rfl
  | 28, _ => rfl
  | 29, _ => rfl
  | 30, _ => rfl
  | 31, _ => rfl
  | 32, _ => rfl
  | 33, _ => rfl
  | 34, _ =>
    refine congrArg (fun g => some (ql, (.inl (cs 3, 4, .inr (.inr (.inr (.inr g)))) : va_E))) (funext fun i => ?_)
    by_cases hi : i < 4
    · match i, hi with
      | 0, _ => rfl
      | 1, _ => rfl
      | 2, _ => rfl
      | 3, _ => rfl
    · simp [va_up, hi]; omega
  | 35, _ => rfl
  | 36, _ =>
    refine congrArg (fun g => some ((qL0 1), (.inl (cs 5, 4, .inr (.inr (.inr (.inr g)))) : va_E))) (funext fun i => ?_)
    by_cases hi : i < 4
    · match i, hi with
      | 0, _ => rfl
      | 1, _ => rfl
      | 2, _ => rfl
      | 3, _ => rfl
    · simp [hi]
  | 37, _ => rfl
  | 38, _ => rfl
  | 39, _ => rfl
  | 40, _ => rfl
  | 41, _ => rfl
  | 42, _ => rfl
  | 43, _ => rfl
  | 44, _ => rfl
  | 45, _ =>
    refine congrArg (fun g => some ((qL1 1), (.inl (cs 5, 4, .inr (.inr (.inr (.inr g)))) : va_E))) (funext fun i => ?_)
    by_cases hi : i < 4
    · match i, hi with
      | 0, _ => rfl
      | 1, _ => rfl
      | 2, _ => rfl
      | 3, _ => rfl
    · simp [hi]
  | 46, _ => rfl
  | 47, _ => rfl
  | 48, _ => rfl
  | 49, _ => rfl
  | 50, _ => rfl
  | 51, _ => rfl
  | 52, _ => rfl
  | 53, _ => rfl
  | 54, _ =>
    refine congrArg (fun g => some ((qL2 1), (.inl (cs 5, 4, .inr (.inr (.inr (.inr g)))) : va_E))) (funext fun i => ?_)
    by_cases hi : i < 4
    · match i, hi with
      | 0, _ => rfl
      | 1, _ => rfl
      | 2, _ => rfl
      | 3, _ => rfl
    · simp [hi]
  | 55, _ => rfl
  | 56, _ => rfl
  | 57, _ => rfl
  | 58, _ => rfl
  | 59, _ => rfl
  | 60, _ => rfl
  | 61, _ => rfl
  | 62, _ => rfl
  | 63, _ =>
    refine congrArg (fun g => some ((qL3 1), (.inl (cs 5, 4, .inr (.inr (.inr (.inr g)))) : va_E))) (funext fun i => ?_)
    by_cases hi : i < 4
    · match i, hi with
      | 0, _ => rfl
      | 1, _ => rfl
      | 2, _ => rfl
      | 3, _ => rfl
    · simp [hi]
  | 64, _ => rfl
  | 65, _ => rfl
  | 66, _ => rfl
  | 67, _ => rfl
  | 68, _ => rfl
  | 69, _ => rfl
  | 70, _ => rfl
  | 71, _ => rfl
  | 72, _ => rfl
  | 73, _ => rfl
  | 74, _ => rfl
  | 75, _ => rfl
  | 76, _ => rfl
  | 77, _ => rfl
  | 78, _ => rfl
  | 79, _ => rfl
  | 80, _ => rfl
  | 81, _ => rfl
  | 82, _ => rfl
  | 83, _ => rfl
  | 84, _ => rfl
  | 85, _ => rfl
  | 86, _ => rfl
  | 87, _ => rfl
  | 88, _ => rfl
  | 89, _ => rfl
  | 90, _ => rfl
  | 91, _ => rfl
  | 92, _ => rfl
  | 93, _ => rfl
  | 94, _ => rfl
  | 95, _ => rfl
  | 96, _ => rfl
  | 97, _ => rfl
  | 98, _ => rfl
  | n + 99, h => exact absurd h (by omega)
set_option maxHeartbeats 16000000 in
set_option maxRecDepth 100000 in
theorem c_X9_init (l : Launch) (D : va_G) (cs : Nat → ClassId) : uMc l yX9_init wsX9_init { frames := 3, cells := 98, slots := 2098, locals := 60 } D vwCl cs 9 [.null, .null, .null, .null, .null, .null, .null, .null, .null, .null, .null, .null, .int 0, .int 0] 99 (fun qs => enX qs cs) sX0 98 2098 := by
  intro h0 sz
  refine Met.ofW (cc := cX9_init) (maxL := 2) (ret := none) (by decide) rfl ?_
  intro p e s m args below meth c s₁ B hml hv
  obtain ⟨rfl, hsz, hP, hK, hAO⟩ := hv
  have hx := B.exec
  have hb := B.bytes
  have hr := B.returns
  have hts := atoms_spec (ws := wsX9_init) B.pre
  have hown : s.vm.findClass RX9 = some m.cls := findClass_of_methodNamed B.named
  have hlocks := B.notSynchronized
  have hin : meth.name = "<init>" := (name_of_methodNamed B.named B.method).1
  subst hsz
  generalize hAe : uN h0 s.heap.size = A
  have hA : ∀ q : Nat, s.heap.size ≤ q → A q := fun q h => by rw [← hAe]; exact Or.inr h
  have hAn : ∀ q : Nat, A q → q ≠ h0 → s.heap.size ≤ q := fun q h g => by rw [← hAe] at h; exact h.resolve_left g
  have hD : va_D A [(h0, .inr (9, [.null, .null, .null, .null, .null, .null, .null, .null, .null, .null, .null, .null, .int 0, .int 0]))] := ⟨fun i j x y h1 h2 _ => by have a1 := (List.getElem?_eq_some_iff.mp h1).1; have a2 := (List.getElem?_eq_some_iff.mp h2).1; simp at a1 a2; omega, fun k q h => by have a1 := (List.getElem?_eq_some_iff.mp h).1; simp at a1; subst a1; cases h; rw [← hAe]; exact Or.inl rfl⟩
  have hS : va_S A s.heap s.heap [] := va_S.rf
  have hl := lv_entry ([.ref h0]) (n := 2) (Nat.le_of_ble_eq_true rfl)
  rw [lg_entry_eq]
  generalize (lg_sl ([.ref h0]) ++ List.replicate (2 - (lg_sl ([.ref h0])).length) Slot.unset).toArray = ls at hl ⊢
  have hl : lv_has ls 2 [(0, .ref h0)] := hl
  obtain ⟨H, eH⟩ : ∃ H, H = s.heap := ⟨_, rfl⟩
  obtain ⟨locs, eL⟩ : ∃ locs : List Loc, locs = [] := ⟨_, rfl⟩
  refine u_start2 eH eL hP hS ?_
  clear hP hS eH eL
  intro hP hS
  have hP : va_P D vwCl ((h0, .inr (9, [.null, .null, .null, .null, .null, .null, .null, .null, .null, .null, .null, .null, .int 0, .int 0])) :: []) H := hP
  have hD : va_D A ((h0, .inr (9, [.null, .null, .null, .null, .null, .null, .null, .null, .null, .null, .null, .null, .int 0, .int 0])) :: []) := hD
  refine lv_aload_n hx hb dX9_init_0 rfl (lv_at hl 0 rfl) ?_
  refine W.objInit hx hb hown (hts (.methodLink RX9 1 objectInit) (by decide +kernel)) (hts (.instanceMethod objectInit) (by decide +kernel)) (hts (.code objectInit ⟨#[0xb1]⟩ 1 none) (by decide +kernel)) rfl (by rw [hml]; exact hl.1) rfl dX9_init_1 (Nat.le_of_ble_eq_true rfl) (Nat.le_of_ble_eq_true rfl) ?_
  refine W.eq (g2 := F0 m 4 ls []) rfl ?_
  refine lv_aload_n hx hb dX9_init_4 rfl (lv_at hl 0 rfl) ?_
  refine u_made (rest := [.ref h0]) (fsd := [.null, .null]) ⟨hx, hb, hml, hown, hts⟩ hK hAO hA hP hD hS (c_X5_init l D cs) (by decide) (ci := 5) (C := RX5) (T := TX5) (N := 2) rfl (by decide +kernel) tyX5 tyX5_ok (fun j hj => by rcases (show j = 0 ∨ j = 1 by omega) with rfl | rfl <;> rfl) (by decide +kernel) (by decide +kernel) (by decide +kernel) (cwI 0 hts gX9_init_X5_init rfl rfl rfl (hts (.initialized RX5) (by decide +kernel)) (hts (.methodLink RX9 9 yX5_init) (by decide +kernel)) (hts (.instanceMethod yX5_init) (by decide +kernel)) rfl (by decide +kernel) ⟨Nat.le_of_ble_eq_true rfl, Nat.le_of_ble_eq_true rfl⟩) hl ⟨Nat.le_of_ble_eq_true rfl, Nat.le_of_ble_eq_true rfl⟩ ⟨Nat.le_of_ble_eq_true rfl, Nat.le_of_ble_eq_true rfl⟩ (Nat.le_of_ble_eq_true rfl) dX9_init_5 dX9_init_8 dX9_init_9 (fun q5 H locs hP hD hS => ?_)
  refine W.widen (k := 7) (n := 50) (Nat.le_of_ble_eq_true rfl) (Nat.le_of_ble_eq_true rfl) ?_
  have hP : va_P D vwCl ((h0, .inr (9, [.null, .null, .null, .null, .null, .null, .null, .null, .null, .null, .null, .null, .int 0, .int 0])) :: uw 7 q5 (enX5 cs q5) (uf (fun _ _ => 0) 2 (upd (upd (upd (upd (fun _ => 0) 0 (-1)) 1 (-1)) 2 (-1)) 3 (-1)))) H := hP
  have hD : va_D A ((h0, .inr (9, [.null, .null, .null, .null, .null, .null, .null, .null, .null, .null, .null, .null, .int 0, .int 0])) :: uw 7 q5 (enX5 cs q5) (uf (fun _ _ => 0) 2 (upd (upd (upd (upd (fun _ => 0) 0 (-1)) 1 (-1)) 2 (-1)) 3 (-1)))) := hD
  refine va_putF (D := D) (ci := 9) (v := .ref (q5 0)) (ty := (tyX9 0)) (C := RX9) (T := TX9) (N := 14) hx hb hts (by decide +kernel) tyX9 tyX9_ok nmX9 hown hK hP hD hS 0 rfl rfl 0 (by decide) (hts (.fieldLink RX9 10 "GhostSigns" "sheets" "LGhostSigns$Sheets;") (by decide +kernel)) (fun _ h9 => h9) rfl hin rfl (by decide +kernel) rfl rfl (Nat.le_of_ble_eq_true rfl) dX9_init_12 (fun H locs hP hD hS => ?_)
  have hP : va_P D vwCl ((h0, .inr (9, [.ref (q5 0), .null, .null, .null, .null, .null, .null, .null, .null, .null, .null, .null, .int 0, .int 0])) :: uw 7 q5 (enX5 cs q5) (uf (fun _ _ => 0) 2 (upd (upd (upd (upd (fun _ => 0) 0 (-1)) 1 (-1)) 2 (-1)) 3 (-1)))) H := hP
  have hD : va_D A ((h0, .inr (9, [.ref (q5 0), .null, .null, .null, .null, .null, .null, .null, .null, .null, .null, .null, .int 0, .int 0])) :: uw 7 q5 (enX5 cs q5) (uf (fun _ _ => 0) 2 (upd (upd (upd (upd (fun _ => 0) 0 (-1)) 1 (-1)) 2 (-1)) 3 (-1)))) := hD
  refine lv_aload_n hx hb dX9_init_15 rfl (lv_at hl 0 rfl) ?_
  refine u_made (rest := [.ref h0]) (fsd := [.null, .null, .null, .null, .null, .null, .null, .null, .null, .int 0]) ⟨hx, hb, hml, hown, hts⟩ hK hAO hA hP hD hS (c_X8_init l D cs) (by decide) (ci := 8) (C := RX8) (T := TX8) (N := 10) rfl (by decide +kernel) tyX8 tyX8_ok (fun j hj => by rcases (show j = 0 ∨ j = 1 ∨ j = 2 ∨ j = 3 ∨ j = 4 ∨ j = 5 ∨ j = 6 ∨ j = 7 ∨ j = 8 ∨ j = 9 by omega) with rfl | rfl | rfl | rfl | rfl | rfl | rfl | rfl | rfl | rfl <;> rfl) (by decide +kernel) (by decide +kernel) (by decide +kernel) (cwI 0 hts gX9_init_X8_init_n18 rfl rfl rfl (hts (.initialized RX8) (by decide +kernel)) (hts (.methodLink RX9 18 yX8_init) (by decide +kernel)) (hts (.instanceMethod yX8_init) (by decide +kernel)) rfl (by decide +kernel) ⟨Nat.le_of_ble_eq_true rfl, Nat.le_of_ble_eq_true rfl⟩) hl ⟨Nat.le_of_ble_eq_true rfl, Nat.le_of_ble_eq_true rfl⟩ ⟨Nat.le_of_ble_eq_true rfl, Nat.le_of_ble_eq_true rfl⟩ (Nat.le_of_ble_eq_true rfl) dX9_init_16 dX9_init_19 dX9_init_20 (fun q8 H locs hP hD hS => ?_)
  refine W.widen (k := 33) (n := 342) (Nat.le_of_ble_eq_true rfl) (Nat.le_of_ble_eq_true rfl) ?_
  have hP : va_P D vwCl ((h0, .inr (9, [.ref (q5 0), .null, .null, .null, .null, .null, .null, .null, .null, .null, .null, .null, .int 0, .int 0])) :: (uw 7 q5 (enX5 cs q5) (uf (fun _ _ => 0) 2 (upd (upd (upd (upd (fun _ => 0) 0 (-1)) 1 (-1)) 2 (-1)) 3 (-1))) ++ uw 26 q8 (enX8 cs q8) (fun _ _ => 0))) H := hP
  have hD : va_D A ((h0, .inr (9, [.ref (q5 0), .null, .null, .null, .null, .null, .null, .null, .null, .null, .null, .null, .int 0, .int 0])) :: (uw 7 q5 (enX5 cs q5) (uf (fun _ _ => 0) 2 (upd (upd (upd (upd (fun _ => 0) 0 (-1)) 1 (-1)) 2 (-1)) 3 (-1))) ++ uw 26 q8 (enX8 cs q8) (fun _ _ => 0))) := hD
  refine va_putF (D := D) (ci := 9) (v := .ref (q8 0)) (ty := (tyX9 1)) (C := RX9) (T := TX9) (N := 14) hx hb hts (by decide +kernel) tyX9 tyX9_ok nmX9 hown hK hP hD hS 0 rfl rfl 1 (by decide) (hts (.fieldLink RX9 19 "GhostSigns" "words" "LGhostSigns$Words;") (by decide +kernel)) (fun _ h9 => h9) rfl hin rfl (by decide +kernel) rfl rfl (Nat.le_of_ble_eq_true rfl) dX9_init_23 (fun H locs hP hD hS => ?_)
  have hP : va_P D vwCl ((h0, .inr (9, [.ref (q5 0), .ref (q8 0), .null, .null, .null, .null, .null, .null, .null, .null, .null, .null, .int 0, .int 0])) :: (uw 7 q5 (enX5 cs q5) (uf (fun _ _ => 0) 2 (upd (upd (upd (upd (fun _ => 0) 0 (-1)) 1 (-1)) 2 (-1)) 3 (-1))) ++ uw 26 q8 (enX8 cs q8) (fun _ _ => 0))) H := hP
  have hD : va_D A ((h0, .inr (9, [.ref (q5 0), .ref (q8 0), .null, .null, .null, .null, .null, .null, .null, .null, .null, .null, .int 0, .int 0])) :: (uw 7 q5 (enX5 cs q5) (uf (fun _ _ => 0) 2 (upd (upd (upd (upd (fun _ => 0) 0 (-1)) 1 (-1)) 2 (-1)) 3 (-1))) ++ uw 26 q8 (enX8 cs q8) (fun _ _ => 0))) := hD
  refine lv_aload_n hx hb dX9_init_26 rfl (lv_at hl 0 rfl) ?_
  refine lv_iconst (v := 4) hx hb dX9_init_27 (by decide) ?_
  refine va_newq (n := 4) (N' := 4) hx hb hown (hts (.classLink RX9 23 RX2) (by decide +kernel)) hAO.2.2 hK hP hD hS hA (by decide) (by decide) (by omega) (Nat.le_of_ble_eq_true rfl) (Nat.le_of_ble_eq_true rfl) dX9_init_28 (fun ql cA H hK1 hP hD hS => ?_)
  have ec := uK_clsO 3 hK1 rfl
  subst ec
  clear hK1
  refine W.widen (k := 34) (n := 346) (Nat.le_of_ble_eq_true rfl) (Nat.le_of_ble_eq_true rfl) ?_
  have hP : va_P D vwCl ((h0, .inr (9, [.ref (q5 0), .ref (q8 0), .null, .null, .null, .null, .null, .null, .null, .null, .null, .null, .int 0, .int 0])) :: ((uw 7 q5 (enX5 cs q5) (uf (fun _ _ => 0) 2 (upd (upd (upd (upd (fun _ => 0) 0 (-1)) 1 (-1)) 2 (-1)) 3 (-1))) ++ uw 26 q8 (enX8 cs q8) (fun _ _ => 0)) ++ [(ql, .inl (cs 3, 4, .inr (.inr (.inr (.inr (fun _ => none))))))])) H := hP
  have hD : va_D A ((h0, .inr (9, [.ref (q5 0), .ref (q8 0), .null, .null, .null, .null, .null, .null, .null, .null, .null, .null, .int 0, .int 0])) :: ((uw 7 q5 (enX5 cs q5) (uf (fun _ _ => 0) 2 (upd (upd (upd (upd (fun _ => 0) 0 (-1)) 1 (-1)) 2 (-1)) 3 (-1))) ++ uw 26 q8 (enX8 cs q8) (fun _ _ => 0)) ++ [(ql, .inl (cs 3, 4, .inr (.inr (.inr (.inr (fun _ => none))))))])) := hD
  refine va_putF (D := D) (ci := 9) (v := .ref ql) (ty := (tyX9 2)) (C := RX9) (T := TX9) (N := 14) hx hb hts (by decide +kernel) tyX9 tyX9_ok nmX9 hown hK hP hD hS 0 rfl rfl 2 (by decide) (hts (.fieldLink RX9 25 "GhostSigns" "lines" "[LGhostSigns$Line;") (by decide +kernel)) (fun _ h9 => h9) rfl hin rfl (by decide +kernel) rfl rfl (Nat.le_of_ble_eq_true rfl) dX9_init_31 (fun H locs hP hD hS => ?_)
  have hP : va_P D vwCl ((h0, .inr (9, [.ref (q5 0), .ref (q8 0), .ref ql, .null, .null, .null, .null, .null, .null, .null, .null, .null, .int 0, .int 0])) :: ((uw 7 q5 (enX5 cs q5) (uf (fun _ _ => 0) 2 (upd (upd (upd (upd (fun _ => 0) 0 (-1)) 1 (-1)) 2 (-1)) 3 (-1))) ++ uw 26 q8 (enX8 cs q8) (fun _ _ => 0)) ++ [(ql, .inl (cs 3, 4, .inr (.inr (.inr (.inr (fun _ => none))))))])) H := hP
  have hD : va_D A ((h0, .inr (9, [.ref (q5 0), .ref (q8 0), .ref ql, .null, .null, .null, .null, .null, .null, .null, .null, .null, .int 0, .int 0])) :: ((uw 7 q5 (enX5 cs q5) (uf (fun _ _ => 0) 2 (upd (upd (upd (upd (fun _ => 0) 0 (-1)) 1 (-1)) 2 (-1)) 3 (-1))) ++ uw 26 q8 (enX8 cs q8) (fun _ _ => 0)) ++ [(ql, .inl (cs 3, 4, .inr (.inr (.inr (.inr (fun _ => none))))))])) := hD
  refine lv_iconst (v := 0) hx hb dX9_init_34 (by decide) ?_
  refine lv_istore_n (lv' := [(1, .int 0), (0, .ref h0)]) hx hb dX9_init_35 rfl hl (by decide) rfl (fun ls hl => ?_)
  refine lv_iload_n hx hb dX9_init_36 rfl (lv_at hl 0 rfl) ?_
  refine lv_iconst (v := 4) hx hb dX9_init_37 (by decide) ?_
  refine lv_icmp_ge (tgt := 60) hx hb dX9_init_38 (by decide) (fun q => absurd q (by decide)) (fun _ => ?_)
  refine lv_aload_n hx hb dX9_init_41 rfl (lv_at hl 1 rfl) ?_
  refine va_get (D := D) (ci := 9) (v := .ref ql) (C := RX9) (T := TX9) (N := 14) hx hb hts (by decide +kernel) hown hK hP 0 rfl rfl 2 (by decide) (hts (.fieldLink RX9 25 "GhostSigns" "lines" "[LGhostSigns$Line;") (by decide +kernel)) (fun _ h9 => h9) rfl dX9_init_42 ?_
  refine lv_iload_n hx hb dX9_init_45 rfl (lv_at hl 0 rfl) ?_
  refine u_made (rest := [.int 0, .ref ql]) (fsd := [.null, .null, .null, .null, .int 0]) ⟨hx, hb, hml, hown, hts⟩ hK hAO hA hP hD hS (c_X2_init l D cs) (by decide) (ci := 2) (C := RX2) (T := TX2) (N := 5) rfl (by decide +kernel) tyX2 tyX2_ok (fun j hj => by rcases (show j = 0 ∨ j = 1 ∨ j = 2 ∨ j = 3 ∨ j = 4 by omega) with rfl | rfl | rfl | rfl | rfl <;> rfl) (by decide +kernel) (by decide +kernel) (by decide +kernel) (cwI 0 hts gX9_init_X2_init_n29 rfl rfl rfl (hts (.initialized RX2) (by decide +kernel)) (hts (.methodLink RX9 29 yX2_init) (by decide +kernel)) (hts (.instanceMethod yX2_init) (by decide +kernel)) rfl (by decide +kernel) ⟨Nat.le_of_ble_eq_true rfl, Nat.le_of_ble_eq_true rfl⟩) hl ⟨Nat.le_of_ble_eq_true rfl, Nat.le_of_ble_eq_true rfl⟩ ⟨Nat.le_of_ble_eq_true rfl, Nat.le_of_ble_eq_true rfl⟩ (Nat.le_of_ble_eq_true rfl) dX9_init_46 dX9_init_49 dX9_init_50 (fun qL0 H locs hP hD hS => ?_)
  refine W.widen (k := 43) (n := 404) (Nat.le_of_ble_eq_true rfl) (Nat.le_of_ble_eq_true rfl) ?_
  have hP : va_P D vwCl ((h0, .inr (9, [.ref (q5 0), .ref (q8 0), .ref ql, .null, .null, .null, .null, .null, .null, .null, .null, .null, .int 0, .int 0])) :: (((uw 7 q5 (enX5 cs q5) (uf (fun _ _ => 0) 2 (upd (upd (upd (upd (fun _ => 0) 0 (-1)) 1 (-1)) 2 (-1)) 3 (-1))) ++ uw 26 q8 (enX8 cs q8) (fun _ _ => 0)) ++ [(ql, .inl (cs 3, 4, .inr (.inr (.inr (.inr (fun _ => none))))))]) ++ uw 9 qL0 (enX2 cs qL0) (fun _ _ => 0))) H := hP
  have hD : va_D A ((h0, .inr (9, [.ref (q5 0), .ref (q8 0), .ref ql, .null, .null, .null, .null, .null, .null, .null, .null, .null, .int 0, .int 0])) :: (((uw 7 q5 (enX5 cs q5) (uf (fun _ _ => 0) 2 (upd (upd (upd (upd (fun _ => 0) 0 (-1)) 1 (-1)) 2 (-1)) 3 (-1))) ++ uw 26 q8 (enX8 cs q8) (fun _ _ => 0)) ++ [(ql, .inl (cs 3, 4, .inr (.inr (.inr (.inr (fun _ => none))))))]) ++ uw 9 qL0 (enX2 cs qL0) (fun _ _ => 0))) := hD
  refine va_astq (r := (RX2, TX2, 5)) hx hb hK hP hD hS 34 3 35 2 rfl rfl rfl rfl (vp_lit (by decide)) dX9_init_53 (fun H locs hP hD hS => ?_)
  have hP : va_P D vwCl ((h0, .inr (9, [.ref (q5 0), .ref (q8 0), .ref ql, .null, .null, .null, .null, .null, .null, .null, .null, .null, .int 0, .int 0])) :: (((uw 7 q5 (enX5 cs q5) (uf (fun _ _ => 0) 2 (upd (upd (upd (upd (fun _ => 0) 0 (-1)) 1 (-1)) 2 (-1)) 3 (-1))) ++ uw 26 q8 (enX8 cs q8) (fun _ _ => 0)) ++ [(ql, .inl (cs 3, 4, .inr (.inr (.inr (.inr (va_up (fun _ => none) (0 : Int32).toNatClampNeg (some (qL0 0))))))))]) ++ uw 9 qL0 (enX2 cs qL0) (fun _ _ => 0))) H := hP
  have hD : va_D A ((h0, .inr (9, [.ref (q5 0), .ref (q8 0), .ref ql, .null, .null, .null, .null, .null, .null, .null, .null, .null, .int 0, .int 0])) :: (((uw 7 q5 (enX5 cs q5) (uf (fun _ _ => 0) 2 (upd (upd (upd (upd (fun _ => 0) 0 (-1)) 1 (-1)) 2 (-1)) 3 (-1))) ++ uw 26 q8 (enX8 cs q8) (fun _ _ => 0)) ++ [(ql, .inl (cs 3, 4, .inr (.inr (.inr (.inr (va_up (fun _ => none) (0 : Int32).toNatClampNeg (some (qL0 0))))))))]) ++ uw 9 qL0 (enX2 cs qL0) (fun _ _ => 0))) := hD
  refine lv_iinc (v := 1) (lv' := [(1, .int 1), (0, .ref h0)]) hx hb dX9_init_54 hl (k := 0) rfl (by decide) (by decide) rfl (fun ls hl => ?_)
  refine lv_goto (tgt := 36) hx hb dX9_init_57 (by decide) ?_
  refine lv_iload_n hx hb dX9_init_36 rfl (lv_at hl 0 rfl) ?_
  refine lv_iconst (v := 4) hx hb dX9_init_37 (by decide) ?_
  refine lv_icmp_ge (tgt := 60) hx hb dX9_init_38 (by decide) (fun q => absurd q (by decide)) (fun _ => ?_)
  refine lv_aload_n hx hb dX9_init_41 rfl (lv_at hl 1 rfl) ?_
  refine va_get (D := D) (ci := 9) (v := .ref ql) (C := RX9) (T := TX9) (N := 14) hx hb hts (by decide +kernel) hown hK hP 0 rfl rfl 2 (by decide) (hts (.fieldLink RX9 25 "GhostSigns" "lines" "[LGhostSigns$Line;") (by decide +kernel)) (fun _ h9 => h9) rfl dX9_init_42 ?_
  refine lv_iload_n hx hb dX9_init_45 rfl (lv_at hl 0 rfl) ?_
  refine u_made (rest := [.int 1, .ref ql]) (fsd := [.null, .null, .null, .null, .int 0]) ⟨hx, hb, hml, hown, hts⟩ hK hAO hA hP hD hS (c_X2_init l D cs) (by decide) (ci := 2) (C := RX2) (T := TX2) (N := 5) rfl (by decide +kernel) tyX2 tyX2_ok (fun j hj => by rcases (show j = 0 ∨ j = 1 ∨ j = 2 ∨ j = 3 ∨ j = 4 by omega) with rfl | rfl | rfl | rfl | rfl <;> rfl) (by decide +kernel) (by decide +kernel) (by decide +kernel) (cwI 0 hts gX9_init_X2_init_n29 rfl rfl rfl (hts (.initialized RX2) (by decide +kernel)) (hts (.methodLink RX9 29 yX2_init) (by decide +kernel)) (hts (.instanceMethod yX2_init) (by decide +kernel)) rfl (by decide +kernel) ⟨Nat.le_of_ble_eq_true rfl, Nat.le_of_ble_eq_true rfl⟩) hl ⟨Nat.le_of_ble_eq_true rfl, Nat.le_of_ble_eq_true rfl⟩ ⟨Nat.le_of_ble_eq_true rfl, Nat.le_of_ble_eq_true rfl⟩ (Nat.le_of_ble_eq_true rfl) dX9_init_46 dX9_init_49 dX9_init_50 (fun qL1 H locs hP hD hS => ?_)
  refine W.widen (k := 52) (n := 462) (Nat.le_of_ble_eq_true rfl) (Nat.le_of_ble_eq_true rfl) ?_
  have hP : va_P D vwCl ((h0, .inr (9, [.ref (q5 0), .ref (q8 0), .ref ql, .null, .null, .null, .null, .null, .null, .null, .null, .null, .int 0, .int 0])) :: ((((uw 7 q5 (enX5 cs q5) (uf (fun _ _ => 0) 2 (upd (upd (upd (upd (fun _ => 0) 0 (-1)) 1 (-1)) 2 (-1)) 3 (-1))) ++ uw 26 q8 (enX8 cs q8) (fun _ _ => 0)) ++ [(ql, .inl (cs 3, 4, .inr (.inr (.inr (.inr (va_up (fun _ => none) (0 : Int32).toNatClampNeg (some (qL0 0))))))))]) ++ uw 9 qL0 (enX2 cs qL0) (fun _ _ => 0)) ++ uw 9 qL1 (enX2 cs qL1) (fun _ _ => 0))) H := hP
  have hD : va_D A ((h0, .inr (9, [.ref (q5 0), .ref (q8 0), .ref ql, .null, .null, .null, .null, .null, .null, .null, .null, .null, .int 0, .int 0])) :: ((((uw 7 q5 (enX5 cs q5) (uf (fun _ _ => 0) 2 (upd (upd (upd (upd (fun _ => 0) 0 (-1)) 1 (-1)) 2 (-1)) 3 (-1))) ++ uw 26 q8 (enX8 cs q8) (fun _ _ => 0)) ++ [(ql, .inl (cs 3, 4, .inr (.inr (.inr (.inr (va_up (fun _ => none) (0 : Int32).toNatClampNeg (some (qL0 0))))))))]) ++ uw 9 qL0 (enX2 cs qL0) (fun _ _ => 0)) ++ uw 9 qL1 (enX2 cs qL1) (fun _ _ => 0))) := hD
  refine va_astq (r := (RX2, TX2, 5)) hx hb hK hP hD hS 34 3 44 2 rfl rfl rfl rfl (vp_lit (by decide)) dX9_init_53 (fun H locs hP hD hS => ?_)
  have hP : va_P D vwCl ((h0, .inr (9, [.ref (q5 0), .ref (q8 0), .ref ql, .null, .null, .null, .null, .null, .null, .null, .null, .null, .int 0, .int 0])) :: ((((uw 7 q5 (enX5 cs q5) (uf (fun _ _ => 0) 2 (upd (upd (upd (upd (fun _ => 0) 0 (-1)) 1 (-1)) 2 (-1)) 3 (-1))) ++ uw 26 q8 (enX8 cs q8) (fun _ _ => 0)) ++ [(ql, .inl (cs 3, 4, .inr (.inr (.inr (.inr (va_up (va_up (fun _ => none) (0 : Int32).toNatClampNeg (some (qL0 0))) (1 : Int32).toNatClampNeg (some (qL1 0))))))))]) ++ uw 9 qL0 (enX2 cs qL0) (fun _ _ => 0)) ++ uw 9 qL1 (enX2 cs qL1) (fun _ _ => 0))) H := hP
  have hD : va_D A ((h0, .inr (9, [.ref (q5 0), .ref (q8 0), .ref ql, .null, .null, .null, .null, .null, .null, .null, .null, .null, .int 0, .int 0])) :: ((((uw 7 q5 (enX5 cs q5) (uf (fun _ _ => 0) 2 (upd (upd (upd (upd (fun _ => 0) 0 (-1)) 1 (-1)) 2 (-1)) 3 (-1))) ++ uw 26 q8 (enX8 cs q8) (fun _ _ => 0)) ++ [(ql, .inl (cs 3, 4, .inr (.inr (.inr (.inr (va_up (va_up (fun _ => none) (0 : Int32).toNatClampNeg (some (qL0 0))) (1 : Int32).toNatClampNeg (some (qL1 0))))))))]) ++ uw 9 qL0 (enX2 cs qL0) (fun _ _ => 0)) ++ uw 9 qL1 (enX2 cs qL1) (fun _ _ => 0))) := hD
  refine lv_iinc (v := 2) (lv' := [(1, .int 2), (0, .ref h0)]) hx hb dX9_init_54 hl (k := 0) rfl (by decide) (by decide) rfl (fun ls hl => ?_)
  refine lv_goto (tgt := 36) hx hb dX9_init_57 (by decide) ?_
  refine lv_iload_n hx hb dX9_init_36 rfl (lv_at hl 0 rfl) ?_
  refine lv_iconst (v := 4) hx hb dX9_init_37 (by decide) ?_
  refine lv_icmp_ge (tgt := 60) hx hb dX9_init_38 (by decide) (fun q => absurd q (by decide)) (fun _ => ?_)
  refine lv_aload_n hx hb dX9_init_41 rfl (lv_at hl 1 rfl) ?_
  refine va_get (D := D) (ci := 9) (v := .ref ql) (C := RX9) (T := TX9) (N := 14) hx hb hts (by decide +kernel) hown hK hP 0 rfl rfl 2 (by decide) (hts (.fieldLink RX9 25 "GhostSigns" "lines" "[LGhostSigns$Line;") (by decide +kernel)) (fun _ h9 => h9) rfl dX9_init_42 ?_
  refine lv_iload_n hx hb dX9_init_45 rfl (lv_at hl 0 rfl) ?_
  refine u_made (rest := [.int 2, .ref ql]) (fsd := [.null, .null, .null, .null, .int 0]) ⟨hx, hb, hml, hown, hts⟩ hK hAO hA hP hD hS (c_X2_init l D cs) (by decide) (ci := 2) (C := RX2) (T := TX2) (N := 5) rfl (by decide +kernel) tyX2 tyX2_ok (fun j hj => by rcases (show j = 0 ∨ j = 1 ∨ j = 2 ∨ j = 3 ∨ j = 4 by omega) with rfl | rfl | rfl | rfl | rfl <;> rfl) (by decide +kernel) (by decide +kernel) (by decide +kernel) (cwI 0 hts gX9_init_X2_init_n29 rfl rfl rfl (hts (.initialized RX2) (by decide +kernel)) (hts (.methodLink RX9 29 yX2_init) (by decide +kernel)) (hts (.instanceMethod yX2_init) (by decide +kernel)) rfl (by decide +kernel) ⟨Nat.le_of_ble_eq_true rfl, Nat.le_of_ble_eq_true rfl⟩) hl ⟨Nat.le_of_ble_eq_true rfl, Nat.le_of_ble_eq_true rfl⟩ ⟨Nat.le_of_ble_eq_true rfl, Nat.le_of_ble_eq_true rfl⟩ (Nat.le_of_ble_eq_true rfl) dX9_init_46 dX9_init_49 dX9_init_50 (fun qL2 H locs hP hD hS => ?_)
  refine W.widen (k := 61) (n := 520) (Nat.le_of_ble_eq_true rfl) (Nat.le_of_ble_eq_true rfl) ?_
  have hP : va_P D vwCl ((h0, .inr (9, [.ref (q5 0), .ref (q8 0), .ref ql, .null, .null, .null, .null, .null, .null, .null, .null, .null, .int 0, .int 0])) :: (((((uw 7 q5 (enX5 cs q5) (uf (fun _ _ => 0) 2 (upd (upd (upd (upd (fun _ => 0) 0 (-1)) 1 (-1)) 2 (-1)) 3 (-1))) ++ uw 26 q8 (enX8 cs q8) (fun _ _ => 0)) ++ [(ql, .inl (cs 3, 4, .inr (.inr (.inr (.inr (va_up (va_up (fun _ => none) (0 : Int32).toNatClampNeg (some (qL0 0))) (1 : Int32).toNatClampNeg (some (qL1 0))))))))]) ++ uw 9 qL0 (enX2 cs qL0) (fun _ _ => 0)) ++ uw 9 qL1 (enX2 cs qL1) (fun _ _ => 0)) ++ uw 9 qL2 (enX2 cs qL2) (fun _ _ => 0))) H := hP
  have hD : va_D A ((h0, .inr (9, [.ref (q5 0), .ref (q8 0), .ref ql, .null, .null, .null, .null, .null, .null, .null, .null, .null, .int 0, .int 0])) :: (((((uw 7 q5 (enX5 cs q5) (uf (fun _ _ => 0) 2 (upd (upd (upd (upd (fun _ => 0) 0 (-1)) 1 (-1)) 2 (-1)) 3 (-1))) ++ uw 26 q8 (enX8 cs q8) (fun _ _ => 0)) ++ [(ql, .inl (cs 3, 4, .inr (.inr (.inr (.inr (va_up (va_up (fun _ => none) (0 : Int32).toNatClampNeg (some (qL0 0))) (1 : Int32).toNatClampNeg (some (qL1 0))))))))]) ++ uw 9 qL0 (enX2 cs qL0) (fun _ _ => 0)) ++ uw 9 qL1 (enX2 cs qL1) (fun _ _ => 0)) ++ uw 9 qL2 (enX2 cs qL2) (fun _ _ => 0))) := hD
  refine va_astq (r := (RX2, TX2, 5)) hx hb hK hP hD hS 34 3 53 2 rfl rfl rfl rfl (vp_lit (by decide)) dX9_init_53 (fun H locs hP hD hS => ?_)
  have hP : va_P D vwCl ((h0, .inr (9, [.ref (q5 0), .ref (q8 0), .ref ql, .null, .null, .null, .null, .null, .null, .null, .null, .null, .int 0, .int 0])) :: (((((uw 7 q5 (enX5 cs q5) (uf (fun _ _ => 0) 2 (upd (upd (upd (upd (fun _ => 0) 0 (-1)) 1 (-1)) 2 (-1)) 3 (-1))) ++ uw 26 q8 (enX8 cs q8) (fun _ _ => 0)) ++ [(ql, .inl (cs 3, 4, .inr (.inr (.inr (.inr (va_up (va_up (va_up (fun _ => none) (0 : Int32).toNatClampNeg (some (qL0 0))) (1 : Int32).toNatClampNeg (some (qL1 0))) (2 : Int32).toNatClampNeg (some (qL2 0))))))))]) ++ uw 9 qL0 (enX2 cs qL0) (fun _ _ => 0)) ++ uw 9 qL1 (enX2 cs qL1) (fun _ _ => 0)) ++ uw 9 qL2 (enX2 cs qL2) (fun _ _ => 0))) H := hP
  have hD : va_D A ((h0, .inr (9, [.ref (q5 0), .ref (q8 0), .ref ql, .null, .null, .null, .null, .null, .null, .null, .null, .null, .int 0, .int 0])) :: (((((uw 7 q5 (enX5 cs q5) (uf (fun _ _ => 0) 2 (upd (upd (upd (upd (fun _ => 0) 0 (-1)) 1 (-1)) 2 (-1)) 3 (-1))) ++ uw 26 q8 (enX8 cs q8) (fun _ _ => 0)) ++ [(ql, .inl (cs 3, 4, .inr (.inr (.inr (.inr (va_up (va_up (va_up (fun _ => none) (0 : Int32).toNatClampNeg (some (qL0 0))) (1 : Int32).toNatClampNeg (some (qL1 0))) (2 : Int32).toNatClampNeg (some (qL2 0))))))))]) ++ uw 9 qL0 (enX2 cs qL0) (fun _ _ => 0)) ++ uw 9 qL1 (enX2 cs qL1) (fun _ _ => 0)) ++ uw 9 qL2 (enX2 cs qL2) (fun _ _ => 0))) := hD
  refine lv_iinc (v := 3) (lv' := [(1, .int 3), (0, .ref h0)]) hx hb dX9_init_54 hl (k := 0) rfl (by decide) (by decide) rfl (fun ls hl => ?_)
  refine lv_goto (tgt := 36) hx hb dX9_init_57 (by decide) ?_
  refine lv_iload_n hx hb dX9_init_36 rfl (lv_at hl 0 rfl) ?_
  refine lv_iconst (v := 4) hx hb dX9_init_37 (by decide) ?_
  refine lv_icmp_ge (tgt := 60) hx hb dX9_init_38 (by decide) (fun q => absurd q (by decide)) (fun _ => ?_)
  refine lv_aload_n hx hb dX9_init_41 rfl (lv_at hl 1 rfl) ?_
  refine va_get (D := D) (ci := 9) (v := .ref ql) (C := RX9) (T := TX9) (N := 14) hx hb hts (by decide +kernel) hown hK hP 0 rfl rfl 2 (by decide) (hts (.fieldLink RX9 25 "GhostSigns" "lines" "[LGhostSigns$Line;") (by decide +kernel)) (fun _ h9 => h9) rfl dX9_init_42 ?_
  refine lv_iload_n hx hb dX9_init_45 rfl (lv_at hl 0 rfl) ?_
  refine u_made (rest := [.int 3, .ref ql]) (fsd := [.null, .null, .null, .null, .int 0]) ⟨hx, hb, hml, hown, hts⟩ hK hAO hA hP hD hS (c_X2_init l D cs) (by decide) (ci := 2) (C := RX2) (T := TX2) (N := 5) rfl (by decide +kernel) tyX2 tyX2_ok (fun j hj => by rcases (show j = 0 ∨ j = 1 ∨ j = 2 ∨ j = 3 ∨ j = 4 by omega) with rfl | rfl | rfl | rfl | rfl <;> rfl) (by decide +kernel) (by decide +kernel) (by decide +kernel) (cwI 0 hts gX9_init_X2_init_n29 rfl rfl rfl (hts (.initialized RX2) (by decide +kernel)) (hts (.methodLink RX9 29 yX2_init) (by decide +kernel)) (hts (.instanceMethod yX2_init) (by decide +kernel)) rfl (by decide +kernel) ⟨Nat.le_of_ble_eq_true rfl, Nat.le_of_ble_eq_true rfl⟩) hl ⟨Nat.le_of_ble_eq_true rfl, Nat.le_of_ble_eq_true rfl⟩ ⟨Nat.le_of_ble_eq_true rfl, Nat.le_of_ble_eq_true rfl⟩ (Nat.le_of_ble_eq_true rfl) dX9_init_46 dX9_init_49 dX9_init_50 (fun qL3 H locs hP hD hS => ?_)
  refine W.widen (k := 70) (n := 578) (Nat.le_of_ble_eq_true rfl) (Nat.le_of_ble_eq_true rfl) ?_
  have hP : va_P D vwCl ((h0, .inr (9, [.ref (q5 0), .ref (q8 0), .ref ql, .null, .null, .null, .null, .null, .null, .null, .null, .null, .int 0, .int 0])) :: ((((((uw 7 q5 (enX5 cs q5) (uf (fun _ _ => 0) 2 (upd (upd (upd (upd (fun _ => 0) 0 (-1)) 1 (-1)) 2 (-1)) 3 (-1))) ++ uw 26 q8 (enX8 cs q8) (fun _ _ => 0)) ++ [(ql, .inl (cs 3, 4, .inr (.inr (.inr (.inr (va_up (va_up (va_up (fun _ => none) (0 : Int32).toNatClampNeg (some (qL0 0))) (1 : Int32).toNatClampNeg (some (qL1 0))) (2 : Int32).toNatClampNeg (some (qL2 0))))))))]) ++ uw 9 qL0 (enX2 cs qL0) (fun _ _ => 0)) ++ uw 9 qL1 (enX2 cs qL1) (fun _ _ => 0)) ++ uw 9 qL2 (enX2 cs qL2) (fun _ _ => 0)) ++ uw 9 qL3 (enX2 cs qL3) (fun _ _ => 0))) H := hP
  have hD : va_D A ((h0, .inr (9, [.ref (q5 0), .ref (q8 0), .ref ql, .null, .null, .null, .null, .null, .null, .null, .null, .null, .int 0, .int 0])) :: ((((((uw 7 q5 (enX5 cs q5) (uf (fun _ _ => 0) 2 (upd (upd (upd (upd (fun _ => 0) 0 (-1)) 1 (-1)) 2 (-1)) 3 (-1))) ++ uw 26 q8 (enX8 cs q8) (fun _ _ => 0)) ++ [(ql, .inl (cs 3, 4, .inr (.inr (.inr (.inr (va_up (va_up (va_up (fun _ => none) (0 : Int32).toNatClampNeg (some (qL0 0))) (1 : Int32).toNatClampNeg (some (qL1 0))) (2 : Int32).toNatClampNeg (some (qL2 0))))))))]) ++ uw 9 qL0 (enX2 cs qL0) (fun _ _ => 0)) ++ uw 9 qL1 (enX2 cs qL1) (fun _ _ => 0)) ++ uw 9 qL2 (enX2 cs qL2) (fun _ _ => 0)) ++ uw 9 qL3 (enX2 cs qL3) (fun _ _ => 0))) := hD
  refine va_astq (r := (RX2, TX2, 5)) hx hb hK hP hD hS 34 3 62 2 rfl rfl rfl rfl (vp_lit (by decide)) dX9_init_53 (fun H locs hP hD hS => ?_)
  have hP : va_P D vwCl ((h0, .inr (9, [.ref (q5 0), .ref (q8 0), .ref ql, .null, .null, .null, .null, .null, .null, .null, .null, .null, .int 0, .int 0])) :: ((((((uw 7 q5 (enX5 cs q5) (uf (fun _ _ => 0) 2 (upd (upd (upd (upd (fun _ => 0) 0 (-1)) 1 (-1)) 2 (-1)) 3 (-1))) ++ uw 26 q8 (enX8 cs q8) (fun _ _ => 0)) ++ [(ql, .inl (cs 3, 4, .inr (.inr (.inr (.inr (va_up (va_up (va_up (va_up (fun _ => none) (0 : Int32).toNatClampNeg (some (qL0 0))) (1 : Int32).toNatClampNeg (some (qL1 0))) (2 : Int32).toNatClampNeg (some (qL2 0))) (3 : Int32).toNatClampNeg (some (qL3 0))))))))]) ++ uw 9 qL0 (enX2 cs qL0) (fun _ _ => 0)) ++ uw 9 qL1 (enX2 cs qL1) (fun _ _ => 0)) ++ uw 9 qL2 (enX2 cs qL2) (fun _ _ => 0)) ++ uw 9 qL3 (enX2 cs qL3) (fun _ _ => 0))) H := hP
  have hD : va_D A ((h0, .inr (9, [.ref (q5 0), .ref (q8 0), .ref ql, .null, .null, .null, .null, .null, .null, .null, .null, .null, .int 0, .int 0])) :: ((((((uw 7 q5 (enX5 cs q5) (uf (fun _ _ => 0) 2 (upd (upd (upd (upd (fun _ => 0) 0 (-1)) 1 (-1)) 2 (-1)) 3 (-1))) ++ uw 26 q8 (enX8 cs q8) (fun _ _ => 0)) ++ [(ql, .inl (cs 3, 4, .inr (.inr (.inr (.inr (va_up (va_up (va_up (va_up (fun _ => none) (0 : Int32).toNatClampNeg (some (qL0 0))) (1 : Int32).toNatClampNeg (some (qL1 0))) (2 : Int32).toNatClampNeg (some (qL2 0))) (3 : Int32).toNatClampNeg (some (qL3 0))))))))]) ++ uw 9 qL0 (enX2 cs qL0) (fun _ _ => 0)) ++ uw 9 qL1 (enX2 cs qL1) (fun _ _ => 0)) ++ uw 9 qL2 (enX2 cs qL2) (fun _ _ => 0)) ++ uw 9 qL3 (enX2 cs qL3) (fun _ _ => 0))) := hD
  refine lv_iinc (v := 4) (lv' := [(1, .int 4), (0, .ref h0)]) hx hb dX9_init_54 hl (k := 0) rfl (by decide) (by decide) rfl (fun ls hl => ?_)
  refine lv_goto (tgt := 36) hx hb dX9_init_57 (by decide) ?_
  refine lv_iload_n hx hb dX9_init_36 rfl (lv_at hl 0 rfl) ?_
  refine lv_iconst (v := 4) hx hb dX9_init_37 (by decide) ?_
  refine lv_icmp_ge (tgt := 60) hx hb dX9_init_38 (by decide) (fun _ => ?_) (fun q => absurd q (by decide))
  refine lv_aload_n hx hb dX9_init_60 rfl (lv_at hl 1 rfl) ?_
  refine u_made (rest := [.ref h0]) (fsd := [.null, .null, .null, .int 0, .int 0, .int 0]) ⟨hx, hb, hml, hown, hts⟩ hK hAO hA hP hD hS (c_X6_init l D cs) (by decide) (ci := 6) (C := RX6) (T := TX6) (N := 6) rfl (by decide +kernel) tyX6 tyX6_ok (fun j hj => by rcases (show j = 0 ∨ j = 1 ∨ j = 2 ∨ j = 3 ∨ j = 4 ∨ j = 5 by omega) with rfl | rfl | rfl | rfl | rfl | rfl <;> rfl) (by decide +kernel) (by decide +kernel) (by decide +kernel) (cwI 0 hts gX9_init_X6_init_n32 rfl rfl rfl (hts (.initialized RX6) (by decide +kernel)) (hts (.methodLink RX9 32 yX6_init) (by decide +kernel)) (hts (.instanceMethod yX6_init) (by decide +kernel)) rfl (by decide +kernel) ⟨Nat.le_of_ble_eq_true rfl, Nat.le_of_ble_eq_true rfl⟩) hl ⟨Nat.le_of_ble_eq_true rfl, Nat.le_of_ble_eq_true rfl⟩ ⟨Nat.le_of_ble_eq_true rfl, Nat.le_of_ble_eq_true rfl⟩ (Nat.le_of_ble_eq_true rfl) dX9_init_61 dX9_init_64 dX9_init_65 (fun q6 H locs hP hD hS => ?_)
  refine W.widen (k := 74) (n := 608) (Nat.le_of_ble_eq_true rfl) (Nat.le_of_ble_eq_true rfl) ?_
  have hP : va_P D vwCl ((h0, .inr (9, [.ref (q5 0), .ref (q8 0), .ref ql, .null, .null, .null, .null, .null, .null, .null, .null, .null, .int 0, .int 0])) :: (((((((uw 7 q5 (enX5 cs q5) (uf (fun _ _ => 0) 2 (upd (upd (upd (upd (fun _ => 0) 0 (-1)) 1 (-1)) 2 (-1)) 3 (-1))) ++ uw 26 q8 (enX8 cs q8) (fun _ _ => 0)) ++ [(ql, .inl (cs 3, 4, .inr (.inr (.inr (.inr (va_up (va_up (va_up (va_up (fun _ => none) (0 : Int32).toNatClampNeg (some (qL0 0))) (1 : Int32).toNatClampNeg (some (qL1 0))) (2 : Int32).toNatClampNeg (some (qL2 0))) (3 : Int32).toNatClampNeg (some (qL3 0))))))))]) ++ uw 9 qL0 (enX2 cs qL0) (fun _ _ => 0)) ++ uw 9 qL1 (enX2 cs qL1) (fun _ _ => 0)) ++ uw 9 qL2 (enX2 cs qL2) (fun _ _ => 0)) ++ uw 9 qL3 (enX2 cs qL3) (fun _ _ => 0)) ++ uw 4 q6 (enX6 cs q6) (us (us (fun _ _ => 0) 0 4 1) 0 5 1900))) H := hP
  have hD : va_D A ((h0, .inr (9, [.ref (q5 0), .ref (q8 0), .ref ql, .null, .null, .null, .null, .null, .null, .null, .null, .null, .int 0, .int 0])) :: (((((((uw 7 q5 (enX5 cs q5) (uf (fun _ _ => 0) 2 (upd (upd (upd (upd (fun _ => 0) 0 (-1)) 1 (-1)) 2 (-1)) 3 (-1))) ++ uw 26 q8 (enX8 cs q8) (fun _ _ => 0)) ++ [(ql, .inl (cs 3, 4, .inr (.inr (.inr (.inr (va_up (va_up (va_up (va_up (fun _ => none) (0 : Int32).toNatClampNeg (some (qL0 0))) (1 : Int32).toNatClampNeg (some (qL1 0))) (2 : Int32).toNatClampNeg (some (qL2 0))) (3 : Int32).toNatClampNeg (some (qL3 0))))))))]) ++ uw 9 qL0 (enX2 cs qL0) (fun _ _ => 0)) ++ uw 9 qL1 (enX2 cs qL1) (fun _ _ => 0)) ++ uw 9 qL2 (enX2 cs qL2) (fun _ _ => 0)) ++ uw 9 qL3 (enX2 cs qL3) (fun _ _ => 0)) ++ uw 4 q6 (enX6 cs q6) (us (us (fun _ _ => 0) 0 4 1) 0 5 1900))) := hD
  refine va_putF (D := D) (ci := 9) (v := .ref (q6 0)) (ty := (tyX9 3)) (C := RX9) (T := TX9) (N := 14) hx hb hts (by decide +kernel) tyX9 tyX9_ok nmX9 hown hK hP hD hS 0 rfl rfl 3 (by decide) (hts (.fieldLink RX9 33 "GhostSigns" "street" "LGhostSigns$Street;") (by decide +kernel)) (fun _ h9 => h9) rfl hin rfl (by decide +kernel) rfl rfl (Nat.le_of_ble_eq_true rfl) dX9_init_68 (fun H locs hP hD hS => ?_)
  have hP : va_P D vwCl ((h0, .inr (9, [.ref (q5 0), .ref (q8 0), .ref ql, .ref (q6 0), .null, .null, .null, .null, .null, .null, .null, .null, .int 0, .int 0])) :: (((((((uw 7 q5 (enX5 cs q5) (uf (fun _ _ => 0) 2 (upd (upd (upd (upd (fun _ => 0) 0 (-1)) 1 (-1)) 2 (-1)) 3 (-1))) ++ uw 26 q8 (enX8 cs q8) (fun _ _ => 0)) ++ [(ql, .inl (cs 3, 4, .inr (.inr (.inr (.inr (va_up (va_up (va_up (va_up (fun _ => none) (0 : Int32).toNatClampNeg (some (qL0 0))) (1 : Int32).toNatClampNeg (some (qL1 0))) (2 : Int32).toNatClampNeg (some (qL2 0))) (3 : Int32).toNatClampNeg (some (qL3 0))))))))]) ++ uw 9 qL0 (enX2 cs qL0) (fun _ _ => 0)) ++ uw 9 qL1 (enX2 cs qL1) (fun _ _ => 0)) ++ uw 9 qL2 (enX2 cs qL2) (fun _ _ => 0)) ++ uw 9 qL3 (enX2 cs qL3) (fun _ _ => 0)) ++ uw 4 q6 (enX6 cs q6) (us (us (fun _ _ => 0) 0 4 1) 0 5 1900))) H := hP
  have hD : va_D A ((h0, .inr (9, [.ref (q5 0), .ref (q8 0), .ref ql, .ref (q6 0), .null, .null, .null, .null, .null, .null, .null, .null, .int 0, .int 0])) :: (((((((uw 7 q5 (enX5 cs q5) (uf (fun _ _ => 0) 2 (upd (upd (upd (upd (fun _ => 0) 0 (-1)) 1 (-1)) 2 (-1)) 3 (-1))) ++ uw 26 q8 (enX8 cs q8) (fun _ _ => 0)) ++ [(ql, .inl (cs 3, 4, .inr (.inr (.inr (.inr (va_up (va_up (va_up (va_up (fun _ => none) (0 : Int32).toNatClampNeg (some (qL0 0))) (1 : Int32).toNatClampNeg (some (qL1 0))) (2 : Int32).toNatClampNeg (some (qL2 0))) (3 : Int32).toNatClampNeg (some (qL3 0))))))))]) ++ uw 9 qL0 (enX2 cs qL0) (fun _ _ => 0)) ++ uw 9 qL1 (enX2 cs qL1) (fun _ _ => 0)) ++ uw 9 qL2 (enX2 cs qL2) (fun _ _ => 0)) ++ uw 9 qL3 (enX2 cs qL3) (fun _ _ => 0)) ++ uw 4 q6 (enX6 cs q6) (us (us (fun _ _ => 0) 0 4 1) 0 5 1900))) := hD
  refine lv_aload_n hx hb dX9_init_71 rfl (lv_at hl 1 rfl) ?_
  refine u_made (rest := [.ref h0]) (fsd := [.null, .null, .null, .null, .int 0]) ⟨hx, hb, hml, hown, hts⟩ hK hAO hA hP hD hS (c_X1_init l D cs) (by decide) (ci := 1) (C := RX1) (T := TX1) (N := 5) rfl (by decide +kernel) tyX1 tyX1_ok (fun j hj => by rcases (show j = 0 ∨ j = 1 ∨ j = 2 ∨ j = 3 ∨ j = 4 by omega) with rfl | rfl | rfl | rfl | rfl <;> rfl) (by decide +kernel) (by decide +kernel) (by decide +kernel) (cwI 0 hts gX9_init_X1_init_n39 rfl rfl rfl (hts (.initialized RX1) (by decide +kernel)) (hts (.methodLink RX9 39 yX1_init) (by decide +kernel)) (hts (.instanceMethod yX1_init) (by decide +kernel)) rfl (by decide +kernel) ⟨Nat.le_of_ble_eq_true rfl, Nat.le_of_ble_eq_true rfl⟩) hl ⟨Nat.le_of_ble_eq_true rfl, Nat.le_of_ble_eq_true rfl⟩ ⟨Nat.le_of_ble_eq_true rfl, Nat.le_of_ble_eq_true rfl⟩ (Nat.le_of_ble_eq_true rfl) dX9_init_72 dX9_init_75 dX9_init_76 (fun q1 H locs hP hD hS => ?_)
  refine W.widen (k := 79) (n := 733) (Nat.le_of_ble_eq_true rfl) (Nat.le_of_ble_eq_true rfl) ?_
  have hP : va_P D vwCl ((h0, .inr (9, [.ref (q5 0), .ref (q8 0), .ref ql, .ref (q6 0), .null, .null, .null, .null, .null, .null, .null, .null, .int 0, .int 0])) :: ((((((((uw 7 q5 (enX5 cs q5) (uf (fun _ _ => 0) 2 (upd (upd (upd (upd (fun _ => 0) 0 (-1)) 1 (-1)) 2 (-1)) 3 (-1))) ++ uw 26 q8 (enX8 cs q8) (fun _ _ => 0)) ++ [(ql, .inl (cs 3, 4, .inr (.inr (.inr (.inr (va_up (va_up (va_up (va_up (fun _ => none) (0 : Int32).toNatClampNeg (some (qL0 0))) (1 : Int32).toNatClampNeg (some (qL1 0))) (2 : Int32).toNatClampNeg (some (qL2 0))) (3 : Int32).toNatClampNeg (some (qL3 0))))))))]) ++ uw 9 qL0 (enX2 cs qL0) (fun _ _ => 0)) ++ uw 9 qL1 (enX2 cs qL1) (fun _ _ => 0)) ++ uw 9 qL2 (enX2 cs qL2) (fun _ _ => 0)) ++ uw 9 qL3 (enX2 cs qL3) (fun _ _ => 0)) ++ uw 4 q6 (enX6 cs q6) (us (us (fun _ _ => 0) 0 4 1) 0 5 1900)) ++ uw 5 q1 (enX1 cs q1) (fun _ _ => 0))) H := hP
  have hD : va_D A ((h0, .inr (9, [.ref (q5 0), .ref (q8 0), .ref ql, .ref (q6 0), .null, .null, .null, .null, .null, .null, .null, .null, .int 0, .int 0])) :: ((((((((uw 7 q5 (enX5 cs q5) (uf (fun _ _ => 0) 2 (upd (upd (upd (upd (fun _ => 0) 0 (-1)) 1 (-1)) 2 (-1)) 3 (-1))) ++ uw 26 q8 (enX8 cs q8) (fun _ _ => 0)) ++ [(ql, .inl (cs 3, 4, .inr (.inr (.inr (.inr (va_up (va_up (va_up (va_up (fun _ => none) (0 : Int32).toNatClampNeg (some (qL0 0))) (1 : Int32).toNatClampNeg (some (qL1 0))) (2 : Int32).toNatClampNeg (some (qL2 0))) (3 : Int32).toNatClampNeg (some (qL3 0))))))))]) ++ uw 9 qL0 (enX2 cs qL0) (fun _ _ => 0)) ++ uw 9 qL1 (enX2 cs qL1) (fun _ _ => 0)) ++ uw 9 qL2 (enX2 cs qL2) (fun _ _ => 0)) ++ uw 9 qL3 (enX2 cs qL3) (fun _ _ => 0)) ++ uw 4 q6 (enX6 cs q6) (us (us (fun _ _ => 0) 0 4 1) 0 5 1900)) ++ uw 5 q1 (enX1 cs q1) (fun _ _ => 0))) := hD
  refine va_putF (D := D) (ci := 9) (v := .ref (q1 0)) (ty := (tyX9 4)) (C := RX9) (T := TX9) (N := 14) hx hb hts (by decide +kernel) tyX9 tyX9_ok nmX9 hown hK hP hD hS 0 rfl rfl 4 (by decide) (hts (.fieldLink RX9 40 "GhostSigns" "lights" "LGhostSigns$Lights;") (by decide +kernel)) (fun _ h9 => h9) rfl hin rfl (by decide +kernel) rfl rfl (Nat.le_of_ble_eq_true rfl) dX9_init_79 (fun H locs hP hD hS => ?_)
  have hP : va_P D vwCl ((h0, .inr (9, [.ref (q5 0), .ref (q8 0), .ref ql, .ref (q6 0), .ref (q1 0), .null, .null, .null, .null, .null, .null, .null, .int 0, .int 0])) :: ((((((((uw 7 q5 (enX5 cs q5) (uf (fun _ _ => 0) 2 (upd (upd (upd (upd (fun _ => 0) 0 (-1)) 1 (-1)) 2 (-1)) 3 (-1))) ++ uw 26 q8 (enX8 cs q8) (fun _ _ => 0)) ++ [(ql, .inl (cs 3, 4, .inr (.inr (.inr (.inr (va_up (va_up (va_up (va_up (fun _ => none) (0 : Int32).toNatClampNeg (some (qL0 0))) (1 : Int32).toNatClampNeg (some (qL1 0))) (2 : Int32).toNatClampNeg (some (qL2 0))) (3 : Int32).toNatClampNeg (some (qL3 0))))))))]) ++ uw 9 qL0 (enX2 cs qL0) (fun _ _ => 0)) ++ uw 9 qL1 (enX2 cs qL1) (fun _ _ => 0)) ++ uw 9 qL2 (enX2 cs qL2) (fun _ _ => 0)) ++ uw 9 qL3 (enX2 cs qL3) (fun _ _ => 0)) ++ uw 4 q6 (enX6 cs q6) (us (us (fun _ _ => 0) 0 4 1) 0 5 1900)) ++ uw 5 q1 (enX1 cs q1) (fun _ _ => 0))) H := hP
  have hD : va_D A ((h0, .inr (9, [.ref (q5 0), .ref (q8 0), .ref ql, .ref (q6 0), .ref (q1 0), .null, .null, .null, .null, .null, .null, .null, .int 0, .int 0])) :: ((((((((uw 7 q5 (enX5 cs q5) (uf (fun _ _ => 0) 2 (upd (upd (upd (upd (fun _ => 0) 0 (-1)) 1 (-1)) 2 (-1)) 3 (-1))) ++ uw 26 q8 (enX8 cs q8) (fun _ _ => 0)) ++ [(ql, .inl (cs 3, 4, .inr (.inr (.inr (.inr (va_up (va_up (va_up (va_up (fun _ => none) (0 : Int32).toNatClampNeg (some (qL0 0))) (1 : Int32).toNatClampNeg (some (qL1 0))) (2 : Int32).toNatClampNeg (some (qL2 0))) (3 : Int32).toNatClampNeg (some (qL3 0))))))))]) ++ uw 9 qL0 (enX2 cs qL0) (fun _ _ => 0)) ++ uw 9 qL1 (enX2 cs qL1) (fun _ _ => 0)) ++ uw 9 qL2 (enX2 cs qL2) (fun _ _ => 0)) ++ uw 9 qL3 (enX2 cs qL3) (fun _ _ => 0)) ++ uw 4 q6 (enX6 cs q6) (us (us (fun _ _ => 0) 0 4 1) 0 5 1900)) ++ uw 5 q1 (enX1 cs q1) (fun _ _ => 0))) := hD
  refine lv_aload_n hx hb dX9_init_82 rfl (lv_at hl 1 rfl) ?_
  refine u_made (rest := [.ref h0]) (fsd := [.null, .null, .int 0]) ⟨hx, hb, hml, hown, hts⟩ hK hAO hA hP hD hS (c_X0_init l D cs) (by decide) (ci := 0) (C := RX0) (T := TX0) (N := 3) rfl (by decide +kernel) tyX0 tyX0_ok (fun j hj => by rcases (show j = 0 ∨ j = 1 ∨ j = 2 by omega) with rfl | rfl | rfl <;> rfl) (by decide +kernel) (by decide +kernel) (by decide +kernel) (cwI 0 hts gX9_init_X0_init_n46 rfl rfl rfl (hts (.initialized RX0) (by decide +kernel)) (hts (.methodLink RX9 46 yX0_init) (by decide +kernel)) (hts (.instanceMethod yX0_init) (by decide +kernel)) rfl (by decide +kernel) ⟨Nat.le_of_ble_eq_true rfl, Nat.le_of_ble_eq_true rfl⟩) hl ⟨Nat.le_of_ble_eq_true rfl, Nat.le_of_ble_eq_true rfl⟩ ⟨Nat.le_of_ble_eq_true rfl, Nat.le_of_ble_eq_true rfl⟩ (Nat.le_of_ble_eq_true rfl) dX9_init_83 dX9_init_86 dX9_init_87 (fun q0 H locs hP hD hS => ?_)
  refine W.widen (k := 82) (n := 760) (Nat.le_of_ble_eq_true rfl) (Nat.le_of_ble_eq_true rfl) ?_
  have hP : va_P D vwCl ((h0, .inr (9, [.ref (q5 0), .ref (q8 0), .ref ql, .ref (q6 0), .ref (q1 0), .null, .null, .null, .null, .null, .null, .null, .int 0, .int 0])) :: (((((((((uw 7 q5 (enX5 cs q5) (uf (fun _ _ => 0) 2 (upd (upd (upd (upd (fun _ => 0) 0 (-1)) 1 (-1)) 2 (-1)) 3 (-1))) ++ uw 26 q8 (enX8 cs q8) (fun _ _ => 0)) ++ [(ql, .inl (cs 3, 4, .inr (.inr (.inr (.inr (va_up (va_up (va_up (va_up (fun _ => none) (0 : Int32).toNatClampNeg (some (qL0 0))) (1 : Int32).toNatClampNeg (some (qL1 0))) (2 : Int32).toNatClampNeg (some (qL2 0))) (3 : Int32).toNatClampNeg (some (qL3 0))))))))]) ++ uw 9 qL0 (enX2 cs qL0) (fun _ _ => 0)) ++ uw 9 qL1 (enX2 cs qL1) (fun _ _ => 0)) ++ uw 9 qL2 (enX2 cs qL2) (fun _ _ => 0)) ++ uw 9 qL3 (enX2 cs qL3) (fun _ _ => 0)) ++ uw 4 q6 (enX6 cs q6) (us (us (fun _ _ => 0) 0 4 1) 0 5 1900)) ++ uw 5 q1 (enX1 cs q1) (fun _ _ => 0)) ++ uw 3 q0 (enX0 cs q0) (fun _ _ => 0))) H := hP
  have hD : va_D A ((h0, .inr (9, [.ref (q5 0), .ref (q8 0), .ref ql, .ref (q6 0), .ref (q1 0), .null, .null, .null, .null, .null, .null, .null, .int 0, .int 0])) :: (((((((((uw 7 q5 (enX5 cs q5) (uf (fun _ _ => 0) 2 (upd (upd (upd (upd (fun _ => 0) 0 (-1)) 1 (-1)) 2 (-1)) 3 (-1))) ++ uw 26 q8 (enX8 cs q8) (fun _ _ => 0)) ++ [(ql, .inl (cs 3, 4, .inr (.inr (.inr (.inr (va_up (va_up (va_up (va_up (fun _ => none) (0 : Int32).toNatClampNeg (some (qL0 0))) (1 : Int32).toNatClampNeg (some (qL1 0))) (2 : Int32).toNatClampNeg (some (qL2 0))) (3 : Int32).toNatClampNeg (some (qL3 0))))))))]) ++ uw 9 qL0 (enX2 cs qL0) (fun _ _ => 0)) ++ uw 9 qL1 (enX2 cs qL1) (fun _ _ => 0)) ++ uw 9 qL2 (enX2 cs qL2) (fun _ _ => 0)) ++ uw 9 qL3 (enX2 cs qL3) (fun _ _ => 0)) ++ uw 4 q6 (enX6 cs q6) (us (us (fun _ _ => 0) 0 4 1) 0 5 1900)) ++ uw 5 q1 (enX1 cs q1) (fun _ _ => 0)) ++ uw 3 q0 (enX0 cs q0) (fun _ _ => 0))) := hD
  refine va_putF (D := D) (ci := 9) (v := .ref (q0 0)) (ty := (tyX9 5)) (C := RX9) (T := TX9) (N := 14) hx hb hts (by decide +kernel) tyX9 tyX9_ok nmX9 hown hK hP hD hS 0 rfl rfl 5 (by decide) (hts (.fieldLink RX9 47 "GhostSigns" "hands" "LGhostSigns$Hands;") (by decide +kernel)) (fun _ h9 => h9) rfl hin rfl (by decide +kernel) rfl rfl (Nat.le_of_ble_eq_true rfl) dX9_init_90 (fun H locs hP hD hS => ?_)
  have hP : va_P D vwCl ((h0, .inr (9, [.ref (q5 0), .ref (q8 0), .ref ql, .ref (q6 0), .ref (q1 0), .ref (q0 0), .null, .null, .null, .null, .null, .null, .int 0, .int 0])) :: (((((((((uw 7 q5 (enX5 cs q5) (uf (fun _ _ => 0) 2 (upd (upd (upd (upd (fun _ => 0) 0 (-1)) 1 (-1)) 2 (-1)) 3 (-1))) ++ uw 26 q8 (enX8 cs q8) (fun _ _ => 0)) ++ [(ql, .inl (cs 3, 4, .inr (.inr (.inr (.inr (va_up (va_up (va_up (va_up (fun _ => none) (0 : Int32).toNatClampNeg (some (qL0 0))) (1 : Int32).toNatClampNeg (some (qL1 0))) (2 : Int32).toNatClampNeg (some (qL2 0))) (3 : Int32).toNatClampNeg (some (qL3 0))))))))]) ++ uw 9 qL0 (enX2 cs qL0) (fun _ _ => 0)) ++ uw 9 qL1 (enX2 cs qL1) (fun _ _ => 0)) ++ uw 9 qL2 (enX2 cs qL2) (fun _ _ => 0)) ++ uw 9 qL3 (enX2 cs qL3) (fun _ _ => 0)) ++ uw 4 q6 (enX6 cs q6) (us (us (fun _ _ => 0) 0 4 1) 0 5 1900)) ++ uw 5 q1 (enX1 cs q1) (fun _ _ => 0)) ++ uw 3 q0 (enX0 cs q0) (fun _ _ => 0))) H := hP
  have hD : va_D A ((h0, .inr (9, [.ref (q5 0), .ref (q8 0), .ref ql, .ref (q6 0), .ref (q1 0), .ref (q0 0), .null, .null, .null, .null, .null, .null, .int 0, .int 0])) :: (((((((((uw 7 q5 (enX5 cs q5) (uf (fun _ _ => 0) 2 (upd (upd (upd (upd (fun _ => 0) 0 (-1)) 1 (-1)) 2 (-1)) 3 (-1))) ++ uw 26 q8 (enX8 cs q8) (fun _ _ => 0)) ++ [(ql, .inl (cs 3, 4, .inr (.inr (.inr (.inr (va_up (va_up (va_up (va_up (fun _ => none) (0 : Int32).toNatClampNeg (some (qL0 0))) (1 : Int32).toNatClampNeg (some (qL1 0))) (2 : Int32).toNatClampNeg (some (qL2 0))) (3 : Int32).toNatClampNeg (some (qL3 0))))))))]) ++ uw 9 qL0 (enX2 cs qL0) (fun _ _ => 0)) ++ uw 9 qL1 (enX2 cs qL1) (fun _ _ => 0)) ++ uw 9 qL2 (enX2 cs qL2) (fun _ _ => 0)) ++ uw 9 qL3 (enX2 cs qL3) (fun _ _ => 0)) ++ uw 4 q6 (enX6 cs q6) (us (us (fun _ _ => 0) 0 4 1) 0 5 1900)) ++ uw 5 q1 (enX1 cs q1) (fun _ _ => 0)) ++ uw 3 q0 (enX0 cs q0) (fun _ _ => 0))) := hD
  refine lv_aload_n hx hb dX9_init_93 rfl (lv_at hl 1 rfl) ?_
  refine u_made (rest := [.ref h0]) (fsd := [.null, .null, .int 0, .int 0]) ⟨hx, hb, hml, hown, hts⟩ hK hAO hA hP hD hS (c_X7_init l D cs) (by decide) (ci := 7) (C := RX7) (T := TX7) (N := 4) rfl (by decide +kernel) tyX7 tyX7_ok (fun j hj => by rcases (show j = 0 ∨ j = 1 ∨ j = 2 ∨ j = 3 by omega) with rfl | rfl | rfl | rfl <;> rfl) (by decide +kernel) (by decide +kernel) (by decide +kernel) (cwI 0 hts gX9_init_X7_init_n53 rfl rfl rfl (hts (.initialized RX7) (by decide +kernel)) (hts (.methodLink RX9 53 yX7_init) (by decide +kernel)) (hts (.instanceMethod yX7_init) (by decide +kernel)) rfl (by decide +kernel) ⟨Nat.le_of_ble_eq_true rfl, Nat.le_of_ble_eq_true rfl⟩) hl ⟨Nat.le_of_ble_eq_true rfl, Nat.le_of_ble_eq_true rfl⟩ ⟨Nat.le_of_ble_eq_true rfl, Nat.le_of_ble_eq_true rfl⟩ (Nat.le_of_ble_eq_true rfl) dX9_init_94 dX9_init_97 dX9_init_98 (fun q7 H locs hP hD hS => ?_)
  refine W.widen (k := 85) (n := 788) (Nat.le_of_ble_eq_true rfl) (Nat.le_of_ble_eq_true rfl) ?_
  have hP : va_P D vwCl ((h0, .inr (9, [.ref (q5 0), .ref (q8 0), .ref ql, .ref (q6 0), .ref (q1 0), .ref (q0 0), .null, .null, .null, .null, .null, .null, .int 0, .int 0])) :: ((((((((((uw 7 q5 (enX5 cs q5) (uf (fun _ _ => 0) 2 (upd (upd (upd (upd (fun _ => 0) 0 (-1)) 1 (-1)) 2 (-1)) 3 (-1))) ++ uw 26 q8 (enX8 cs q8) (fun _ _ => 0)) ++ [(ql, .inl (cs 3, 4, .inr (.inr (.inr (.inr (va_up (va_up (va_up (va_up (fun _ => none) (0 : Int32).toNatClampNeg (some (qL0 0))) (1 : Int32).toNatClampNeg (some (qL1 0))) (2 : Int32).toNatClampNeg (some (qL2 0))) (3 : Int32).toNatClampNeg (some (qL3 0))))))))]) ++ uw 9 qL0 (enX2 cs qL0) (fun _ _ => 0)) ++ uw 9 qL1 (enX2 cs qL1) (fun _ _ => 0)) ++ uw 9 qL2 (enX2 cs qL2) (fun _ _ => 0)) ++ uw 9 qL3 (enX2 cs qL3) (fun _ _ => 0)) ++ uw 4 q6 (enX6 cs q6) (us (us (fun _ _ => 0) 0 4 1) 0 5 1900)) ++ uw 5 q1 (enX1 cs q1) (fun _ _ => 0)) ++ uw 3 q0 (enX0 cs q0) (fun _ _ => 0)) ++ uw 3 q7 (enX7 cs q7) (fun _ _ => 0))) H := hP
  have hD : va_D A ((h0, .inr (9, [.ref (q5 0), .ref (q8 0), .ref ql, .ref (q6 0), .ref (q1 0), .ref (q0 0), .null, .null, .null, .null, .null, .null, .int 0, .int 0])) :: ((((((((((uw 7 q5 (enX5 cs q5) (uf (fun _ _ => 0) 2 (upd (upd (upd (upd (fun _ => 0) 0 (-1)) 1 (-1)) 2 (-1)) 3 (-1))) ++ uw 26 q8 (enX8 cs q8) (fun _ _ => 0)) ++ [(ql, .inl (cs 3, 4, .inr (.inr (.inr (.inr (va_up (va_up (va_up (va_up (fun _ => none) (0 : Int32).toNatClampNeg (some (qL0 0))) (1 : Int32).toNatClampNeg (some (qL1 0))) (2 : Int32).toNatClampNeg (some (qL2 0))) (3 : Int32).toNatClampNeg (some (qL3 0))))))))]) ++ uw 9 qL0 (enX2 cs qL0) (fun _ _ => 0)) ++ uw 9 qL1 (enX2 cs qL1) (fun _ _ => 0)) ++ uw 9 qL2 (enX2 cs qL2) (fun _ _ => 0)) ++ uw 9 qL3 (enX2 cs qL3) (fun _ _ => 0)) ++ uw 4 q6 (enX6 cs q6) (us (us (fun _ _ => 0) 0 4 1) 0 5 1900)) ++ uw 5 q1 (enX1 cs q1) (fun _ _ => 0)) ++ uw 3 q0 (enX0 cs q0) (fun _ _ => 0)) ++ uw 3 q7 (enX7 cs q7) (fun _ _ => 0))) := hD
  refine va_putF (D := D) (ci := 9) (v := .ref (q7 0)) (ty := (tyX9 6)) (C := RX9) (T := TX9) (N := 14) hx hb hts (by decide +kernel) tyX9 tyX9_ok nmX9 hown hK hP hD hS 0 rfl rfl 6 (by decide) (hts (.fieldLink RX9 54 "GhostSigns" "walls" "LGhostSigns$Walls;") (by decide +kernel)) (fun _ h9 => h9) rfl hin rfl (by decide +kernel) rfl rfl (Nat.le_of_ble_eq_true rfl) dX9_init_101 (fun H locs hP hD hS => ?_)
  have hP : va_P D vwCl ((h0, .inr (9, [.ref (q5 0), .ref (q8 0), .ref ql, .ref (q6 0), .ref (q1 0), .ref (q0 0), .ref (q7 0), .null, .null, .null, .null, .null, .int 0, .int 0])) :: ((((((((((uw 7 q5 (enX5 cs q5) (uf (fun _ _ => 0) 2 (upd (upd (upd (upd (fun _ => 0) 0 (-1)) 1 (-1)) 2 (-1)) 3 (-1))) ++ uw 26 q8 (enX8 cs q8) (fun _ _ => 0)) ++ [(ql, .inl (cs 3, 4, .inr (.inr (.inr (.inr (va_up (va_up (va_up (va_up (fun _ => none) (0 : Int32).toNatClampNeg (some (qL0 0))) (1 : Int32).toNatClampNeg (some (qL1 0))) (2 : Int32).toNatClampNeg (some (qL2 0))) (3 : Int32).toNatClampNeg (some (qL3 0))))))))]) ++ uw 9 qL0 (enX2 cs qL0) (fun _ _ => 0)) ++ uw 9 qL1 (enX2 cs qL1) (fun _ _ => 0)) ++ uw 9 qL2 (enX2 cs qL2) (fun _ _ => 0)) ++ uw 9 qL3 (enX2 cs qL3) (fun _ _ => 0)) ++ uw 4 q6 (enX6 cs q6) (us (us (fun _ _ => 0) 0 4 1) 0 5 1900)) ++ uw 5 q1 (enX1 cs q1) (fun _ _ => 0)) ++ uw 3 q0 (enX0 cs q0) (fun _ _ => 0)) ++ uw 3 q7 (enX7 cs q7) (fun _ _ => 0))) H := hP
  have hD : va_D A ((h0, .inr (9, [.ref (q5 0), .ref (q8 0), .ref ql, .ref (q6 0), .ref (q1 0), .ref (q0 0), .ref (q7 0), .null, .null, .null, .null, .null, .int 0, .int 0])) :: ((((((((((uw 7 q5 (enX5 cs q5) (uf (fun _ _ => 0) 2 (upd (upd (upd (upd (fun _ => 0) 0 (-1)) 1 (-1)) 2 (-1)) 3 (-1))) ++ uw 26 q8 (enX8 cs q8) (fun _ _ => 0)) ++ [(ql, .inl (cs 3, 4, .inr (.inr (.inr (.inr (va_up (va_up (va_up (va_up (fun _ => none) (0 : Int32).toNatClampNeg (some (qL0 0))) (1 : Int32).toNatClampNeg (some (qL1 0))) (2 : Int32).toNatClampNeg (some (qL2 0))) (3 : Int32).toNatClampNeg (some (qL3 0))))))))]) ++ uw 9 qL0 (enX2 cs qL0) (fun _ _ => 0)) ++ uw 9 qL1 (enX2 cs qL1) (fun _ _ => 0)) ++ uw 9 qL2 (enX2 cs qL2) (fun _ _ => 0)) ++ uw 9 qL3 (enX2 cs qL3) (fun _ _ => 0)) ++ uw 4 q6 (enX6 cs q6) (us (us (fun _ _ => 0) 0 4 1) 0 5 1900)) ++ uw 5 q1 (enX1 cs q1) (fun _ _ => 0)) ++ uw 3 q0 (enX0 cs q0) (fun _ _ => 0)) ++ uw 3 q7 (enX7 cs q7) (fun _ _ => 0))) := hD
  refine lv_aload_n hx hb dX9_init_104 rfl (lv_at hl 1 rfl) ?_
  refine u_made (rest := [.ref h0]) (fsd := [.null, .null, .null, .null, .int 0]) ⟨hx, hb, hml, hown, hts⟩ hK hAO hA hP hD hS (c_X4_init l D cs) (by decide) (ci := 4) (C := RX4) (T := TX4) (N := 5) rfl (by decide +kernel) tyX4 tyX4_ok (fun j hj => by rcases (show j = 0 ∨ j = 1 ∨ j = 2 ∨ j = 3 ∨ j = 4 by omega) with rfl | rfl | rfl | rfl | rfl <;> rfl) (by decide +kernel) (by decide +kernel) (by decide +kernel) (cwI 0 hts gX9_init_X4_init_n60 rfl rfl rfl (hts (.initialized RX4) (by decide +kernel)) (hts (.methodLink RX9 60 yX4_init) (by decide +kernel)) (hts (.instanceMethod yX4_init) (by decide +kernel)) rfl (by decide +kernel) ⟨Nat.le_of_ble_eq_true rfl, Nat.le_of_ble_eq_true rfl⟩) hl ⟨Nat.le_of_ble_eq_true rfl, Nat.le_of_ble_eq_true rfl⟩ ⟨Nat.le_of_ble_eq_true rfl, Nat.le_of_ble_eq_true rfl⟩ (Nat.le_of_ble_eq_true rfl) dX9_init_105 dX9_init_108 dX9_init_109 (fun q4 H locs hP hD hS => ?_)
  refine W.widen (k := 90) (n := 1433) (Nat.le_of_ble_eq_true rfl) (Nat.le_of_ble_eq_true rfl) ?_
  have hP : va_P D vwCl ((h0, .inr (9, [.ref (q5 0), .ref (q8 0), .ref ql, .ref (q6 0), .ref (q1 0), .ref (q0 0), .ref (q7 0), .null, .null, .null, .null, .null, .int 0, .int 0])) :: (((((((((((uw 7 q5 (enX5 cs q5) (uf (fun _ _ => 0) 2 (upd (upd (upd (upd (fun _ => 0) 0 (-1)) 1 (-1)) 2 (-1)) 3 (-1))) ++ uw 26 q8 (enX8 cs q8) (fun _ _ => 0)) ++ [(ql, .inl (cs 3, 4, .inr (.inr (.inr (.inr (va_up (va_up (va_up (va_up (fun _ => none) (0 : Int32).toNatClampNeg (some (qL0 0))) (1 : Int32).toNatClampNeg (some (qL1 0))) (2 : Int32).toNatClampNeg (some (qL2 0))) (3 : Int32).toNatClampNeg (some (qL3 0))))))))]) ++ uw 9 qL0 (enX2 cs qL0) (fun _ _ => 0)) ++ uw 9 qL1 (enX2 cs qL1) (fun _ _ => 0)) ++ uw 9 qL2 (enX2 cs qL2) (fun _ _ => 0)) ++ uw 9 qL3 (enX2 cs qL3) (fun _ _ => 0)) ++ uw 4 q6 (enX6 cs q6) (us (us (fun _ _ => 0) 0 4 1) 0 5 1900)) ++ uw 5 q1 (enX1 cs q1) (fun _ _ => 0)) ++ uw 3 q0 (enX0 cs q0) (fun _ _ => 0)) ++ uw 3 q7 (enX7 cs q7) (fun _ _ => 0)) ++ uw 5 q4 (enX4 cs q4) (fun _ _ => 0))) H := hP
  have hD : va_D A ((h0, .inr (9, [.ref (q5 0), .ref (q8 0), .ref ql, .ref (q6 0), .ref (q1 0), .ref (q0 0), .ref (q7 0), .null, .null, .null, .null, .null, .int 0, .int 0])) :: (((((((((((uw 7 q5 (enX5 cs q5) (uf (fun _ _ => 0) 2 (upd (upd (upd (upd (fun _ => 0) 0 (-1)) 1 (-1)) 2 (-1)) 3 (-1))) ++ uw 26 q8 (enX8 cs q8) (fun _ _ => 0)) ++ [(ql, .inl (cs 3, 4, .inr (.inr (.inr (.inr (va_up (va_up (va_up (va_up (fun _ => none) (0 : Int32).toNatClampNeg (some (qL0 0))) (1 : Int32).toNatClampNeg (some (qL1 0))) (2 : Int32).toNatClampNeg (some (qL2 0))) (3 : Int32).toNatClampNeg (some (qL3 0))))))))]) ++ uw 9 qL0 (enX2 cs qL0) (fun _ _ => 0)) ++ uw 9 qL1 (enX2 cs qL1) (fun _ _ => 0)) ++ uw 9 qL2 (enX2 cs qL2) (fun _ _ => 0)) ++ uw 9 qL3 (enX2 cs qL3) (fun _ _ => 0)) ++ uw 4 q6 (enX6 cs q6) (us (us (fun _ _ => 0) 0 4 1) 0 5 1900)) ++ uw 5 q1 (enX1 cs q1) (fun _ _ => 0)) ++ uw 3 q0 (enX0 cs q0) (fun _ _ => 0)) ++ uw 3 q7 (enX7 cs q7) (fun _ _ => 0)) ++ uw 5 q4 (enX4 cs q4) (fun _ _ => 0))) := hD
  refine va_putF (D := D) (ci := 9) (v := .ref (q4 0)) (ty := (tyX9 7)) (C := RX9) (T := TX9) (N := 14) hx hb hts (by decide +kernel) tyX9 tyX9_ok nmX9 hown hK hP hD hS 0 rfl rfl 7 (by decide) (hts (.fieldLink RX9 61 "GhostSigns" "placesOfA" "LGhostSigns$Places;") (by decide +kernel)) (fun _ h9 => h9) rfl hin rfl (by decide +kernel) rfl rfl (Nat.le_of_ble_eq_true rfl) dX9_init_112 (fun H locs hP hD hS => ?_)
  have hP : va_P D vwCl ((h0, .inr (9, [.ref (q5 0), .ref (q8 0), .ref ql, .ref (q6 0), .ref (q1 0), .ref (q0 0), .ref (q7 0), .ref (q4 0), .null, .null, .null, .null, .int 0, .int 0])) :: (((((((((((uw 7 q5 (enX5 cs q5) (uf (fun _ _ => 0) 2 (upd (upd (upd (upd (fun _ => 0) 0 (-1)) 1 (-1)) 2 (-1)) 3 (-1))) ++ uw 26 q8 (enX8 cs q8) (fun _ _ => 0)) ++ [(ql, .inl (cs 3, 4, .inr (.inr (.inr (.inr (va_up (va_up (va_up (va_up (fun _ => none) (0 : Int32).toNatClampNeg (some (qL0 0))) (1 : Int32).toNatClampNeg (some (qL1 0))) (2 : Int32).toNatClampNeg (some (qL2 0))) (3 : Int32).toNatClampNeg (some (qL3 0))))))))]) ++ uw 9 qL0 (enX2 cs qL0) (fun _ _ => 0)) ++ uw 9 qL1 (enX2 cs qL1) (fun _ _ => 0)) ++ uw 9 qL2 (enX2 cs qL2) (fun _ _ => 0)) ++ uw 9 qL3 (enX2 cs qL3) (fun _ _ => 0)) ++ uw 4 q6 (enX6 cs q6) (us (us (fun _ _ => 0) 0 4 1) 0 5 1900)) ++ uw 5 q1 (enX1 cs q1) (fun _ _ => 0)) ++ uw 3 q0 (enX0 cs q0) (fun _ _ => 0)) ++ uw 3 q7 (enX7 cs q7) (fun _ _ => 0)) ++ uw 5 q4 (enX4 cs q4) (fun _ _ => 0))) H := hP
  have hD : va_D A ((h0, .inr (9, [.ref (q5 0), .ref (q8 0), .ref ql, .ref (q6 0), .ref (q1 0), .ref (q0 0), .ref (q7 0), .ref (q4 0), .null, .null, .null, .null, .int 0, .int 0])) :: (((((((((((uw 7 q5 (enX5 cs q5) (uf (fun _ _ => 0) 2 (upd (upd (upd (upd (fun _ => 0) 0 (-1)) 1 (-1)) 2 (-1)) 3 (-1))) ++ uw 26 q8 (enX8 cs q8) (fun _ _ => 0)) ++ [(ql, .inl (cs 3, 4, .inr (.inr (.inr (.inr (va_up (va_up (va_up (va_up (fun _ => none) (0 : Int32).toNatClampNeg (some (qL0 0))) (1 : Int32).toNatClampNeg (some (qL1 0))) (2 : Int32).toNatClampNeg (some (qL2 0))) (3 : Int32).toNatClampNeg (some (qL3 0))))))))]) ++ uw 9 qL0 (enX2 cs qL0) (fun _ _ => 0)) ++ uw 9 qL1 (enX2 cs qL1) (fun _ _ => 0)) ++ uw 9 qL2 (enX2 cs qL2) (fun _ _ => 0)) ++ uw 9 qL3 (enX2 cs qL3) (fun _ _ => 0)) ++ uw 4 q6 (enX6 cs q6) (us (us (fun _ _ => 0) 0 4 1) 0 5 1900)) ++ uw 5 q1 (enX1 cs q1) (fun _ _ => 0)) ++ uw 3 q0 (enX0 cs q0) (fun _ _ => 0)) ++ uw 3 q7 (enX7 cs q7) (fun _ _ => 0)) ++ uw 5 q4 (enX4 cs q4) (fun _ _ => 0))) := hD
  refine lv_aload_n hx hb dX9_init_115 rfl (lv_at hl 1 rfl) ?_
  refine u_made (rest := [.ref h0]) (fsd := [.null, .null, .null, .null, .int 0]) ⟨hx, hb, hml, hown, hts⟩ hK hAO hA hP hD hS (c_X4_init l D cs) (by decide) (ci := 4) (C := RX4) (T := TX4) (N := 5) rfl (by decide +kernel) tyX4 tyX4_ok (fun j hj => by rcases (show j = 0 ∨ j = 1 ∨ j = 2 ∨ j = 3 ∨ j = 4 by omega) with rfl | rfl | rfl | rfl | rfl <;> rfl) (by decide +kernel) (by decide +kernel) (by decide +kernel) (cwI 0 hts gX9_init_X4_init_n60 rfl rfl rfl (hts (.initialized RX4) (by decide +kernel)) (hts (.methodLink RX9 60 yX4_init) (by decide +kernel)) (hts (.instanceMethod yX4_init) (by decide +kernel)) rfl (by decide +kernel) ⟨Nat.le_of_ble_eq_true rfl, Nat.le_of_ble_eq_true rfl⟩) hl ⟨Nat.le_of_ble_eq_true rfl, Nat.le_of_ble_eq_true rfl⟩ ⟨Nat.le_of_ble_eq_true rfl, Nat.le_of_ble_eq_true rfl⟩ (Nat.le_of_ble_eq_true rfl) dX9_init_116 dX9_init_119 dX9_init_120 (fun q4b H locs hP hD hS => ?_)
  refine W.widen (k := 95) (n := 2078) (Nat.le_of_ble_eq_true rfl) (Nat.le_of_ble_eq_true rfl) ?_
  have hP : va_P D vwCl ((h0, .inr (9, [.ref (q5 0), .ref (q8 0), .ref ql, .ref (q6 0), .ref (q1 0), .ref (q0 0), .ref (q7 0), .ref (q4 0), .null, .null, .null, .null, .int 0, .int 0])) :: ((((((((((((uw 7 q5 (enX5 cs q5) (uf (fun _ _ => 0) 2 (upd (upd (upd (upd (fun _ => 0) 0 (-1)) 1 (-1)) 2 (-1)) 3 (-1))) ++ uw 26 q8 (enX8 cs q8) (fun _ _ => 0)) ++ [(ql, .inl (cs 3, 4, .inr (.inr (.inr (.inr (va_up (va_up (va_up (va_up (fun _ => none) (0 : Int32).toNatClampNeg (some (qL0 0))) (1 : Int32).toNatClampNeg (some (qL1 0))) (2 : Int32).toNatClampNeg (some (qL2 0))) (3 : Int32).toNatClampNeg (some (qL3 0))))))))]) ++ uw 9 qL0 (enX2 cs qL0) (fun _ _ => 0)) ++ uw 9 qL1 (enX2 cs qL1) (fun _ _ => 0)) ++ uw 9 qL2 (enX2 cs qL2) (fun _ _ => 0)) ++ uw 9 qL3 (enX2 cs qL3) (fun _ _ => 0)) ++ uw 4 q6 (enX6 cs q6) (us (us (fun _ _ => 0) 0 4 1) 0 5 1900)) ++ uw 5 q1 (enX1 cs q1) (fun _ _ => 0)) ++ uw 3 q0 (enX0 cs q0) (fun _ _ => 0)) ++ uw 3 q7 (enX7 cs q7) (fun _ _ => 0)) ++ uw 5 q4 (enX4 cs q4) (fun _ _ => 0)) ++ uw 5 q4b (enX4 cs q4b) (fun _ _ => 0))) H := hP
  have hD : va_D A ((h0, .inr (9, [.ref (q5 0), .ref (q8 0), .ref ql, .ref (q6 0), .ref (q1 0), .ref (q0 0), .ref (q7 0), .ref (q4 0), .null, .null, .null, .null, .int 0, .int 0])) :: ((((((((((((uw 7 q5 (enX5 cs q5) (uf (fun _ _ => 0) 2 (upd (upd (upd (upd (fun _ => 0) 0 (-1)) 1 (-1)) 2 (-1)) 3 (-1))) ++ uw 26 q8 (enX8 cs q8) (fun _ _ => 0)) ++ [(ql, .inl (cs 3, 4, .inr (.inr (.inr (.inr (va_up (va_up (va_up (va_up (fun _ => none) (0 : Int32).toNatClampNeg (some (qL0 0))) (1 : Int32).toNatClampNeg (some (qL1 0))) (2 : Int32).toNatClampNeg (some (qL2 0))) (3 : Int32).toNatClampNeg (some (qL3 0))))))))]) ++ uw 9 qL0 (enX2 cs qL0) (fun _ _ => 0)) ++ uw 9 qL1 (enX2 cs qL1) (fun _ _ => 0)) ++ uw 9 qL2 (enX2 cs qL2) (fun _ _ => 0)) ++ uw 9 qL3 (enX2 cs qL3) (fun _ _ => 0)) ++ uw 4 q6 (enX6 cs q6) (us (us (fun _ _ => 0) 0 4 1) 0 5 1900)) ++ uw 5 q1 (enX1 cs q1) (fun _ _ => 0)) ++ uw 3 q0 (enX0 cs q0) (fun _ _ => 0)) ++ uw 3 q7 (enX7 cs q7) (fun _ _ => 0)) ++ uw 5 q4 (enX4 cs q4) (fun _ _ => 0)) ++ uw 5 q4b (enX4 cs q4b) (fun _ _ => 0))) := hD
  refine va_putF (D := D) (ci := 9) (v := .ref (q4b 0)) (ty := (tyX9 8)) (C := RX9) (T := TX9) (N := 14) hx hb hts (by decide +kernel) tyX9 tyX9_ok nmX9 hown hK hP hD hS 0 rfl rfl 8 (by decide) (hts (.fieldLink RX9 65 "GhostSigns" "placesOfB" "LGhostSigns$Places;") (by decide +kernel)) (fun _ h9 => h9) rfl hin rfl (by decide +kernel) rfl rfl (Nat.le_of_ble_eq_true rfl) dX9_init_123 (fun H locs hP hD hS => ?_)
  have hP : va_P D vwCl ((h0, .inr (9, [.ref (q5 0), .ref (q8 0), .ref ql, .ref (q6 0), .ref (q1 0), .ref (q0 0), .ref (q7 0), .ref (q4 0), .ref (q4b 0), .null, .null, .null, .int 0, .int 0])) :: ((((((((((((uw 7 q5 (enX5 cs q5) (uf (fun _ _ => 0) 2 (upd (upd (upd (upd (fun _ => 0) 0 (-1)) 1 (-1)) 2 (-1)) 3 (-1))) ++ uw 26 q8 (enX8 cs q8) (fun _ _ => 0)) ++ [(ql, .inl (cs 3, 4, .inr (.inr (.inr (.inr (va_up (va_up (va_up (va_up (fun _ => none) (0 : Int32).toNatClampNeg (some (qL0 0))) (1 : Int32).toNatClampNeg (some (qL1 0))) (2 : Int32).toNatClampNeg (some (qL2 0))) (3 : Int32).toNatClampNeg (some (qL3 0))))))))]) ++ uw 9 qL0 (enX2 cs qL0) (fun _ _ => 0)) ++ uw 9 qL1 (enX2 cs qL1) (fun _ _ => 0)) ++ uw 9 qL2 (enX2 cs qL2) (fun _ _ => 0)) ++ uw 9 qL3 (enX2 cs qL3) (fun _ _ => 0)) ++ uw 4 q6 (enX6 cs q6) (us (us (fun _ _ => 0) 0 4 1) 0 5 1900)) ++ uw 5 q1 (enX1 cs q1) (fun _ _ => 0)) ++ uw 3 q0 (enX0 cs q0) (fun _ _ => 0)) ++ uw 3 q7 (enX7 cs q7) (fun _ _ => 0)) ++ uw 5 q4 (enX4 cs q4) (fun _ _ => 0)) ++ uw 5 q4b (enX4 cs q4b) (fun _ _ => 0))) H := hP
  have hD : va_D A ((h0, .inr (9, [.ref (q5 0), .ref (q8 0), .ref ql, .ref (q6 0), .ref (q1 0), .ref (q0 0), .ref (q7 0), .ref (q4 0), .ref (q4b 0), .null, .null, .null, .int 0, .int 0])) :: ((((((((((((uw 7 q5 (enX5 cs q5) (uf (fun _ _ => 0) 2 (upd (upd (upd (upd (fun _ => 0) 0 (-1)) 1 (-1)) 2 (-1)) 3 (-1))) ++ uw 26 q8 (enX8 cs q8) (fun _ _ => 0)) ++ [(ql, .inl (cs 3, 4, .inr (.inr (.inr (.inr (va_up (va_up (va_up (va_up (fun _ => none) (0 : Int32).toNatClampNeg (some (qL0 0))) (1 : Int32).toNatClampNeg (some (qL1 0))) (2 : Int32).toNatClampNeg (some (qL2 0))) (3 : Int32).toNatClampNeg (some (qL3 0))))))))]) ++ uw 9 qL0 (enX2 cs qL0) (fun _ _ => 0)) ++ uw 9 qL1 (enX2 cs qL1) (fun _ _ => 0)) ++ uw 9 qL2 (enX2 cs qL2) (fun _ _ => 0)) ++ uw 9 qL3 (enX2 cs qL3) (fun _ _ => 0)) ++ uw 4 q6 (enX6 cs q6) (us (us (fun _ _ => 0) 0 4 1) 0 5 1900)) ++ uw 5 q1 (enX1 cs q1) (fun _ _ => 0)) ++ uw 3 q0 (enX0 cs q0) (fun _ _ => 0)) ++ uw 3 q7 (enX7 cs q7) (fun _ _ => 0)) ++ uw 5 q4 (enX4 cs q4) (fun _ _ => 0)) ++ uw 5 q4b (enX4 cs q4b) (fun _ _ => 0))) := hD
  refine lv_aload_n hx hb dX9_init_126 rfl (lv_at hl 1 rfl) ?_
  refine u_made (rest := [.ref h0]) (fsd := [.int 0, .int 0, .int 0, .int 0]) ⟨hx, hb, hml, hown, hts⟩ hK hAO hA hP hD hS (c_X3_init l D cs) (by decide) (ci := 3) (C := RX3) (T := TX3) (N := 4) rfl (by decide +kernel) tyX3 tyX3_ok (fun j hj => by rcases (show j = 0 ∨ j = 1 ∨ j = 2 ∨ j = 3 by omega) with rfl | rfl | rfl | rfl <;> rfl) (by decide +kernel) (by decide +kernel) (by decide +kernel) (cwI 0 hts gX9_init_X3_init_n70 rfl rfl rfl (hts (.initialized RX3) (by decide +kernel)) (hts (.methodLink RX9 70 yX3_init) (by decide +kernel)) (hts (.instanceMethod yX3_init) (by decide +kernel)) rfl (by decide +kernel) ⟨Nat.le_of_ble_eq_true rfl, Nat.le_of_ble_eq_true rfl⟩) hl ⟨Nat.le_of_ble_eq_true rfl, Nat.le_of_ble_eq_true rfl⟩ ⟨Nat.le_of_ble_eq_true rfl, Nat.le_of_ble_eq_true rfl⟩ (Nat.le_of_ble_eq_true rfl) dX9_init_127 dX9_init_130 dX9_init_131 (fun q3 H locs hP hD hS => ?_)
  refine W.widen (k := 96) (n := 2082) (Nat.le_of_ble_eq_true rfl) (Nat.le_of_ble_eq_true rfl) ?_
  have hP : va_P D vwCl ((h0, .inr (9, [.ref (q5 0), .ref (q8 0), .ref ql, .ref (q6 0), .ref (q1 0), .ref (q0 0), .ref (q7 0), .ref (q4 0), .ref (q4b 0), .null, .null, .null, .int 0, .int 0])) :: (((((((((((((uw 7 q5 (enX5 cs q5) (uf (fun _ _ => 0) 2 (upd (upd (upd (upd (fun _ => 0) 0 (-1)) 1 (-1)) 2 (-1)) 3 (-1))) ++ uw 26 q8 (enX8 cs q8) (fun _ _ => 0)) ++ [(ql, .inl (cs 3, 4, .inr (.inr (.inr (.inr (va_up (va_up (va_up (va_up (fun _ => none) (0 : Int32).toNatClampNeg (some (qL0 0))) (1 : Int32).toNatClampNeg (some (qL1 0))) (2 : Int32).toNatClampNeg (some (qL2 0))) (3 : Int32).toNatClampNeg (some (qL3 0))))))))]) ++ uw 9 qL0 (enX2 cs qL0) (fun _ _ => 0)) ++ uw 9 qL1 (enX2 cs qL1) (fun _ _ => 0)) ++ uw 9 qL2 (enX2 cs qL2) (fun _ _ => 0)) ++ uw 9 qL3 (enX2 cs qL3) (fun _ _ => 0)) ++ uw 4 q6 (enX6 cs q6) (us (us (fun _ _ => 0) 0 4 1) 0 5 1900)) ++ uw 5 q1 (enX1 cs q1) (fun _ _ => 0)) ++ uw 3 q0 (enX0 cs q0) (fun _ _ => 0)) ++ uw 3 q7 (enX7 cs q7) (fun _ _ => 0)) ++ uw 5 q4 (enX4 cs q4) (fun _ _ => 0)) ++ uw 5 q4b (enX4 cs q4b) (fun _ _ => 0)) ++ uw 1 q3 (enX3 cs q3) (fun _ _ => 0))) H := hP
  have hD : va_D A ((h0, .inr (9, [.ref (q5 0), .ref (q8 0), .ref ql, .ref (q6 0), .ref (q1 0), .ref (q0 0), .ref (q7 0), .ref (q4 0), .ref (q4b 0), .null, .null, .null, .int 0, .int 0])) :: (((((((((((((uw 7 q5 (enX5 cs q5) (uf (fun _ _ => 0) 2 (upd (upd (upd (upd (fun _ => 0) 0 (-1)) 1 (-1)) 2 (-1)) 3 (-1))) ++ uw 26 q8 (enX8 cs q8) (fun _ _ => 0)) ++ [(ql, .inl (cs 3, 4, .inr (.inr (.inr (.inr (va_up (va_up (va_up (va_up (fun _ => none) (0 : Int32).toNatClampNeg (some (qL0 0))) (1 : Int32).toNatClampNeg (some (qL1 0))) (2 : Int32).toNatClampNeg (some (qL2 0))) (3 : Int32).toNatClampNeg (some (qL3 0))))))))]) ++ uw 9 qL0 (enX2 cs qL0) (fun _ _ => 0)) ++ uw 9 qL1 (enX2 cs qL1) (fun _ _ => 0)) ++ uw 9 qL2 (enX2 cs qL2) (fun _ _ => 0)) ++ uw 9 qL3 (enX2 cs qL3) (fun _ _ => 0)) ++ uw 4 q6 (enX6 cs q6) (us (us (fun _ _ => 0) 0 4 1) 0 5 1900)) ++ uw 5 q1 (enX1 cs q1) (fun _ _ => 0)) ++ uw 3 q0 (enX0 cs q0) (fun _ _ => 0)) ++ uw 3 q7 (enX7 cs q7) (fun _ _ => 0)) ++ uw 5 q4 (enX4 cs q4) (fun _ _ => 0)) ++ uw 5 q4b (enX4 cs q4b) (fun _ _ => 0)) ++ uw 1 q3 (enX3 cs q3) (fun _ _ => 0))) := hD
  refine va_putF (D := D) (ci := 9) (v := .ref (q3 0)) (ty := (tyX9 9)) (C := RX9) (T := TX9) (N := 14) hx hb hts (by decide +kernel) tyX9 tyX9_ok nmX9 hown hK hP hD hS 0 rfl rfl 9 (by decide) (hts (.fieldLink RX9 71 "GhostSigns" "pair" "LGhostSigns$Pair;") (by decide +kernel)) (fun _ h9 => h9) rfl hin rfl (by decide +kernel) rfl rfl (Nat.le_of_ble_eq_true rfl) dX9_init_134 (fun H locs hP hD hS => ?_)
  have hP : va_P D vwCl ((h0, .inr (9, [.ref (q5 0), .ref (q8 0), .ref ql, .ref (q6 0), .ref (q1 0), .ref (q0 0), .ref (q7 0), .ref (q4 0), .ref (q4b 0), .ref (q3 0), .null, .null, .int 0, .int 0])) :: (((((((((((((uw 7 q5 (enX5 cs q5) (uf (fun _ _ => 0) 2 (upd (upd (upd (upd (fun _ => 0) 0 (-1)) 1 (-1)) 2 (-1)) 3 (-1))) ++ uw 26 q8 (enX8 cs q8) (fun _ _ => 0)) ++ [(ql, .inl (cs 3, 4, .inr (.inr (.inr (.inr (va_up (va_up (va_up (va_up (fun _ => none) (0 : Int32).toNatClampNeg (some (qL0 0))) (1 : Int32).toNatClampNeg (some (qL1 0))) (2 : Int32).toNatClampNeg (some (qL2 0))) (3 : Int32).toNatClampNeg (some (qL3 0))))))))]) ++ uw 9 qL0 (enX2 cs qL0) (fun _ _ => 0)) ++ uw 9 qL1 (enX2 cs qL1) (fun _ _ => 0)) ++ uw 9 qL2 (enX2 cs qL2) (fun _ _ => 0)) ++ uw 9 qL3 (enX2 cs qL3) (fun _ _ => 0)) ++ uw 4 q6 (enX6 cs q6) (us (us (fun _ _ => 0) 0 4 1) 0 5 1900)) ++ uw 5 q1 (enX1 cs q1) (fun _ _ => 0)) ++ uw 3 q0 (enX0 cs q0) (fun _ _ => 0)) ++ uw 3 q7 (enX7 cs q7) (fun _ _ => 0)) ++ uw 5 q4 (enX4 cs q4) (fun _ _ => 0)) ++ uw 5 q4b (enX4 cs q4b) (fun _ _ => 0)) ++ uw 1 q3 (enX3 cs q3) (fun _ _ => 0))) H := hP
  have hD : va_D A ((h0, .inr (9, [.ref (q5 0), .ref (q8 0), .ref ql, .ref (q6 0), .ref (q1 0), .ref (q0 0), .ref (q7 0), .ref (q4 0), .ref (q4b 0), .ref (q3 0), .null, .null, .int 0, .int 0])) :: (((((((((((((uw 7 q5 (enX5 cs q5) (uf (fun _ _ => 0) 2 (upd (upd (upd (upd (fun _ => 0) 0 (-1)) 1 (-1)) 2 (-1)) 3 (-1))) ++ uw 26 q8 (enX8 cs q8) (fun _ _ => 0)) ++ [(ql, .inl (cs 3, 4, .inr (.inr (.inr (.inr (va_up (va_up (va_up (va_up (fun _ => none) (0 : Int32).toNatClampNeg (some (qL0 0))) (1 : Int32).toNatClampNeg (some (qL1 0))) (2 : Int32).toNatClampNeg (some (qL2 0))) (3 : Int32).toNatClampNeg (some (qL3 0))))))))]) ++ uw 9 qL0 (enX2 cs qL0) (fun _ _ => 0)) ++ uw 9 qL1 (enX2 cs qL1) (fun _ _ => 0)) ++ uw 9 qL2 (enX2 cs qL2) (fun _ _ => 0)) ++ uw 9 qL3 (enX2 cs qL3) (fun _ _ => 0)) ++ uw 4 q6 (enX6 cs q6) (us (us (fun _ _ => 0) 0 4 1) 0 5 1900)) ++ uw 5 q1 (enX1 cs q1) (fun _ _ => 0)) ++ uw 3 q0 (enX0 cs q0) (fun _ _ => 0)) ++ uw 3 q7 (enX7 cs q7) (fun _ _ => 0)) ++ uw 5 q4 (enX4 cs q4) (fun _ _ => 0)) ++ uw 5 q4b (enX4 cs q4b) (fun _ _ => 0)) ++ uw 1 q3 (enX3 cs q3) (fun _ _ => 0))) := hD
  refine lv_aload_n hx hb dX9_init_137 rfl (lv_at hl 1 rfl) ?_
  refine lv_bipush (v := 10) hx hb dX9_init_138 (by decide) ?_
  refine u_newa 0 (atype := .int) (n := 10) (N' := 10) hx hb (hts (.arrayClass .int) (by decide +kernel)) (ty := .int) rfl hK hP hD hS hA rfl rfl (fun C h => by cases h) (by decide) (by decide) (by show 10 * 4 ≤ 536870912; omega) (Nat.le_of_ble_eq_true rfl) (Nat.le_of_ble_eq_true rfl) dX9_init_140 (fun qsp H hP hD hS => ?_)
  refine W.widen (k := 97) (n := 2092) (Nat.le_of_ble_eq_true rfl) (Nat.le_of_ble_eq_true rfl) ?_
  have hP : va_P D vwCl ((h0, .inr (9, [.ref (q5 0), .ref (q8 0), .ref ql, .ref (q6 0), .ref (q1 0), .ref (q0 0), .ref (q7 0), .ref (q4 0), .ref (q4b 0), .ref (q3 0), .null, .null, .int 0, .int 0])) :: ((((((((((((((uw 7 q5 (enX5 cs q5) (uf (fun _ _ => 0) 2 (upd (upd (upd (upd (fun _ => 0) 0 (-1)) 1 (-1)) 2 (-1)) 3 (-1))) ++ uw 26 q8 (enX8 cs q8) (fun _ _ => 0)) ++ [(ql, .inl (cs 3, 4, .inr (.inr (.inr (.inr (va_up (va_up (va_up (va_up (fun _ => none) (0 : Int32).toNatClampNeg (some (qL0 0))) (1 : Int32).toNatClampNeg (some (qL1 0))) (2 : Int32).toNatClampNeg (some (qL2 0))) (3 : Int32).toNatClampNeg (some (qL3 0))))))))]) ++ uw 9 qL0 (enX2 cs qL0) (fun _ _ => 0)) ++ uw 9 qL1 (enX2 cs qL1) (fun _ _ => 0)) ++ uw 9 qL2 (enX2 cs qL2) (fun _ _ => 0)) ++ uw 9 qL3 (enX2 cs qL3) (fun _ _ => 0)) ++ uw 4 q6 (enX6 cs q6) (us (us (fun _ _ => 0) 0 4 1) 0 5 1900)) ++ uw 5 q1 (enX1 cs q1) (fun _ _ => 0)) ++ uw 3 q0 (enX0 cs q0) (fun _ _ => 0)) ++ uw 3 q7 (enX7 cs q7) (fun _ _ => 0)) ++ uw 5 q4 (enX4 cs q4) (fun _ _ => 0)) ++ uw 5 q4b (enX4 cs q4b) (fun _ _ => 0)) ++ uw 1 q3 (enX3 cs q3) (fun _ _ => 0)) ++ [(qsp, .inl (cs 0, 10, .inl (fun _ => 0)))])) H := hP
  have hD : va_D A ((h0, .inr (9, [.ref (q5 0), .ref (q8 0), .ref ql, .ref (q6 0), .ref (q1 0), .ref (q0 0), .ref (q7 0), .ref (q4 0), .ref (q4b 0), .ref (q3 0), .null, .null, .int 0, .int 0])) :: ((((((((((((((uw 7 q5 (enX5 cs q5) (uf (fun _ _ => 0) 2 (upd (upd (upd (upd (fun _ => 0) 0 (-1)) 1 (-1)) 2 (-1)) 3 (-1))) ++ uw 26 q8 (enX8 cs q8) (fun _ _ => 0)) ++ [(ql, .inl (cs 3, 4, .inr (.inr (.inr (.inr (va_up (va_up (va_up (va_up (fun _ => none) (0 : Int32).toNatClampNeg (some (qL0 0))) (1 : Int32).toNatClampNeg (some (qL1 0))) (2 : Int32).toNatClampNeg (some (qL2 0))) (3 : Int32).toNatClampNeg (some (qL3 0))))))))]) ++ uw 9 qL0 (enX2 cs qL0) (fun _ _ => 0)) ++ uw 9 qL1 (enX2 cs qL1) (fun _ _ => 0)) ++ uw 9 qL2 (enX2 cs qL2) (fun _ _ => 0)) ++ uw 9 qL3 (enX2 cs qL3) (fun _ _ => 0)) ++ uw 4 q6 (enX6 cs q6) (us (us (fun _ _ => 0) 0 4 1) 0 5 1900)) ++ uw 5 q1 (enX1 cs q1) (fun _ _ => 0)) ++ uw 3 q0 (enX0 cs q0) (fun _ _ => 0)) ++ uw 3 q7 (enX7 cs q7) (fun _ _ => 0)) ++ uw 5 q4 (enX4 cs q4) (fun _ _ => 0)) ++ uw 5 q4b (enX4 cs q4b) (fun _ _ => 0)) ++ uw 1 q3 (enX3 cs q3) (fun _ _ => 0)) ++ [(qsp, .inl (cs 0, 10, .inl (fun _ => 0)))])) := hD
  refine va_putF (D := D) (ci := 9) (v := .ref qsp) (ty := (tyX9 10)) (C := RX9) (T := TX9) (N := 14) hx hb hts (by decide +kernel) tyX9 tyX9_ok nmX9 hown hK hP hD hS 0 rfl rfl 10 (by decide) (hts (.fieldLink RX9 75 "GhostSigns" "split" "[I") (by decide +kernel)) (fun _ h9 => h9) rfl hin rfl (by decide +kernel) rfl rfl (Nat.le_of_ble_eq_true rfl) dX9_init_142 (fun H locs hP hD hS => ?_)
  have hP : va_P D vwCl ((h0, .inr (9, [.ref (q5 0), .ref (q8 0), .ref ql, .ref (q6 0), .ref (q1 0), .ref (q0 0), .ref (q7 0), .ref (q4 0), .ref (q4b 0), .ref (q3 0), .ref qsp, .null, .int 0, .int 0])) :: ((((((((((((((uw 7 q5 (enX5 cs q5) (uf (fun _ _ => 0) 2 (upd (upd (upd (upd (fun _ => 0) 0 (-1)) 1 (-1)) 2 (-1)) 3 (-1))) ++ uw 26 q8 (enX8 cs q8) (fun _ _ => 0)) ++ [(ql, .inl (cs 3, 4, .inr (.inr (.inr (.inr (va_up (va_up (va_up (va_up (fun _ => none) (0 : Int32).toNatClampNeg (some (qL0 0))) (1 : Int32).toNatClampNeg (some (qL1 0))) (2 : Int32).toNatClampNeg (some (qL2 0))) (3 : Int32).toNatClampNeg (some (qL3 0))))))))]) ++ uw 9 qL0 (enX2 cs qL0) (fun _ _ => 0)) ++ uw 9 qL1 (enX2 cs qL1) (fun _ _ => 0)) ++ uw 9 qL2 (enX2 cs qL2) (fun _ _ => 0)) ++ uw 9 qL3 (enX2 cs qL3) (fun _ _ => 0)) ++ uw 4 q6 (enX6 cs q6) (us (us (fun _ _ => 0) 0 4 1) 0 5 1900)) ++ uw 5 q1 (enX1 cs q1) (fun _ _ => 0)) ++ uw 3 q0 (enX0 cs q0) (fun _ _ => 0)) ++ uw 3 q7 (enX7 cs q7) (fun _ _ => 0)) ++ uw 5 q4 (enX4 cs q4) (fun _ _ => 0)) ++ uw 5 q4b (enX4 cs q4b) (fun _ _ => 0)) ++ uw 1 q3 (enX3 cs q3) (fun _ _ => 0)) ++ [(qsp, .inl (cs 0, 10, .inl (fun _ => 0)))])) H := hP
  have hD : va_D A ((h0, .inr (9, [.ref (q5 0), .ref (q8 0), .ref ql, .ref (q6 0), .ref (q1 0), .ref (q0 0), .ref (q7 0), .ref (q4 0), .ref (q4b 0), .ref (q3 0), .ref qsp, .null, .int 0, .int 0])) :: ((((((((((((((uw 7 q5 (enX5 cs q5) (uf (fun _ _ => 0) 2 (upd (upd (upd (upd (fun _ => 0) 0 (-1)) 1 (-1)) 2 (-1)) 3 (-1))) ++ uw 26 q8 (enX8 cs q8) (fun _ _ => 0)) ++ [(ql, .inl (cs 3, 4, .inr (.inr (.inr (.inr (va_up (va_up (va_up (va_up (fun _ => none) (0 : Int32).toNatClampNeg (some (qL0 0))) (1 : Int32).toNatClampNeg (some (qL1 0))) (2 : Int32).toNatClampNeg (some (qL2 0))) (3 : Int32).toNatClampNeg (some (qL3 0))))))))]) ++ uw 9 qL0 (enX2 cs qL0) (fun _ _ => 0)) ++ uw 9 qL1 (enX2 cs qL1) (fun _ _ => 0)) ++ uw 9 qL2 (enX2 cs qL2) (fun _ _ => 0)) ++ uw 9 qL3 (enX2 cs qL3) (fun _ _ => 0)) ++ uw 4 q6 (enX6 cs q6) (us (us (fun _ _ => 0) 0 4 1) 0 5 1900)) ++ uw 5 q1 (enX1 cs q1) (fun _ _ => 0)) ++ uw 3 q0 (enX0 cs q0) (fun _ _ => 0)) ++ uw 3 q7 (enX7 cs q7) (fun _ _ => 0)) ++ uw 5 q4 (enX4 cs q4) (fun _ _ => 0)) ++ uw 5 q4b (enX4 cs q4b) (fun _ _ => 0)) ++ uw 1 q3 (enX3 cs q3) (fun _ _ => 0)) ++ [(qsp, .inl (cs 0, 10, .inl (fun _ => 0)))])) := hD
  refine lv_aload_n hx hb dX9_init_145 rfl (lv_at hl 1 rfl) ?_
  refine lv_bipush (v := 6) hx hb dX9_init_146 (by decide) ?_
  refine u_newa 0 (atype := .int) (n := 6) (N' := 6) hx hb (hts (.arrayClass .int) (by decide +kernel)) (ty := .int) rfl hK hP hD hS hA rfl rfl (fun C h => by cases h) (by decide) (by decide) (by show 6 * 4 ≤ 536870912; omega) (Nat.le_of_ble_eq_true rfl) (Nat.le_of_ble_eq_true rfl) dX9_init_148 (fun qtf H hP hD hS => ?_)
  refine W.widen (k := 98) (n := 2098) (Nat.le_of_ble_eq_true rfl) (Nat.le_of_ble_eq_true rfl) ?_
  have hP : va_P D vwCl ((h0, .inr (9, [.ref (q5 0), .ref (q8 0), .ref ql, .ref (q6 0), .ref (q1 0), .ref (q0 0), .ref (q7 0), .ref (q4 0), .ref (q4b 0), .ref (q3 0), .ref qsp, .null, .int 0, .int 0])) :: (((((((((((((((uw 7 q5 (enX5 cs q5) (uf (fun _ _ => 0) 2 (upd (upd (upd (upd (fun _ => 0) 0 (-1)) 1 (-1)) 2 (-1)) 3 (-1))) ++ uw 26 q8 (enX8 cs q8) (fun _ _ => 0)) ++ [(ql, .inl (cs 3, 4, .inr (.inr (.inr (.inr (va_up (va_up (va_up (va_up (fun _ => none) (0 : Int32).toNatClampNeg (some (qL0 0))) (1 : Int32).toNatClampNeg (some (qL1 0))) (2 : Int32).toNatClampNeg (some (qL2 0))) (3 : Int32).toNatClampNeg (some (qL3 0))))))))]) ++ uw 9 qL0 (enX2 cs qL0) (fun _ _ => 0)) ++ uw 9 qL1 (enX2 cs qL1) (fun _ _ => 0)) ++ uw 9 qL2 (enX2 cs qL2) (fun _ _ => 0)) ++ uw 9 qL3 (enX2 cs qL3) (fun _ _ => 0)) ++ uw 4 q6 (enX6 cs q6) (us (us (fun _ _ => 0) 0 4 1) 0 5 1900)) ++ uw 5 q1 (enX1 cs q1) (fun _ _ => 0)) ++ uw 3 q0 (enX0 cs q0) (fun _ _ => 0)) ++ uw 3 q7 (enX7 cs q7) (fun _ _ => 0)) ++ uw 5 q4 (enX4 cs q4) (fun _ _ => 0)) ++ uw 5 q4b (enX4 cs q4b) (fun _ _ => 0)) ++ uw 1 q3 (enX3 cs q3) (fun _ _ => 0)) ++ [(qsp, .inl (cs 0, 10, .inl (fun _ => 0)))]) ++ [(qtf, .inl (cs 0, 6, .inl (fun _ => 0)))])) H := hP
  have hD : va_D A ((h0, .inr (9, [.ref (q5 0), .ref (q8 0), .ref ql, .ref (q6 0), .ref (q1 0), .ref (q0 0), .ref (q7 0), .ref (q4 0), .ref (q4b 0), .ref (q3 0), .ref qsp, .null, .int 0, .int 0])) :: (((((((((((((((uw 7 q5 (enX5 cs q5) (uf (fun _ _ => 0) 2 (upd (upd (upd (upd (fun _ => 0) 0 (-1)) 1 (-1)) 2 (-1)) 3 (-1))) ++ uw 26 q8 (enX8 cs q8) (fun _ _ => 0)) ++ [(ql, .inl (cs 3, 4, .inr (.inr (.inr (.inr (va_up (va_up (va_up (va_up (fun _ => none) (0 : Int32).toNatClampNeg (some (qL0 0))) (1 : Int32).toNatClampNeg (some (qL1 0))) (2 : Int32).toNatClampNeg (some (qL2 0))) (3 : Int32).toNatClampNeg (some (qL3 0))))))))]) ++ uw 9 qL0 (enX2 cs qL0) (fun _ _ => 0)) ++ uw 9 qL1 (enX2 cs qL1) (fun _ _ => 0)) ++ uw 9 qL2 (enX2 cs qL2) (fun _ _ => 0)) ++ uw 9 qL3 (enX2 cs qL3) (fun _ _ => 0)) ++ uw 4 q6 (enX6 cs q6) (us (us (fun _ _ => 0) 0 4 1) 0 5 1900)) ++ uw 5 q1 (enX1 cs q1) (fun _ _ => 0)) ++ uw 3 q0 (enX0 cs q0) (fun _ _ => 0)) ++ uw 3 q7 (enX7 cs q7) (fun _ _ => 0)) ++ uw 5 q4 (enX4 cs q4) (fun _ _ => 0)) ++ uw 5 q4b (enX4 cs q4b) (fun _ _ => 0)) ++ uw 1 q3 (enX3 cs q3) (fun _ _ => 0)) ++ [(qsp, .inl (cs 0, 10, .inl (fun _ => 0)))]) ++ [(qtf, .inl (cs 0, 6, .inl (fun _ => 0)))])) := hD
  refine va_putF (D := D) (ci := 9) (v := .ref qtf) (ty := (tyX9 11)) (C := RX9) (T := TX9) (N := 14) hx hb hts (by decide +kernel) tyX9 tyX9_ok nmX9 hown hK hP hD hS 0 rfl rfl 11 (by decide) (hts (.fieldLink RX9 79 "GhostSigns" "timesFound" "[I") (by decide +kernel)) (fun _ h9 => h9) rfl hin rfl (by decide +kernel) rfl rfl (Nat.le_of_ble_eq_true rfl) dX9_init_150 (fun H locs hP hD hS => ?_)
  have hP : va_P D vwCl ((h0, .inr (9, [.ref (q5 0), .ref (q8 0), .ref ql, .ref (q6 0), .ref (q1 0), .ref (q0 0), .ref (q7 0), .ref (q4 0), .ref (q4b 0), .ref (q3 0), .ref qsp, .ref qtf, .int 0, .int 0])) :: (((((((((((((((uw 7 q5 (enX5 cs q5) (uf (fun _ _ => 0) 2 (upd (upd (upd (upd (fun _ => 0) 0 (-1)) 1 (-1)) 2 (-1)) 3 (-1))) ++ uw 26 q8 (enX8 cs q8) (fun _ _ => 0)) ++ [(ql, .inl (cs 3, 4, .inr (.inr (.inr (.inr (va_up (va_up (va_up (va_up (fun _ => none) (0 : Int32).toNatClampNeg (some (qL0 0))) (1 : Int32).toNatClampNeg (some (qL1 0))) (2 : Int32).toNatClampNeg (some (qL2 0))) (3 : Int32).toNatClampNeg (some (qL3 0))))))))]) ++ uw 9 qL0 (enX2 cs qL0) (fun _ _ => 0)) ++ uw 9 qL1 (enX2 cs qL1) (fun _ _ => 0)) ++ uw 9 qL2 (enX2 cs qL2) (fun _ _ => 0)) ++ uw 9 qL3 (enX2 cs qL3) (fun _ _ => 0)) ++ uw 4 q6 (enX6 cs q6) (us (us (fun _ _ => 0) 0 4 1) 0 5 1900)) ++ uw 5 q1 (enX1 cs q1) (fun _ _ => 0)) ++ uw 3 q0 (enX0 cs q0) (fun _ _ => 0)) ++ uw 3 q7 (enX7 cs q7) (fun _ _ => 0)) ++ uw 5 q4 (enX4 cs q4) (fun _ _ => 0)) ++ uw 5 q4b (enX4 cs q4b) (fun _ _ => 0)) ++ uw 1 q3 (enX3 cs q3) (fun _ _ => 0)) ++ [(qsp, .inl (cs 0, 10, .inl (fun _ => 0)))]) ++ [(qtf, .inl (cs 0, 6, .inl (fun _ => 0)))])) H := hP
  have hD : va_D A ((h0, .inr (9, [.ref (q5 0), .ref (q8 0), .ref ql, .ref (q6 0), .ref (q1 0), .ref (q0 0), .ref (q7 0), .ref (q4 0), .ref (q4b 0), .ref (q3 0), .ref qsp, .ref qtf, .int 0, .int 0])) :: (((((((((((((((uw 7 q5 (enX5 cs q5) (uf (fun _ _ => 0) 2 (upd (upd (upd (upd (fun _ => 0) 0 (-1)) 1 (-1)) 2 (-1)) 3 (-1))) ++ uw 26 q8 (enX8 cs q8) (fun _ _ => 0)) ++ [(ql, .inl (cs 3, 4, .inr (.inr (.inr (.inr (va_up (va_up (va_up (va_up (fun _ => none) (0 : Int32).toNatClampNeg (some (qL0 0))) (1 : Int32).toNatClampNeg (some (qL1 0))) (2 : Int32).toNatClampNeg (some (qL2 0))) (3 : Int32).toNatClampNeg (some (qL3 0))))))))]) ++ uw 9 qL0 (enX2 cs qL0) (fun _ _ => 0)) ++ uw 9 qL1 (enX2 cs qL1) (fun _ _ => 0)) ++ uw 9 qL2 (enX2 cs qL2) (fun _ _ => 0)) ++ uw 9 qL3 (enX2 cs qL3) (fun _ _ => 0)) ++ uw 4 q6 (enX6 cs q6) (us (us (fun _ _ => 0) 0 4 1) 0 5 1900)) ++ uw 5 q1 (enX1 cs q1) (fun _ _ => 0)) ++ uw 3 q0 (enX0 cs q0) (fun _ _ => 0)) ++ uw 3 q7 (enX7 cs q7) (fun _ _ => 0)) ++ uw 5 q4 (enX4 cs q4) (fun _ _ => 0)) ++ uw 5 q4b (enX4 cs q4b) (fun _ _ => 0)) ++ uw 1 q3 (enX3 cs q3) (fun _ _ => 0)) ++ [(qsp, .inl (cs 0, 10, .inl (fun _ => 0)))]) ++ [(qtf, .inl (cs 0, 6, .inl (fun _ => 0)))])) := hD
  have hw := xw_list cs h0 ql qsp qtf q5 q8 qL0 qL1 qL2 qL3 q6 q1 q0 q7 q4 q4b q3
  generalize adX h0 ql qsp qtf q5 q8 qL0 qL1 qL2 qL3 q6 q1 q0 q7 q4 q4b q3 = ad at hw
  have h0e : ad 0 = h0 := by have := hw 0 (by decide); exact (congrArg Prod.fst (Option.some.inj this)).symm
  have hP9 : va_P D vwCl (uw 99 ad (enX ad cs) sX0) H := fun k x h => by obtain ⟨hk, rfl⟩ := uw_of h; exact hP k _ (hw k hk)
  have hJ9 : uJ 99 ad := fun i j hi hj e => hD.1 i j _ _ (hw i hi) (hw j hj) e
  have hn9 : ∀ k, 1 ≤ k → k < 99 → s.heap.size ≤ ad k := fun k h1 h2 => hAn _ (hD.2 k _ (hw k h2)) (fun h => by have := hJ9 k 0 h2 (by omega) (h.trans h0e.symm); omega)
  subst hAe
  exact W.vret hx hb hr (fun t ht hW => ⟨⟨ad, rfl, ⟨h0e, hJ9, hn9⟩, by show va_P D vwCl (uw 99 ad (enX ad cs) sX0) t.heap; rw [ht]; exact hP9⟩, hS.F ht⟩) hS.2.2 dX9_init_153
