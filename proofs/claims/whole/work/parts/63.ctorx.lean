section UP
variable {p : Program} {l : Launch} {e : Env} {R : Room} {s : State} {m : MethodId} {args : Array Value} {below : List Frame} {meth : Method} {c : Code} {H : Heap} {locs : List Loc} {cells slots : Nat} {Q : State → Prop}
variable {cc : ByteArray} {pc nL : Nat} {ls : Array Slot} {rest : List Value} {D : va_G} {cl : List vw_C} {A : Nat → Prop} {cs : Nat → ClassId} {ws : va_W} {Ts : List Cond} {own : String} {lv : List (Nat × Value)}
/-- new C(): the object and what its constructor makes, behind the rest -/
theorem u_made (S : CallFix p m c cc nL s args Ts own) (hK : va_K D cl (tyX cs) s) (hAO : uAO s) (hA : ∀ q, s.heap.size ≤ q → A q) (hP : va_P D cl ws H) (hD : va_D A ws) (hS : va_S A s.heap H locs)
    {y : MethodName} {wy : List Cond} {rm : Room} {ci N nC mc ms idx idy maxL : Nat} {fsd : List Value} {enC : (Nat → Nat) → Nat → (Nat → Int32) → va_E} {σ0 : St} {C : String} {T : u_T} {bytes : ByteArray} (hM : uMc l y wy rm D cl cs ci fsd nC enC σ0 mc ms) (hnC : 0 < nC)
    (hc : cl[ci]? = some (C, T, N)) (hcin : ∀ w ∈ u_ws C T N, w ∈ Ts) (ty : Nat → FieldType) (hty : ∀ k, k < N → parseFieldDescriptor (T k).2.2.1 = some (ty k)) (hfsd : ∀ j, j < N → defaultValue (ty j) = vp_V fsd j)
    (hcl : Cond.classLink own idx C ∈ Ts) (hinst : Cond.instantiable C N ∈ Ts) (hini : Cond.initialized C ∈ Ts)
    (cw : CallB R s args own idy y bytes maxL none wy rm mc ms 0 ∧ y.name = "<init>" ∧ (Cond.instanceMethod y).before args s = true) (hl : lv_has ls nL lv)
    (r1 : cells + 1 ≤ R.cells ∧ slots + N ≤ R.slots) (r2 : cells + 1 + mc ≤ R.cells ∧ slots + N + ms ≤ R.slots) (hW : (rest.map fun v => v.category).sum ≤ 7)
    (d1 : decode cc pc = .ok (.new idx, 3)) (d2 : decode cc (pc + 3) = .ok (.dup, 1)) (d3 : decode cc (pc + 4) = .ok (.invokespecial idy, 3))
    (kk : ∀ (qs : Nat → Nat) (H : Heap) (locs : List Loc), va_P D cl (ws ++ uw nC qs (enC qs) σ0) H → va_D A (ws ++ uw nC qs (enC qs) σ0) → va_S A s.heap H locs →
      W p l e R s m args below meth c H locs (cells + 1 + mc) (slots + N + ms) Q (F0 m (pc + 7) ls (.ref (qs 0) :: rest))) : W p l e R s m args below meth c H locs cells slots Q (F0 m pc ls rest) := by
  obtain ⟨hx, hb, hml, hown, hts⟩ := id S
  refine va_new (ci := ci) (fs := fsd) hx hb hts hcin ty hty hown (hts _ hcl) (hts _ hinst) (hts _ hini) hK hP hD hS hA hc hfsd r1.1 r1.2 d1 (fun q H1 hP1 hD1 hS1 => ?_)
  refine lv_dup hx hb d2 rfl ?_
  have hq : (ws ++ [(q, .inr (ci, fsd))])[ws.length]? = some (q, .inr (ci, fsd)) := by simp
  have hPc : va_P D cl [(q, .inr (ci, fsd))] H1 := fun k x h => by
    have h1 := (List.getElem?_eq_some_iff.mp h).1
    simp at h1
    subst h1
    cases h
    exact hP1 _ _ hq
  have hqA : A q := hD1.2 _ _ hq
  have hfr : ∀ z, uN q H1.size z → A z := fun z h => h.elim (fun h => by rw [h]; exact hqA) (fun h => hA z (Nat.le_trans hS1.1 h))
  refine va_callv (va_runI (As := []) (rest := .ref q :: rest) S (hM q H1.size) cw ⟨uPc_blind, fun U hU hW => ⟨rfl, by rw [hU], by rw [hU]; exact hPc, va_K.moved hW.alike hK, hAO.warm hW⟩⟩ rfl rfl hl.1 rfl (lv_room (by rw [List.map_cons, List.sum_cons]; show 1 + _ ≤ 8; omega)) d3 r2) hS1 (fun z _ h => hfr z h) hfr (fun qs t H2 locs2 ht hvm hw hB hz1 hk1 hS2 => ?_)
  obtain ⟨g0, gJ, gN⟩ := hw
  rw [ht] at hB
  have hPw : va_P D cl ws H2 := fun k x h => by
    have h1 : (ws ++ [(q, .inr (ci, fsd))])[k]? = some x := by rw [List.getElem?_append_left (List.getElem?_eq_some_iff.mp h).1]; exact h
    have hv := hP1 k x h1
    refine hv.kept (hk1 _ hv.lt (fun h2 => ?_))
    rcases h2 with h2 | h2
    · have := hD1.1 k ws.length x _ h1 hq h2
      have := (List.getElem?_eq_some_iff.mp h).1
      omega
    · exact absurd hv.lt (Nat.not_lt.mpr h2)
  have hDw : va_D A ws := hD
  have hDq : va_D A (uw nC qs (enC qs) σ0) := uw_D gJ (fun k hk => by
    rcases Nat.eq_zero_or_pos k with h | h
    · rw [h, g0]; exact hqA
    · exact hA _ (Nat.le_trans hS1.1 (gN k h hk)))
  have hDall : va_D A (ws ++ uw nC qs (enC qs) σ0) := va_D.app hDw hDq (fun i j x z h1 h2 e => by
    obtain ⟨b1, b2⟩ := uw_of h2
    have h3 : (ws ++ [(q, .inr (ci, fsd))])[i]? = some x := by rw [List.getElem?_append_left (List.getElem?_eq_some_iff.mp h1).1]; exact h1
    have hv := hP1 i x h3
    subst b2
    have e : x.1 = qs j := e
    rcases Nat.eq_zero_or_pos j with h | h
    · rw [h, g0] at e
      have := hD1.1 i ws.length x _ h3 hq e
      have := (List.getElem?_eq_some_iff.mp h1).1
      omega
    · have := gN j h b1
      have := hv.lt
      omega)
  have := kk qs H2 locs2 (va_P.app hPw hB) hDall hS2
  rw [g0] at this
  exact this
/-- new C(): the object and what its constructor makes, behind the rest -/
theorem u_madeN (S : CallFix p m c cc nL s args Ts own) (hK : va_K D cl (tyX cs) s) (hAO : uAO s) (hA : ∀ q, s.heap.size ≤ q → A q) (hP : va_P D cl ws H) (hD : va_D A ws) (hS : va_S A s.heap H locs)
    {y : MethodName} {wy : List Cond} {rm : Room} {ci N nC mc ms idx idy maxL : Nat} {fsd : List Value} {enC : (Nat → Nat) → Nat → (Nat → Int32) → va_E} {σ0 : St} {C : String} {T : u_T} {bytes : ByteArray} {host : String} (hM : uMc l y wy rm D cl cs ci fsd nC enC σ0 mc ms) (hnC : 0 < nC)
    (hc : cl[ci]? = some (C, T, N)) (hcin : ∀ w ∈ u_ws C T N, w ∈ Ts) (ty : Nat → FieldType) (hty : ∀ k, k < N → parseFieldDescriptor (T k).2.2.1 = some (ty k)) (hfsd : ∀ j, j < N → defaultValue (ty j) = vp_V fsd j)
    (hcl : Cond.classLink own idx C ∈ Ts) (hinst : Cond.instantiable C N ∈ Ts) (hini : Cond.initialized C ∈ Ts)
    (cw : va_CN R s args own idy y host bytes maxL none wy rm mc ms 0 ∧ y.name = "<init>" ∧ (Cond.instanceMethod y).before args s = true) (hl : lv_has ls nL lv)
    (r1 : cells + 1 ≤ R.cells ∧ slots + N ≤ R.slots) (r2 : cells + 1 + mc ≤ R.cells ∧ slots + N + ms ≤ R.slots) (hW : (rest.map fun v => v.category).sum ≤ 7)
    (d1 : decode cc pc = .ok (.new idx, 3)) (d2 : decode cc (pc + 3) = .ok (.dup, 1)) (d3 : decode cc (pc + 4) = .ok (.invokespecial idy, 3))
    (kk : ∀ (qs : Nat → Nat) (H : Heap) (locs : List Loc), va_P D cl (ws ++ uw nC qs (enC qs) σ0) H → va_D A (ws ++ uw nC qs (enC qs) σ0) → va_S A s.heap H locs →
      W p l e R s m args below meth c H locs (cells + 1 + mc) (slots + N + ms) Q (F0 m (pc + 7) ls (.ref (qs 0) :: rest))) : W p l e R s m args below meth c H locs cells slots Q (F0 m pc ls rest) := by
  obtain ⟨hx, hb, hml, hown, hts⟩ := id S
  refine va_new (ci := ci) (fs := fsd) hx hb hts hcin ty hty hown (hts _ hcl) (hts _ hinst) (hts _ hini) hK hP hD hS hA hc hfsd r1.1 r1.2 d1 (fun q H1 hP1 hD1 hS1 => ?_)
  refine lv_dup hx hb d2 rfl ?_
  have hq : (ws ++ [(q, .inr (ci, fsd))])[ws.length]? = some (q, .inr (ci, fsd)) := by simp
  have hPc : va_P D cl [(q, .inr (ci, fsd))] H1 := fun k x h => by
    have h1 := (List.getElem?_eq_some_iff.mp h).1
    simp at h1
    subst h1
    cases h
    exact hP1 _ _ hq
  have hqA : A q := hD1.2 _ _ hq
  have hfr : ∀ z, uN q H1.size z → A z := fun z h => h.elim (fun h => by rw [h]; exact hqA) (fun h => hA z (Nat.le_trans hS1.1 h))
  refine va_callv (va_runIN (As := []) (rest := .ref q :: rest) S (hM q H1.size) cw ⟨uPc_blind, fun U hU hW => ⟨rfl, by rw [hU], by rw [hU]; exact hPc, va_K.moved hW.alike hK, hAO.warm hW⟩⟩ rfl rfl hl.1 rfl (lv_room (by rw [List.map_cons, List.sum_cons]; show 1 + _ ≤ 8; omega)) d3 r2) hS1 (fun z _ h => hfr z h) hfr (fun qs t H2 locs2 ht hvm hw hB hz1 hk1 hS2 => ?_)
  obtain ⟨g0, gJ, gN⟩ := hw
  rw [ht] at hB
  have hPw : va_P D cl ws H2 := fun k x h => by
    have h1 : (ws ++ [(q, .inr (ci, fsd))])[k]? = some x := by rw [List.getElem?_append_left (List.getElem?_eq_some_iff.mp h).1]; exact h
    have hv := hP1 k x h1
    refine hv.kept (hk1 _ hv.lt (fun h2 => ?_))
    rcases h2 with h2 | h2
    · have := hD1.1 k ws.length x _ h1 hq h2
      have := (List.getElem?_eq_some_iff.mp h).1
      omega
    · exact absurd hv.lt (Nat.not_lt.mpr h2)
  have hDw : va_D A ws := hD
  have hDq : va_D A (uw nC qs (enC qs) σ0) := uw_D gJ (fun k hk => by
    rcases Nat.eq_zero_or_pos k with h | h
    · rw [h, g0]; exact hqA
    · exact hA _ (Nat.le_trans hS1.1 (gN k h hk)))
  have hDall : va_D A (ws ++ uw nC qs (enC qs) σ0) := va_D.app hDw hDq (fun i j x z h1 h2 e => by
    obtain ⟨b1, b2⟩ := uw_of h2
    have h3 : (ws ++ [(q, .inr (ci, fsd))])[i]? = some x := by rw [List.getElem?_append_left (List.getElem?_eq_some_iff.mp h1).1]; exact h1
    have hv := hP1 i x h3
    subst b2
    have e : x.1 = qs j := e
    rcases Nat.eq_zero_or_pos j with h | h
    · rw [h, g0] at e
      have := hD1.1 i ws.length x _ h3 hq e
      have := (List.getElem?_eq_some_iff.mp h1).1
      omega
    · have := gN j h b1
      have := hv.lt
      omega)
  have := kk qs H2 locs2 (va_P.app hPw hB) hDall hS2
  rw [g0] at this
  exact this
end UP

/-! one uniform world behind another -/
def uap {α : Type} (n : Nat) (f g : Nat → α) : Nat → α := fun k => if k < n then f k else g (k - n)
def uen (en : Nat → (Nat → Int32) → va_E) (k0 : Nat) (e : va_E) : Nat → (Nat → Int32) → va_E := fun k f => if k = k0 then e else en k f
theorem uw_app {n1 n2 : Nat} {q1 q2 : Nat → Nat} {e1 e2 : Nat → (Nat → Int32) → va_E} {σ1 σ2 : St} : uw n1 q1 e1 σ1 ++ uw n2 q2 e2 σ2 = uw (n1 + n2) (uap n1 q1 q2) (uap n1 e1 e2) (uap n1 σ1 σ2) := by
  apply List.ext_getElem?
  intro i
  by_cases hi : i < n1
  · rw [List.getElem?_append_left (by simpa [uw] using hi), uw_get hi, uw_get (by omega)]
    simp [uap, hi]
  · have hl : (uw n1 q1 e1 σ1).length = n1 := by simp [uw]
    rw [List.getElem?_append_right (by omega), hl]
    by_cases h2 : i - n1 < n2
    · rw [uw_get h2, uw_get (by omega)]
      simp [uap, hi]
    · have a1 : (uw n2 q2 e2 σ2)[i - n1]? = none := by simp [uw]; omega
      have a2 : (uw (n1 + n2) (uap n1 q1 q2) (uap n1 e1 e2) (uap n1 σ1 σ2))[i]? = none := by simp [uw]; omega
      rw [a1, a2]
theorem uw_one {q : Nat} {e : va_E} : [(q, e)] = uw 1 (fun _ => q) (fun _ _ => e) (fun _ _ => 0) := rfl
theorem uw_setE {n k : Nat} {ad : Nat → Nat} {en : Nat → (Nat → Int32) → va_E} {σ : St} {e : va_E} : (uw n ad en σ).set k (ad k, e) = uw n ad (uen en k e) σ := by
  apply List.ext_getElem?
  intro i
  rw [List.getElem?_set]
  by_cases hi : i < n
  · rw [uw_get hi, uw_get hi]
    by_cases e : k = i
    · subst e
      simp [uen, uw, hi]
    · have e' : ¬ i = k := fun q => e q.symm
      simp [uen, e, e']
  · have h1 : (uw n ad en σ)[i]? = none := by simp [uw]; omega
    have h2 : (uw n ad (uen en k e) σ)[i]? = none := by simp [uw]; omega
    rw [h1, h2]
    by_cases e : k = i
    · subst e
      simp [uw, hi]
    · simp [e]
theorem uw_cons_app {x : Nat × va_E} {n1 n2 : Nat} {q1 q2 : Nat → Nat} {e1 e2 : Nat → (Nat → Int32) → va_E} {σ1 σ2 : St} : (x :: uw n1 q1 e1 σ1) ++ uw n2 q2 e2 σ2 = x :: uw (n1 + n2) (uap n1 q1 q2) (uap n1 e1 e2) (uap n1 σ1 σ2) := by
  rw [List.cons_append, uw_app]
theorem uw_cons_get {x : Nat × va_E} {n k : Nat} {ad : Nat → Nat} {en : Nat → (Nat → Int32) → va_E} {σ : St} (hk : k < n) : (x :: uw n ad en σ)[k + 1]? = some (ad k, en k (σ k)) := by
  rw [List.getElem?_cons_succ]
  exact uw_get hk
section UP2
variable {p : Program} {l : Launch} {e : Env} {R : Room} {s : State} {m : MethodId} {args : Array Value} {below : List Frame} {meth : Method} {c : Code} {H : Heap} {locs : List Loc} {cells slots : Nat} {Q : State → Prop}
variable {cc : ByteArray} {pc nL : Nat} {ls : Array Slot} {rest : List Value} {D : va_G} {cl : List vw_C} {A : Nat → Prop} {cs : Nat → ClassId} {Ts : List Cond} {own : String} {lv : List (Nat × Value)} {x : Nat × va_E} {n : Nat} {ad : Nat → Nat} {en : Nat → (Nat → Int32) → va_E} {σ : St}
theorem u_made2 (S : CallFix p m c cc nL s args Ts own) (hK : va_K D cl (tyX cs) s) (hAO : uAO s) (hA : ∀ q, s.heap.size ≤ q → A q) (hP : va_P D cl (x :: uw n ad en σ) H) (hD : va_D A (x :: uw n ad en σ)) (hS : va_S A s.heap H locs)
    {y : MethodName} {wy : List Cond} {rm : Room} {ci N nC mc ms idx idy maxL : Nat} {fsd : List Value} {enC : (Nat → Nat) → Nat → (Nat → Int32) → va_E} {σ0 : St} {C : String} {T : u_T} {bytes : ByteArray} (hM : uMc l y wy rm D cl cs ci fsd nC enC σ0 mc ms) (hnC : 0 < nC)
    (hc : cl[ci]? = some (C, T, N)) (hcin : ∀ w ∈ u_ws C T N, w ∈ Ts) (ty : Nat → FieldType) (hty : ∀ k, k < N → parseFieldDescriptor (T k).2.2.1 = some (ty k)) (hfsd : ∀ j, j < N → defaultValue (ty j) = vp_V fsd j)
    (hcl : Cond.classLink own idx C ∈ Ts) (hinst : Cond.instantiable C N ∈ Ts) (hini : Cond.initialized C ∈ Ts)
    (cw : CallB R s args own idy y bytes maxL none wy rm mc ms 0 ∧ y.name = "<init>" ∧ (Cond.instanceMethod y).before args s = true) (hl : lv_has ls nL lv) {n2 c2 s2 : Nat} (hn2 : n + nC = n2) (hc2 : cells + 1 + mc = c2) (hs2 : slots + N + ms = s2)
    (r1 : cells + 1 ≤ R.cells ∧ slots + N ≤ R.slots) (r2 : cells + 1 + mc ≤ R.cells ∧ slots + N + ms ≤ R.slots) (hW : (rest.map fun v => v.category).sum ≤ 7)
    (d1 : decode cc pc = .ok (.new idx, 3)) (d2 : decode cc (pc + 3) = .ok (.dup, 1)) (d3 : decode cc (pc + 4) = .ok (.invokespecial idy, 3))
    (kk : ∀ (qs : Nat → Nat) (H : Heap) (locs : List Loc), va_P D cl (x :: uw n2 (uap n ad qs) (uap n en (enC qs)) (uap n σ σ0)) H → va_D A (x :: uw n2 (uap n ad qs) (uap n en (enC qs)) (uap n σ σ0)) → va_S A s.heap H locs →
      W p l e R s m args below meth c H locs c2 s2 Q (F0 m (pc + 7) ls (.ref (qs 0) :: rest))) : W p l e R s m args below meth c H locs cells slots Q (F0 m pc ls rest) := by
  subst hn2
  subst hc2
  subst hs2
  refine u_made S hK hAO hA hP hD hS hM hnC hc hcin ty hty hfsd hcl hinst hini cw hl r1 r2 hW d1 d2 d3 (fun qs H locs hP hD hS => ?_)
  rw [uw_cons_app] at hP hD
  exact kk qs H locs hP hD hS
theorem u_made2N (S : CallFix p m c cc nL s args Ts own) (hK : va_K D cl (tyX cs) s) (hAO : uAO s) (hA : ∀ q, s.heap.size ≤ q → A q) (hP : va_P D cl (x :: uw n ad en σ) H) (hD : va_D A (x :: uw n ad en σ)) (hS : va_S A s.heap H locs)
    {y : MethodName} {wy : List Cond} {rm : Room} {ci N nC mc ms idx idy maxL : Nat} {fsd : List Value} {enC : (Nat → Nat) → Nat → (Nat → Int32) → va_E} {σ0 : St} {C : String} {T : u_T} {bytes : ByteArray} {host : String} (hM : uMc l y wy rm D cl cs ci fsd nC enC σ0 mc ms) (hnC : 0 < nC)
    (hc : cl[ci]? = some (C, T, N)) (hcin : ∀ w ∈ u_ws C T N, w ∈ Ts) (ty : Nat → FieldType) (hty : ∀ k, k < N → parseFieldDescriptor (T k).2.2.1 = some (ty k)) (hfsd : ∀ j, j < N → defaultValue (ty j) = vp_V fsd j)
    (hcl : Cond.classLink own idx C ∈ Ts) (hinst : Cond.instantiable C N ∈ Ts) (hini : Cond.initialized C ∈ Ts)
    (cw : va_CN R s args own idy y host bytes maxL none wy rm mc ms 0 ∧ y.name = "<init>" ∧ (Cond.instanceMethod y).before args s = true) (hl : lv_has ls nL lv) {n2 c2 s2 : Nat} (hn2 : n + nC = n2) (hc2 : cells + 1 + mc = c2) (hs2 : slots + N + ms = s2)
    (r1 : cells + 1 ≤ R.cells ∧ slots + N ≤ R.slots) (r2 : cells + 1 + mc ≤ R.cells ∧ slots + N + ms ≤ R.slots) (hW : (rest.map fun v => v.category).sum ≤ 7)
    (d1 : decode cc pc = .ok (.new idx, 3)) (d2 : decode cc (pc + 3) = .ok (.dup, 1)) (d3 : decode cc (pc + 4) = .ok (.invokespecial idy, 3))
    (kk : ∀ (qs : Nat → Nat) (H : Heap) (locs : List Loc), va_P D cl (x :: uw n2 (uap n ad qs) (uap n en (enC qs)) (uap n σ σ0)) H → va_D A (x :: uw n2 (uap n ad qs) (uap n en (enC qs)) (uap n σ σ0)) → va_S A s.heap H locs →
      W p l e R s m args below meth c H locs c2 s2 Q (F0 m (pc + 7) ls (.ref (qs 0) :: rest))) : W p l e R s m args below meth c H locs cells slots Q (F0 m pc ls rest) := by
  subst hn2
  subst hc2
  subst hs2
  refine u_madeN S hK hAO hA hP hD hS hM hnC hc hcin ty hty hfsd hcl hinst hini cw hl r1 r2 hW d1 d2 d3 (fun qs H locs hP hD hS => ?_)
  rw [uw_cons_app] at hP hD
  exact kk qs H locs hP hD hS
theorem u_newa2 (t : Nat) (hexec : p.tables.exec = Jvm.exec) (hb : c.code = cc) {atype : ArrayType} (harr : (Cond.arrayClass (newarray.typeOf atype)).before args s = true) {ty : FieldType} (hty : newarray.typeOf atype = ty) (hK : va_K D cl (tyX cs) s) (hP : va_P D cl (x :: uw n ad en σ) H) (hD : va_D A (x :: uw n ad en σ)) (hS : va_S A s.heap H locs) (hA : ∀ q, s.heap.size ≤ q → A q)
    {k : Int32} {N' : Nat} (hdv : defaultValue ty = .int 0) (ht : (tyX cs)[t]? = some (cs t, ty)) (hno : ∀ C, ty ≠ .object C) (hn : ¬ k < 0) (hN : k.toNatClampNeg = N') (hbytes : N' * componentBytes ty ≤ 536870912) {n2 c2 s2 : Nat} (hn2 : n + 1 = n2) (hc2 : cells + 1 = c2) (hs2 : slots + N' = s2) (hcells : cells + 1 ≤ R.cells) (hslots : slots + N' ≤ R.slots) (hdg : decode cc pc = .ok (.newarray atype, 2))
    (kk : ∀ (q : Nat) (H : Heap), va_P D cl (x :: uw n2 (uap n ad (fun _ => q)) (uap n en (fun _ _ => .inl (cs t, N', .inl (fun _ => 0)))) (uap n σ (fun _ _ => 0))) H → va_D A (x :: uw n2 (uap n ad (fun _ => q)) (uap n en (fun _ _ => .inl (cs t, N', .inl (fun _ => 0)))) (uap n σ (fun _ _ => 0))) → va_S A s.heap H locs →
      W p l e R s m args below meth c H locs c2 s2 Q (F0 m (pc + 2) ls (.ref q :: rest))) : W p l e R s m args below meth c H locs cells slots Q (F0 m pc ls (.int k :: rest)) := by
  subst hn2
  subst hc2
  subst hs2
  refine u_newa t hexec hb harr hty hK hP hD hS hA hdv ht hno hn hN hbytes hcells hslots hdg (fun q H hP hD hS => ?_)
  rw [uw_one, uw_cons_app] at hP hD
  exact kk q H hP hD hS
theorem u_newq2 (hexec : p.tables.exec = Jvm.exec) (hb : c.code = cc) {C : String} {index : Nat} (t : Nat) (hown : s.vm.findClass own = some m.cls) (hclink : (Cond.classLink own index C).before args s = true) (hover : va_AO C s) (hK : va_K D cl (tyX cs) s) (hP : va_P D cl (x :: uw n ad en σ) H) (hD : va_D A (x :: uw n ad en σ)) (hS : va_S A s.heap H locs) (hA : ∀ q, s.heap.size ≤ q → A q) (ht : (tyX cs)[t]? = some (cs t, .object C))
    {k : Int32} {N' : Nat} (hn : ¬ k < 0) (hN : k.toNatClampNeg = N') (hbytes : N' * 4 ≤ 536870912) {n2 c2 s2 : Nat} (hn2 : n + 1 = n2) (hc2 : cells + 1 = c2) (hs2 : slots + N' = s2) (hcells : cells + 1 ≤ R.cells) (hslots : slots + N' ≤ R.slots) (hdg : decode cc pc = .ok (.anewarray index, 3))
    (kk : ∀ (q : Nat) (H : Heap), va_P D cl (x :: uw n2 (uap n ad (fun _ => q)) (uap n en (fun _ _ => .inl (cs t, N', .inr (.inr (.inr (.inr (fun _ => none))))))) (uap n σ (fun _ _ => 0))) H → va_D A (x :: uw n2 (uap n ad (fun _ => q)) (uap n en (fun _ _ => .inl (cs t, N', .inr (.inr (.inr (.inr (fun _ => none))))))) (uap n σ (fun _ _ => 0))) → va_S A s.heap H locs →
      W p l e R s m args below meth c H locs c2 s2 Q (F0 m (pc + 3) ls (.ref q :: rest))) : W p l e R s m args below meth c H locs cells slots Q (F0 m pc ls (.int k :: rest)) := by
  subst hn2
  subst hc2
  subst hs2
  refine va_newq hexec hb hown hclink hover hK hP hD hS hA hn hN hbytes hcells hslots hdg (fun q cA H hK1 hP hD hS => ?_)
  have ec := uK_clsO t hK1 ht
  subst ec
  rw [uw_one, uw_cons_app] at hP hD
  exact kk q H hP hD hS
theorem u_astq2 (hexec : p.tables.exec = Jvm.exec) (hb : c.code = cc) (hK : va_K D cl (tyX cs) s) (hP : va_P D cl (x :: uw n ad en σ) H) (hD : va_D A (x :: uw n ad en σ)) (hS : va_S A s.heap H locs) (k0 k1 t ci : Nat) {r : vw_C} {N v : Nat} {vs : List Value} {g : Nat → Option Nat} {a : Nat} (h0 : k0 < n) (h1 : k1 < n) (ea : ad k0 = a) (e0 : en k0 (σ k0) = .inl (cs t, N, .inr (.inr (.inr (.inr g))))) (ht : (tyX cs)[t]? = some (cs t, .object r.1)) (ev : ad k1 = v) (e1 : en k1 (σ k1) = .inr (ci, vs)) (hc : cl[ci]? = some r) {i : Int32} (hin : vp_in i N) (hdg : decode cc pc = .ok (.aastore, 1))
    (kk : ∀ (H : Heap) (locs : List Loc), va_P D cl (x :: uw n ad (uen en k0 (.inl (cs t, N, .inr (.inr (.inr (.inr (va_up g i.toNatClampNeg (some v)))))))) σ) H → va_D A (x :: uw n ad (uen en k0 (.inl (cs t, N, .inr (.inr (.inr (.inr (va_up g i.toNatClampNeg (some v)))))))) σ) → va_S A s.heap H locs → W p l e R s m args below meth c H locs cells slots Q (F0 m (pc + 1) ls rest)) : W p l e R s m args below meth c H locs cells slots Q (F0 m pc ls (.ref v :: .int i :: .ref a :: rest)) := by
  subst ea
  subst ev
  refine va_astq (r := r) hexec hb hK hP hD hS (k0 + 1) t (k1 + 1) ci (by rw [uw_cons_get h0, e0]) ht (by rw [uw_cons_get h1, e1]) hc hin hdg (fun H locs hP hD hS => ?_)
  rw [List.set_cons_succ, uw_setE] at hP hD
  exact kk H locs hP hD hS
end UP2

def sX0 : St := (us (us (uf (fun _ _ => 0) 3 (upd (upd (upd (upd (fun _ => 0) 0 (-1)) 1 (-1)) 2 (-1)) 3 (-1))) 71 4 1) 71 5 1900)
theorem pcons {D : va_G} {cl : List vw_C} {a : Nat} {e0 e : va_E} {w : va_W} {H : Heap} (h : e0 = e) (hP : va_P D cl ((a, e0) :: w) H) : va_P D cl ((a, e) :: w) H := h ▸ hP
theorem dcons {A : Nat → Prop} {a : Nat} {e0 e : va_E} {w : va_W} (h : e0 = e) (hD : va_D A ((a, e0) :: w)) : va_D A ((a, e) :: w) := h ▸ hD
def adR (ql qsp qtf : Nat) (q5 q8 qL0 qL1 qL2 qL3 q6 q1 q0 q7 q4 q4b q3 : Nat → Nat) : Nat → Nat := (uap 97 (uap 96 (uap 95 (uap 90 (uap 85 (uap 82 (uap 79 (uap 74 (uap 70 (uap 61 (uap 52 (uap 43 (uap 34 (uap 33 (uap 7 (uap 0 (fun _ => 0) q5) q8) (fun _ => ql)) qL0) qL1) qL2) qL3) q6) q1) q0) q7) q4) q4b) q3) (fun _ => qsp)) (fun _ => qtf))
def enR (cs : Nat → ClassId) (ql qsp qtf : Nat) (q5 q8 qL0 qL1 qL2 qL3 q6 q1 q0 q7 q4 q4b q3 : Nat → Nat) : Nat → (Nat → Int32) → va_E := (uap 97 (uap 96 (uap 95 (uap 90 (uap 85 (uap 82 (uap 79 (uap 74 (uap 70 (uen (uap 61 (uen (uap 52 (uen (uap 43 (uen (uap 34 (uap 33 (uap 7 (uap 0 (fun _ _ => .inr (0, [])) (enX5 cs q5)) (enX8 cs q8)) (fun _ _ => .inl (cs 3, 4, .inr (.inr (.inr (.inr (fun _ => none))))))) (enX2 cs qL0)) 33 (.inl (cs 3, 4, .inr (.inr (.inr (.inr (va_up (fun _ => none) (0 : Int32).toNatClampNeg (some (qL0 0))))))))) (enX2 cs qL1)) 33 (.inl (cs 3, 4, .inr (.inr (.inr (.inr (va_up (va_up (fun _ => none) (0 : Int32).toNatClampNeg (some (qL0 0))) (1 : Int32).toNatClampNeg (some (qL1 0))))))))) (enX2 cs qL2)) 33 (.inl (cs 3, 4, .inr (.inr (.inr (.inr (va_up (va_up (va_up (fun _ => none) (0 : Int32).toNatClampNeg (some (qL0 0))) (1 : Int32).toNatClampNeg (some (qL1 0))) (2 : Int32).toNatClampNeg (some (qL2 0))))))))) (enX2 cs qL3)) 33 (.inl (cs 3, 4, .inr (.inr (.inr (.inr (va_up (va_up (va_up (va_up (fun _ => none) (0 : Int32).toNatClampNeg (some (qL0 0))) (1 : Int32).toNatClampNeg (some (qL1 0))) (2 : Int32).toNatClampNeg (some (qL2 0))) (3 : Int32).toNatClampNeg (some (qL3 0))))))))) (enX6 cs q6)) (enX1 cs q1)) (enX0 cs q0)) (enX7 cs q7)) (enX4 cs q4)) (enX4 cs q4b)) (enX3 cs q3)) (fun _ _ => .inl (cs 0, 10, .inl (fun _ => 0)))) (fun _ _ => .inl (cs 0, 6, .inl (fun _ => 0))))
def sgR : St := (uap 97 (uap 96 (uap 95 (uap 90 (uap 85 (uap 82 (uap 79 (uap 74 (uap 70 (uap 61 (uap 52 (uap 43 (uap 34 (uap 33 (uap 7 (uap 0 (fun _ _ => 0) (uf (fun _ _ => 0) 2 (upd (upd (upd (upd (fun _ => 0) 0 (-1)) 1 (-1)) 2 (-1)) 3 (-1)))) (fun _ _ => 0)) (fun _ _ => 0)) (fun _ _ => 0)) (fun _ _ => 0)) (fun _ _ => 0)) (fun _ _ => 0)) (us (us (fun _ _ => 0) 0 4 1) 0 5 1900)) (fun _ _ => 0)) (fun _ _ => 0)) (fun _ _ => 0)) (fun _ _ => 0)) (fun _ _ => 0)) (fun _ _ => 0)) (fun _ _ => 0)) (fun _ _ => 0))
def adX (h0 ql qsp qtf : Nat) (q5 q8 qL0 qL1 qL2 qL3 q6 q1 q0 q7 q4 q4b q3 : Nat → Nat) : Nat → Nat := fun k => match k with | 0 => h0 | k + 1 => adR ql qsp qtf q5 q8 qL0 qL1 qL2 qL3 q6 q1 q0 q7 q4 q4b q3 k
set_option maxHeartbeats 400000 in
set_option maxRecDepth 100000 in
theorem xw_1 (cs : Nat → ClassId) (h0 ql qsp qtf : Nat) (q5 q8 qL0 qL1 qL2 qL3 q6 q1 q0 q7 q4 q4b q3 : Nat → Nat) : enR cs ql qsp qtf q5 q8 qL0 qL1 qL2 qL3 q6 q1 q0 q7 q4 q4b q3 0 (sgR 0) = enX (adX h0 ql qsp qtf q5 q8 qL0 qL1 qL2 qL3 q6 q1 q0 q7 q4 q4b q3) cs 1 (sX0 1) := rfl
set_option maxHeartbeats 400000 in
set_option maxRecDepth 100000 in
theorem xw_2 (cs : Nat → ClassId) (h0 ql qsp qtf : Nat) (q5 q8 qL0 qL1 qL2 qL3 q6 q1 q0 q7 q4 q4b q3 : Nat → Nat) : enR cs ql qsp qtf q5 q8 qL0 qL1 qL2 qL3 q6 q1 q0 q7 q4 q4b q3 1 (sgR 1) = enX (adX h0 ql qsp qtf q5 q8 qL0 qL1 qL2 qL3 q6 q1 q0 q7 q4 q4b q3) cs 2 (sX0 2) := by
  refine congrArg (fun g => (.inl (cs 4, 4, .inr (.inr (.inr (.inr g)))) : va_E)) (funext fun i => ?_)
  by_cases hi : i < 4
  · match i, hi with
    | 0, _ => rfl
    | 1, _ => rfl
    | 2, _ => rfl
    | 3, _ => rfl
  · simp [hi]
set_option maxHeartbeats 400000 in
set_option maxRecDepth 100000 in
theorem xw_3 (cs : Nat → ClassId) (h0 ql qsp qtf : Nat) (q5 q8 qL0 qL1 qL2 qL3 q6 q1 q0 q7 q4 q4b q3 : Nat → Nat) : enR cs ql qsp qtf q5 q8 qL0 qL1 qL2 qL3 q6 q1 q0 q7 q4 q4b q3 2 (sgR 2) = enX (adX h0 ql qsp qtf q5 q8 qL0 qL1 qL2 qL3 q6 q1 q0 q7 q4 q4b q3) cs 3 (sX0 3) := rfl
set_option maxHeartbeats 400000 in
set_option maxRecDepth 100000 in
theorem xw_4 (cs : Nat → ClassId) (h0 ql qsp qtf : Nat) (q5 q8 qL0 qL1 qL2 qL3 q6 q1 q0 q7 q4 q4b q3 : Nat → Nat) : enR cs ql qsp qtf q5 q8 qL0 qL1 qL2 qL3 q6 q1 q0 q7 q4 q4b q3 3 (sgR 3) = enX (adX h0 ql qsp qtf q5 q8 qL0 qL1 qL2 qL3 q6 q1 q0 q7 q4 q4b q3) cs 4 (sX0 4) := rfl
set_option maxHeartbeats 400000 in
set_option maxRecDepth 100000 in
theorem xw_5 (cs : Nat → ClassId) (h0 ql qsp qtf : Nat) (q5 q8 qL0 qL1 qL2 qL3 q6 q1 q0 q7 q4 q4b q3 : Nat → Nat) : enR cs ql qsp qtf q5 q8 qL0 qL1 qL2 qL3 q6 q1 q0 q7 q4 q4b q3 4 (sgR 4) = enX (adX h0 ql qsp qtf q5 q8 qL0 qL1 qL2 qL3 q6 q1 q0 q7 q4 q4b q3) cs 5 (sX0 5) := rfl
set_option maxHeartbeats 400000 in
set_option maxRecDepth 100000 in
theorem xw_6 (cs : Nat → ClassId) (h0 ql qsp qtf : Nat) (q5 q8 qL0 qL1 qL2 qL3 q6 q1 q0 q7 q4 q4b q3 : Nat → Nat) : enR cs ql qsp qtf q5 q8 qL0 qL1 qL2 qL3 q6 q1 q0 q7 q4 q4b q3 5 (sgR 5) = enX (adX h0 ql qsp qtf q5 q8 qL0 qL1 qL2 qL3 q6 q1 q0 q7 q4 q4b q3) cs 6 (sX0 6) := rfl
set_option maxHeartbeats 400000 in
set_option maxRecDepth 100000 in
theorem xw_7 (cs : Nat → ClassId) (h0 ql qsp qtf : Nat) (q5 q8 qL0 qL1 qL2 qL3 q6 q1 q0 q7 q4 q4b q3 : Nat → Nat) : enR cs ql qsp qtf q5 q8 qL0 qL1 qL2 qL3 q6 q1 q0 q7 q4 q4b q3 6 (sgR 6) = enX (adX h0 ql qsp qtf q5 q8 qL0 qL1 qL2 qL3 q6 q1 q0 q7 q4 q4b q3) cs 7 (sX0 7) := rfl
set_option maxHeartbeats 400000 in
set_option maxRecDepth 100000 in
theorem xw_8 (cs : Nat → ClassId) (h0 ql qsp qtf : Nat) (q5 q8 qL0 qL1 qL2 qL3 q6 q1 q0 q7 q4 q4b q3 : Nat → Nat) : enR cs ql qsp qtf q5 q8 qL0 qL1 qL2 qL3 q6 q1 q0 q7 q4 q4b q3 7 (sgR 7) = enX (adX h0 ql qsp qtf q5 q8 qL0 qL1 qL2 qL3 q6 q1 q0 q7 q4 q4b q3) cs 8 (sX0 8) := rfl
set_option maxHeartbeats 400000 in
set_option maxRecDepth 100000 in
theorem xw_9 (cs : Nat → ClassId) (h0 ql qsp qtf : Nat) (q5 q8 qL0 qL1 qL2 qL3 q6 q1 q0 q7 q4 q4b q3 : Nat → Nat) : enR cs ql qsp qtf q5 q8 qL0 qL1 qL2 qL3 q6 q1 q0 q7 q4 q4b q3 8 (sgR 8) = enX (adX h0 ql qsp qtf q5 q8 qL0 qL1 qL2 qL3 q6 q1 q0 q7 q4 q4b q3) cs 9 (sX0 9) := rfl
set_option maxHeartbeats 400000 in
set_option maxRecDepth 100000 in
theorem xw_10 (cs : Nat → ClassId) (h0 ql qsp qtf : Nat) (q5 q8 qL0 qL1 qL2 qL3 q6 q1 q0 q7 q4 q4b q3 : Nat → Nat) : enR cs ql qsp qtf q5 q8 qL0 qL1 qL2 qL3 q6 q1 q0 q7 q4 q4b q3 9 (sgR 9) = enX (adX h0 ql qsp qtf q5 q8 qL0 qL1 qL2 qL3 q6 q1 q0 q7 q4 q4b q3) cs 10 (sX0 10) := by
  refine congrArg (fun g => (.inl (cs 4, 16, .inr (.inr (.inr (.inr g)))) : va_E)) (funext fun i => ?_)
  by_cases hi : i < 16
  · match i, hi with
    | 0, _ => rfl
    | 1, _ => rfl
    | 2, _ => rfl
    | 3, _ => rfl
    | 4, _ => rfl
    | 5, _ => rfl
    | 6, _ => rfl
    | 7, _ => rfl
    | 8, _ => rfl
    | 9, _ => rfl
    | 10, _ => rfl
    | 11, _ => rfl
    | 12, _ => rfl
    | 13, _ => rfl
    | 14, _ => rfl
    | 15, _ => rfl
    | n + 16, h => exact absurd h (by omega)
  · simp [hi]
set_option maxHeartbeats 400000 in
set_option maxRecDepth 100000 in
theorem xw_11 (cs : Nat → ClassId) (h0 ql qsp qtf : Nat) (q5 q8 qL0 qL1 qL2 qL3 q6 q1 q0 q7 q4 q4b q3 : Nat → Nat) : enR cs ql qsp qtf q5 q8 qL0 qL1 qL2 qL3 q6 q1 q0 q7 q4 q4b q3 10 (sgR 10) = enX (adX h0 ql qsp qtf q5 q8 qL0 qL1 qL2 qL3 q6 q1 q0 q7 q4 q4b q3) cs 11 (sX0 11) := rfl
set_option maxHeartbeats 400000 in
set_option maxRecDepth 100000 in
theorem xw_12 (cs : Nat → ClassId) (h0 ql qsp qtf : Nat) (q5 q8 qL0 qL1 qL2 qL3 q6 q1 q0 q7 q4 q4b q3 : Nat → Nat) : enR cs ql qsp qtf q5 q8 qL0 qL1 qL2 qL3 q6 q1 q0 q7 q4 q4b q3 11 (sgR 11) = enX (adX h0 ql qsp qtf q5 q8 qL0 qL1 qL2 qL3 q6 q1 q0 q7 q4 q4b q3) cs 12 (sX0 12) := rfl
set_option maxHeartbeats 400000 in
set_option maxRecDepth 100000 in
theorem xw_13 (cs : Nat → ClassId) (h0 ql qsp qtf : Nat) (q5 q8 qL0 qL1 qL2 qL3 q6 q1 q0 q7 q4 q4b q3 : Nat → Nat) : enR cs ql qsp qtf q5 q8 qL0 qL1 qL2 qL3 q6 q1 q0 q7 q4 q4b q3 12 (sgR 12) = enX (adX h0 ql qsp qtf q5 q8 qL0 qL1 qL2 qL3 q6 q1 q0 q7 q4 q4b q3) cs 13 (sX0 13) := rfl
set_option maxHeartbeats 400000 in
set_option maxRecDepth 100000 in
theorem xw_14 (cs : Nat → ClassId) (h0 ql qsp qtf : Nat) (q5 q8 qL0 qL1 qL2 qL3 q6 q1 q0 q7 q4 q4b q3 : Nat → Nat) : enR cs ql qsp qtf q5 q8 qL0 qL1 qL2 qL3 q6 q1 q0 q7 q4 q4b q3 13 (sgR 13) = enX (adX h0 ql qsp qtf q5 q8 qL0 qL1 qL2 qL3 q6 q1 q0 q7 q4 q4b q3) cs 14 (sX0 14) := rfl
set_option maxHeartbeats 400000 in
set_option maxRecDepth 100000 in
theorem xw_15 (cs : Nat → ClassId) (h0 ql qsp qtf : Nat) (q5 q8 qL0 qL1 qL2 qL3 q6 q1 q0 q7 q4 q4b q3 : Nat → Nat) : enR cs ql qsp qtf q5 q8 qL0 qL1 qL2 qL3 q6 q1 q0 q7 q4 q4b q3 14 (sgR 14) = enX (adX h0 ql qsp qtf q5 q8 qL0 qL1 qL2 qL3 q6 q1 q0 q7 q4 q4b q3) cs 15 (sX0 15) := rfl
set_option maxHeartbeats 400000 in
set_option maxRecDepth 100000 in
theorem xw_16 (cs : Nat → ClassId) (h0 ql qsp qtf : Nat) (q5 q8 qL0 qL1 qL2 qL3 q6 q1 q0 q7 q4 q4b q3 : Nat → Nat) : enR cs ql qsp qtf q5 q8 qL0 qL1 qL2 qL3 q6 q1 q0 q7 q4 q4b q3 15 (sgR 15) = enX (adX h0 ql qsp qtf q5 q8 qL0 qL1 qL2 qL3 q6 q1 q0 q7 q4 q4b q3) cs 16 (sX0 16) := rfl
set_option maxHeartbeats 400000 in
set_option maxRecDepth 100000 in
theorem xw_17 (cs : Nat → ClassId) (h0 ql qsp qtf : Nat) (q5 q8 qL0 qL1 qL2 qL3 q6 q1 q0 q7 q4 q4b q3 : Nat → Nat) : enR cs ql qsp qtf q5 q8 qL0 qL1 qL2 qL3 q6 q1 q0 q7 q4 q4b q3 16 (sgR 16) = enX (adX h0 ql qsp qtf q5 q8 qL0 qL1 qL2 qL3 q6 q1 q0 q7 q4 q4b q3) cs 17 (sX0 17) := rfl
set_option maxHeartbeats 400000 in
set_option maxRecDepth 100000 in
theorem xw_18 (cs : Nat → ClassId) (h0 ql qsp qtf : Nat) (q5 q8 qL0 qL1 qL2 qL3 q6 q1 q0 q7 q4 q4b q3 : Nat → Nat) : enR cs ql qsp qtf q5 q8 qL0 qL1 qL2 qL3 q6 q1 q0 q7 q4 q4b q3 17 (sgR 17) = enX (adX h0 ql qsp qtf q5 q8 qL0 qL1 qL2 qL3 q6 q1 q0 q7 q4 q4b q3) cs 18 (sX0 18) := rfl
set_option maxHeartbeats 400000 in
set_option maxRecDepth 100000 in
theorem xw_19 (cs : Nat → ClassId) (h0 ql qsp qtf : Nat) (q5 q8 qL0 qL1 qL2 qL3 q6 q1 q0 q7 q4 q4b q3 : Nat → Nat) : enR cs ql qsp qtf q5 q8 qL0 qL1 qL2 qL3 q6 q1 q0 q7 q4 q4b q3 18 (sgR 18) = enX (adX h0 ql qsp qtf q5 q8 qL0 qL1 qL2 qL3 q6 q1 q0 q7 q4 q4b q3) cs 19 (sX0 19) := rfl
set_option maxHeartbeats 400000 in
set_option maxRecDepth 100000 in
theorem xw_20 (cs : Nat → ClassId) (h0 ql qsp qtf : Nat) (q5 q8 qL0 qL1 qL2 qL3 q6 q1 q0 q7 q4 q4b q3 : Nat → Nat) : enR cs ql qsp qtf q5 q8 qL0 qL1 qL2 qL3 q6 q1 q0 q7 q4 q4b q3 19 (sgR 19) = enX (adX h0 ql qsp qtf q5 q8 qL0 qL1 qL2 qL3 q6 q1 q0 q7 q4 q4b q3) cs 20 (sX0 20) := rfl
set_option maxHeartbeats 400000 in
set_option maxRecDepth 100000 in
theorem xw_21 (cs : Nat → ClassId) (h0 ql qsp qtf : Nat) (q5 q8 qL0 qL1 qL2 qL3 q6 q1 q0 q7 q4 q4b q3 : Nat → Nat) : enR cs ql qsp qtf q5 q8 qL0 qL1 qL2 qL3 q6 q1 q0 q7 q4 q4b q3 20 (sgR 20) = enX (adX h0 ql qsp qtf q5 q8 qL0 qL1 qL2 qL3 q6 q1 q0 q7 q4 q4b q3) cs 21 (sX0 21) := rfl
set_option maxHeartbeats 400000 in
set_option maxRecDepth 100000 in
theorem xw_22 (cs : Nat → ClassId) (h0 ql qsp qtf : Nat) (q5 q8 qL0 qL1 qL2 qL3 q6 q1 q0 q7 q4 q4b q3 : Nat → Nat) : enR cs ql qsp qtf q5 q8 qL0 qL1 qL2 qL3 q6 q1 q0 q7 q4 q4b q3 21 (sgR 21) = enX (adX h0 ql qsp qtf q5 q8 qL0 qL1 qL2 qL3 q6 q1 q0 q7 q4 q4b q3) cs 22 (sX0 22) := rfl
set_option maxHeartbeats 400000 in
set_option maxRecDepth 100000 in
theorem xw_23 (cs : Nat → ClassId) (h0 ql qsp qtf : Nat) (q5 q8 qL0 qL1 qL2 qL3 q6 q1 q0 q7 q4 q4b q3 : Nat → Nat) : enR cs ql qsp qtf q5 q8 qL0 qL1 qL2 qL3 q6 q1 q0 q7 q4 q4b q3 22 (sgR 22) = enX (adX h0 ql qsp qtf q5 q8 qL0 qL1 qL2 qL3 q6 q1 q0 q7 q4 q4b q3) cs 23 (sX0 23) := rfl
set_option maxHeartbeats 400000 in
set_option maxRecDepth 100000 in
theorem xw_24 (cs : Nat → ClassId) (h0 ql qsp qtf : Nat) (q5 q8 qL0 qL1 qL2 qL3 q6 q1 q0 q7 q4 q4b q3 : Nat → Nat) : enR cs ql qsp qtf q5 q8 qL0 qL1 qL2 qL3 q6 q1 q0 q7 q4 q4b q3 23 (sgR 23) = enX (adX h0 ql qsp qtf q5 q8 qL0 qL1 qL2 qL3 q6 q1 q0 q7 q4 q4b q3) cs 24 (sX0 24) := rfl
set_option maxHeartbeats 400000 in
set_option maxRecDepth 100000 in
theorem xw_25 (cs : Nat → ClassId) (h0 ql qsp qtf : Nat) (q5 q8 qL0 qL1 qL2 qL3 q6 q1 q0 q7 q4 q4b q3 : Nat → Nat) : enR cs ql qsp qtf q5 q8 qL0 qL1 qL2 qL3 q6 q1 q0 q7 q4 q4b q3 24 (sgR 24) = enX (adX h0 ql qsp qtf q5 q8 qL0 qL1 qL2 qL3 q6 q1 q0 q7 q4 q4b q3) cs 25 (sX0 25) := rfl
set_option maxHeartbeats 400000 in
set_option maxRecDepth 100000 in
theorem xw_26 (cs : Nat → ClassId) (h0 ql qsp qtf : Nat) (q5 q8 qL0 qL1 qL2 qL3 q6 q1 q0 q7 q4 q4b q3 : Nat → Nat) : enR cs ql qsp qtf q5 q8 qL0 qL1 qL2 qL3 q6 q1 q0 q7 q4 q4b q3 25 (sgR 25) = enX (adX h0 ql qsp qtf q5 q8 qL0 qL1 qL2 qL3 q6 q1 q0 q7 q4 q4b q3) cs 26 (sX0 26) := rfl
set_option maxHeartbeats 400000 in
set_option maxRecDepth 100000 in
theorem xw_27 (cs : Nat → ClassId) (h0 ql qsp qtf : Nat) (q5 q8 qL0 qL1 qL2 qL3 q6 q1 q0 q7 q4 q4b q3 : Nat → Nat) : enR cs ql qsp qtf q5 q8 qL0 qL1 qL2 qL3 q6 q1 q0 q7 q4 q4b q3 26 (sgR 26) = enX (adX h0 ql qsp qtf q5 q8 qL0 qL1 qL2 qL3 q6 q1 q0 q7 q4 q4b q3) cs 27 (sX0 27) := rfl
set_option maxHeartbeats 400000 in
set_option maxRecDepth 100000 in
theorem xw_28 (cs : Nat → ClassId) (h0 ql qsp qtf : Nat) (q5 q8 qL0 qL1 qL2 qL3 q6 q1 q0 q7 q4 q4b q3 : Nat → Nat) : enR cs ql qsp qtf q5 q8 qL0 qL1 qL2 qL3 q6 q1 q0 q7 q4 q4b q3 27 (sgR 27) = enX (adX h0 ql qsp qtf q5 q8 qL0 qL1 qL2 qL3 q6 q1 q0 q7 q4 q4b q3) cs 28 (sX0 28) := rfl
set_option maxHeartbeats 400000 in
set_option maxRecDepth 100000 in
theorem xw_29 (cs : Nat → ClassId) (h0 ql qsp qtf : Nat) (q5 q8 qL0 qL1 qL2 qL3 q6 q1 q0 q7 q4 q4b q3 : Nat → Nat) : enR cs ql qsp qtf q5 q8 qL0 qL1 qL2 qL3 q6 q1 q0 q7 q4 q4b q3 28 (sgR 28) = enX (adX h0 ql qsp qtf q5 q8 qL0 qL1 qL2 qL3 q6 q1 q0 q7 q4 q4b q3) cs 29 (sX0 29) := rfl
set_option maxHeartbeats 400000 in
set_option maxRecDepth 100000 in
theorem xw_30 (cs : Nat → ClassId) (h0 ql qsp qtf : Nat) (q5 q8 qL0 qL1 qL2 qL3 q6 q1 q0 q7 q4 q4b q3 : Nat → Nat) : enR cs ql qsp qtf q5 q8 qL0 qL1 qL2 qL3 q6 q1 q0 q7 q4 q4b q3 29 (sgR 29) = enX (adX h0 ql qsp qtf q5 q8 qL0 qL1 qL2 qL3 q6 q1 q0 q7 q4 q4b q3) cs 30 (sX0 30) := rfl
set_option maxHeartbeats 400000 in
set_option maxRecDepth 100000 in
theorem xw_31 (cs : Nat → ClassId) (h0 ql qsp qtf : Nat) (q5 q8 qL0 qL1 qL2 qL3 q6 q1 q0 q7 q4 q4b q3 : Nat → Nat) : enR cs ql qsp qtf q5 q8 qL0 qL1 qL2 qL3 q6 q1 q0 q7 q4 q4b q3 30 (sgR 30) = enX (adX h0 ql qsp qtf q5 q8 qL0 qL1 qL2 qL3 q6 q1 q0 q7 q4 q4b q3) cs 31 (sX0 31) := rfl
set_option maxHeartbeats 400000 in
set_option maxRecDepth 100000 in
theorem xw_32 (cs : Nat → ClassId) (h0 ql qsp qtf : Nat) (q5 q8 qL0 qL1 qL2 qL3 q6 q1 q0 q7 q4 q4b q3 : Nat → Nat) : enR cs ql qsp qtf q5 q8 qL0 qL1 qL2 qL3 q6 q1 q0 q7 q4 q4b q3 31 (sgR 31) = enX (adX h0 ql qsp qtf q5 q8 qL0 qL1 qL2 qL3 q6 q1 q0 q7 q4 q4b q3) cs 32 (sX0 32) := rfl
set_option maxHeartbeats 400000 in
set_option maxRecDepth 100000 in
theorem xw_33 (cs : Nat → ClassId) (h0 ql qsp qtf : Nat) (q5 q8 qL0 qL1 qL2 qL3 q6 q1 q0 q7 q4 q4b q3 : Nat → Nat) : enR cs ql qsp qtf q5 q8 qL0 qL1 qL2 qL3 q6 q1 q0 q7 q4 q4b q3 32 (sgR 32) = enX (adX h0 ql qsp qtf q5 q8 qL0 qL1 qL2 qL3 q6 q1 q0 q7 q4 q4b q3) cs 33 (sX0 33) := rfl
set_option maxHeartbeats 400000 in
set_option maxRecDepth 100000 in
theorem xw_34 (cs : Nat → ClassId) (h0 ql qsp qtf : Nat) (q5 q8 qL0 qL1 qL2 qL3 q6 q1 q0 q7 q4 q4b q3 : Nat → Nat) : enR cs ql qsp qtf q5 q8 qL0 qL1 qL2 qL3 q6 q1 q0 q7 q4 q4b q3 33 (sgR 33) = enX (adX h0 ql qsp qtf q5 q8 qL0 qL1 qL2 qL3 q6 q1 q0 q7 q4 q4b q3) cs 34 (sX0 34) := by
  refine congrArg (fun g => (.inl (cs 3, 4, .inr (.inr (.inr (.inr g)))) : va_E)) (funext fun i => ?_)
  by_cases hi : i < 4
  · match i, hi with
    | 0, _ => rfl
    | 1, _ => rfl
    | 2, _ => rfl
    | 3, _ => rfl
  · have n0 : ¬ i = (0 : Int32).toNatClampNeg := fun h => hi (by rw [h]; decide)
    have n1 : ¬ i = (1 : Int32).toNatClampNeg := fun h => hi (by rw [h]; decide)
    have n2 : ¬ i = (2 : Int32).toNatClampNeg := fun h => hi (by rw [h]; decide)
    have n3 : ¬ i = (3 : Int32).toNatClampNeg := fun h => hi (by rw [h]; decide)
    unfold va_up
    show (if i = _ then _ else if i = _ then _ else if i = _ then _ else if i = _ then _ else none) = (if i < 4 then _ else none)
    rw [if_neg hi, if_neg n3, if_neg n2, if_neg n1, if_neg n0]
set_option maxHeartbeats 400000 in
set_option maxRecDepth 100000 in
theorem xw_35 (cs : Nat → ClassId) (h0 ql qsp qtf : Nat) (q5 q8 qL0 qL1 qL2 qL3 q6 q1 q0 q7 q4 q4b q3 : Nat → Nat) : enR cs ql qsp qtf q5 q8 qL0 qL1 qL2 qL3 q6 q1 q0 q7 q4 q4b q3 34 (sgR 34) = enX (adX h0 ql qsp qtf q5 q8 qL0 qL1 qL2 qL3 q6 q1 q0 q7 q4 q4b q3) cs 35 (sX0 35) := rfl
set_option maxHeartbeats 400000 in
set_option maxRecDepth 100000 in
theorem xw_36 (cs : Nat → ClassId) (h0 ql qsp qtf : Nat) (q5 q8 qL0 qL1 qL2 qL3 q6 q1 q0 q7 q4 q4b q3 : Nat → Nat) : enR cs ql qsp qtf q5 q8 qL0 qL1 qL2 qL3 q6 q1 q0 q7 q4 q4b q3 35 (sgR 35) = enX (adX h0 ql qsp qtf q5 q8 qL0 qL1 qL2 qL3 q6 q1 q0 q7 q4 q4b q3) cs 36 (sX0 36) := by
  refine congrArg (fun g => (.inl (cs 5, 4, .inr (.inr (.inr (.inr g)))) : va_E)) (funext fun i => ?_)
  by_cases hi : i < 4
  · match i, hi with
    | 0, _ => rfl
    | 1, _ => rfl
    | 2, _ => rfl
    | 3, _ => rfl
  · simp [hi]
set_option maxHeartbeats 400000 in
set_option maxRecDepth 100000 in
theorem xw_37 (cs : Nat → ClassId) (h0 ql qsp qtf : Nat) (q5 q8 qL0 qL1 qL2 qL3 q6 q1 q0 q7 q4 q4b q3 : Nat → Nat) : enR cs ql qsp qtf q5 q8 qL0 qL1 qL2 qL3 q6 q1 q0 q7 q4 q4b q3 36 (sgR 36) = enX (adX h0 ql qsp qtf q5 q8 qL0 qL1 qL2 qL3 q6 q1 q0 q7 q4 q4b q3) cs 37 (sX0 37) := rfl
set_option maxHeartbeats 400000 in
set_option maxRecDepth 100000 in
theorem xw_38 (cs : Nat → ClassId) (h0 ql qsp qtf : Nat) (q5 q8 qL0 qL1 qL2 qL3 q6 q1 q0 q7 q4 q4b q3 : Nat → Nat) : enR cs ql qsp qtf q5 q8 qL0 qL1 qL2 qL3 q6 q1 q0 q7 q4 q4b q3 37 (sgR 37) = enX (adX h0 ql qsp qtf q5 q8 qL0 qL1 qL2 qL3 q6 q1 q0 q7 q4 q4b q3) cs 38 (sX0 38) := rfl
set_option maxHeartbeats 400000 in
set_option maxRecDepth 100000 in
theorem xw_39 (cs : Nat → ClassId) (h0 ql qsp qtf : Nat) (q5 q8 qL0 qL1 qL2 qL3 q6 q1 q0 q7 q4 q4b q3 : Nat → Nat) : enR cs ql qsp qtf q5 q8 qL0 qL1 qL2 qL3 q6 q1 q0 q7 q4 q4b q3 38 (sgR 38) = enX (adX h0 ql qsp qtf q5 q8 qL0 qL1 qL2 qL3 q6 q1 q0 q7 q4 q4b q3) cs 39 (sX0 39) := rfl
set_option maxHeartbeats 400000 in
set_option maxRecDepth 100000 in
theorem xw_40 (cs : Nat → ClassId) (h0 ql qsp qtf : Nat) (q5 q8 qL0 qL1 qL2 qL3 q6 q1 q0 q7 q4 q4b q3 : Nat → Nat) : enR cs ql qsp qtf q5 q8 qL0 qL1 qL2 qL3 q6 q1 q0 q7 q4 q4b q3 39 (sgR 39) = enX (adX h0 ql qsp qtf q5 q8 qL0 qL1 qL2 qL3 q6 q1 q0 q7 q4 q4b q3) cs 40 (sX0 40) := rfl
set_option maxHeartbeats 400000 in
set_option maxRecDepth 100000 in
theorem xw_41 (cs : Nat → ClassId) (h0 ql qsp qtf : Nat) (q5 q8 qL0 qL1 qL2 qL3 q6 q1 q0 q7 q4 q4b q3 : Nat → Nat) : enR cs ql qsp qtf q5 q8 qL0 qL1 qL2 qL3 q6 q1 q0 q7 q4 q4b q3 40 (sgR 40) = enX (adX h0 ql qsp qtf q5 q8 qL0 qL1 qL2 qL3 q6 q1 q0 q7 q4 q4b q3) cs 41 (sX0 41) := rfl
set_option maxHeartbeats 400000 in
set_option maxRecDepth 100000 in
theorem xw_42 (cs : Nat → ClassId) (h0 ql qsp qtf : Nat) (q5 q8 qL0 qL1 qL2 qL3 q6 q1 q0 q7 q4 q4b q3 : Nat → Nat) : enR cs ql qsp qtf q5 q8 qL0 qL1 qL2 qL3 q6 q1 q0 q7 q4 q4b q3 41 (sgR 41) = enX (adX h0 ql qsp qtf q5 q8 qL0 qL1 qL2 qL3 q6 q1 q0 q7 q4 q4b q3) cs 42 (sX0 42) := rfl
set_option maxHeartbeats 400000 in
set_option maxRecDepth 100000 in
theorem xw_43 (cs : Nat → ClassId) (h0 ql qsp qtf : Nat) (q5 q8 qL0 qL1 qL2 qL3 q6 q1 q0 q7 q4 q4b q3 : Nat → Nat) : enR cs ql qsp qtf q5 q8 qL0 qL1 qL2 qL3 q6 q1 q0 q7 q4 q4b q3 42 (sgR 42) = enX (adX h0 ql qsp qtf q5 q8 qL0 qL1 qL2 qL3 q6 q1 q0 q7 q4 q4b q3) cs 43 (sX0 43) := rfl
set_option maxHeartbeats 400000 in
set_option maxRecDepth 100000 in
theorem xw_44 (cs : Nat → ClassId) (h0 ql qsp qtf : Nat) (q5 q8 qL0 qL1 qL2 qL3 q6 q1 q0 q7 q4 q4b q3 : Nat → Nat) : enR cs ql qsp qtf q5 q8 qL0 qL1 qL2 qL3 q6 q1 q0 q7 q4 q4b q3 43 (sgR 43) = enX (adX h0 ql qsp qtf q5 q8 qL0 qL1 qL2 qL3 q6 q1 q0 q7 q4 q4b q3) cs 44 (sX0 44) := rfl
set_option maxHeartbeats 400000 in
set_option maxRecDepth 100000 in
theorem xw_45 (cs : Nat → ClassId) (h0 ql qsp qtf : Nat) (q5 q8 qL0 qL1 qL2 qL3 q6 q1 q0 q7 q4 q4b q3 : Nat → Nat) : enR cs ql qsp qtf q5 q8 qL0 qL1 qL2 qL3 q6 q1 q0 q7 q4 q4b q3 44 (sgR 44) = enX (adX h0 ql qsp qtf q5 q8 qL0 qL1 qL2 qL3 q6 q1 q0 q7 q4 q4b q3) cs 45 (sX0 45) := by
  refine congrArg (fun g => (.inl (cs 5, 4, .inr (.inr (.inr (.inr g)))) : va_E)) (funext fun i => ?_)
  by_cases hi : i < 4
  · match i, hi with
    | 0, _ => rfl
    | 1, _ => rfl
    | 2, _ => rfl
    | 3, _ => rfl
  · simp [hi]
set_option maxHeartbeats 400000 in
set_option maxRecDepth 100000 in
theorem xw_46 (cs : Nat → ClassId) (h0 ql qsp qtf : Nat) (q5 q8 qL0 qL1 qL2 qL3 q6 q1 q0 q7 q4 q4b q3 : Nat → Nat) : enR cs ql qsp qtf q5 q8 qL0 qL1 qL2 qL3 q6 q1 q0 q7 q4 q4b q3 45 (sgR 45) = enX (adX h0 ql qsp qtf q5 q8 qL0 qL1 qL2 qL3 q6 q1 q0 q7 q4 q4b q3) cs 46 (sX0 46) := rfl
set_option maxHeartbeats 400000 in
set_option maxRecDepth 100000 in
theorem xw_47 (cs : Nat → ClassId) (h0 ql qsp qtf : Nat) (q5 q8 qL0 qL1 qL2 qL3 q6 q1 q0 q7 q4 q4b q3 : Nat → Nat) : enR cs ql qsp qtf q5 q8 qL0 qL1 qL2 qL3 q6 q1 q0 q7 q4 q4b q3 46 (sgR 46) = enX (adX h0 ql qsp qtf q5 q8 qL0 qL1 qL2 qL3 q6 q1 q0 q7 q4 q4b q3) cs 47 (sX0 47) := rfl
set_option maxHeartbeats 400000 in
set_option maxRecDepth 100000 in
theorem xw_48 (cs : Nat → ClassId) (h0 ql qsp qtf : Nat) (q5 q8 qL0 qL1 qL2 qL3 q6 q1 q0 q7 q4 q4b q3 : Nat → Nat) : enR cs ql qsp qtf q5 q8 qL0 qL1 qL2 qL3 q6 q1 q0 q7 q4 q4b q3 47 (sgR 47) = enX (adX h0 ql qsp qtf q5 q8 qL0 qL1 qL2 qL3 q6 q1 q0 q7 q4 q4b q3) cs 48 (sX0 48) := rfl
set_option maxHeartbeats 400000 in
set_option maxRecDepth 100000 in
theorem xw_49 (cs : Nat → ClassId) (h0 ql qsp qtf : Nat) (q5 q8 qL0 qL1 qL2 qL3 q6 q1 q0 q7 q4 q4b q3 : Nat → Nat) : enR cs ql qsp qtf q5 q8 qL0 qL1 qL2 qL3 q6 q1 q0 q7 q4 q4b q3 48 (sgR 48) = enX (adX h0 ql qsp qtf q5 q8 qL0 qL1 qL2 qL3 q6 q1 q0 q7 q4 q4b q3) cs 49 (sX0 49) := rfl
set_option maxHeartbeats 400000 in
set_option maxRecDepth 100000 in
theorem xw_50 (cs : Nat → ClassId) (h0 ql qsp qtf : Nat) (q5 q8 qL0 qL1 qL2 qL3 q6 q1 q0 q7 q4 q4b q3 : Nat → Nat) : enR cs ql qsp qtf q5 q8 qL0 qL1 qL2 qL3 q6 q1 q0 q7 q4 q4b q3 49 (sgR 49) = enX (adX h0 ql qsp qtf q5 q8 qL0 qL1 qL2 qL3 q6 q1 q0 q7 q4 q4b q3) cs 50 (sX0 50) := rfl
set_option maxHeartbeats 400000 in
set_option maxRecDepth 100000 in
theorem xw_51 (cs : Nat → ClassId) (h0 ql qsp qtf : Nat) (q5 q8 qL0 qL1 qL2 qL3 q6 q1 q0 q7 q4 q4b q3 : Nat → Nat) : enR cs ql qsp qtf q5 q8 qL0 qL1 qL2 qL3 q6 q1 q0 q7 q4 q4b q3 50 (sgR 50) = enX (adX h0 ql qsp qtf q5 q8 qL0 qL1 qL2 qL3 q6 q1 q0 q7 q4 q4b q3) cs 51 (sX0 51) := rfl
set_option maxHeartbeats 400000 in
set_option maxRecDepth 100000 in
theorem xw_52 (cs : Nat → ClassId) (h0 ql qsp qtf : Nat) (q5 q8 qL0 qL1 qL2 qL3 q6 q1 q0 q7 q4 q4b q3 : Nat → Nat) : enR cs ql qsp qtf q5 q8 qL0 qL1 qL2 qL3 q6 q1 q0 q7 q4 q4b q3 51 (sgR 51) = enX (adX h0 ql qsp qtf q5 q8 qL0 qL1 qL2 qL3 q6 q1 q0 q7 q4 q4b q3) cs 52 (sX0 52) := rfl
set_option maxHeartbeats 400000 in
set_option maxRecDepth 100000 in
theorem xw_53 (cs : Nat → ClassId) (h0 ql qsp qtf : Nat) (q5 q8 qL0 qL1 qL2 qL3 q6 q1 q0 q7 q4 q4b q3 : Nat → Nat) : enR cs ql qsp qtf q5 q8 qL0 qL1 qL2 qL3 q6 q1 q0 q7 q4 q4b q3 52 (sgR 52) = enX (adX h0 ql qsp qtf q5 q8 qL0 qL1 qL2 qL3 q6 q1 q0 q7 q4 q4b q3) cs 53 (sX0 53) := rfl
set_option maxHeartbeats 400000 in
set_option maxRecDepth 100000 in
theorem xw_54 (cs : Nat → ClassId) (h0 ql qsp qtf : Nat) (q5 q8 qL0 qL1 qL2 qL3 q6 q1 q0 q7 q4 q4b q3 : Nat → Nat) : enR cs ql qsp qtf q5 q8 qL0 qL1 qL2 qL3 q6 q1 q0 q7 q4 q4b q3 53 (sgR 53) = enX (adX h0 ql qsp qtf q5 q8 qL0 qL1 qL2 qL3 q6 q1 q0 q7 q4 q4b q3) cs 54 (sX0 54) := by
  refine congrArg (fun g => (.inl (cs 5, 4, .inr (.inr (.inr (.inr g)))) : va_E)) (funext fun i => ?_)
  by_cases hi : i < 4
  · match i, hi with
    | 0, _ => rfl
    | 1, _ => rfl
    | 2, _ => rfl
    | 3, _ => rfl
  · simp [hi]
set_option maxHeartbeats 400000 in
set_option maxRecDepth 100000 in
theorem xw_55 (cs : Nat → ClassId) (h0 ql qsp qtf : Nat) (q5 q8 qL0 qL1 qL2 qL3 q6 q1 q0 q7 q4 q4b q3 : Nat → Nat) : enR cs ql qsp qtf q5 q8 qL0 qL1 qL2 qL3 q6 q1 q0 q7 q4 q4b q3 54 (sgR 54) = enX (adX h0 ql qsp qtf q5 q8 qL0 qL1 qL2 qL3 q6 q1 q0 q7 q4 q4b q3) cs 55 (sX0 55) := rfl
set_option maxHeartbeats 400000 in
set_option maxRecDepth 100000 in
theorem xw_56 (cs : Nat → ClassId) (h0 ql qsp qtf : Nat) (q5 q8 qL0 qL1 qL2 qL3 q6 q1 q0 q7 q4 q4b q3 : Nat → Nat) : enR cs ql qsp qtf q5 q8 qL0 qL1 qL2 qL3 q6 q1 q0 q7 q4 q4b q3 55 (sgR 55) = enX (adX h0 ql qsp qtf q5 q8 qL0 qL1 qL2 qL3 q6 q1 q0 q7 q4 q4b q3) cs 56 (sX0 56) := rfl
set_option maxHeartbeats 400000 in
set_option maxRecDepth 100000 in
theorem xw_57 (cs : Nat → ClassId) (h0 ql qsp qtf : Nat) (q5 q8 qL0 qL1 qL2 qL3 q6 q1 q0 q7 q4 q4b q3 : Nat → Nat) : enR cs ql qsp qtf q5 q8 qL0 qL1 qL2 qL3 q6 q1 q0 q7 q4 q4b q3 56 (sgR 56) = enX (adX h0 ql qsp qtf q5 q8 qL0 qL1 qL2 qL3 q6 q1 q0 q7 q4 q4b q3) cs 57 (sX0 57) := rfl
set_option maxHeartbeats 400000 in
set_option maxRecDepth 100000 in
theorem xw_58 (cs : Nat → ClassId) (h0 ql qsp qtf : Nat) (q5 q8 qL0 qL1 qL2 qL3 q6 q1 q0 q7 q4 q4b q3 : Nat → Nat) : enR cs ql qsp qtf q5 q8 qL0 qL1 qL2 qL3 q6 q1 q0 q7 q4 q4b q3 57 (sgR 57) = enX (adX h0 ql qsp qtf q5 q8 qL0 qL1 qL2 qL3 q6 q1 q0 q7 q4 q4b q3) cs 58 (sX0 58) := rfl
set_option maxHeartbeats 400000 in
set_option maxRecDepth 100000 in
theorem xw_59 (cs : Nat → ClassId) (h0 ql qsp qtf : Nat) (q5 q8 qL0 qL1 qL2 qL3 q6 q1 q0 q7 q4 q4b q3 : Nat → Nat) : enR cs ql qsp qtf q5 q8 qL0 qL1 qL2 qL3 q6 q1 q0 q7 q4 q4b q3 58 (sgR 58) = enX (adX h0 ql qsp qtf q5 q8 qL0 qL1 qL2 qL3 q6 q1 q0 q7 q4 q4b q3) cs 59 (sX0 59) := rfl
set_option maxHeartbeats 400000 in
set_option maxRecDepth 100000 in
theorem xw_60 (cs : Nat → ClassId) (h0 ql qsp qtf : Nat) (q5 q8 qL0 qL1 qL2 qL3 q6 q1 q0 q7 q4 q4b q3 : Nat → Nat) : enR cs ql qsp qtf q5 q8 qL0 qL1 qL2 qL3 q6 q1 q0 q7 q4 q4b q3 59 (sgR 59) = enX (adX h0 ql qsp qtf q5 q8 qL0 qL1 qL2 qL3 q6 q1 q0 q7 q4 q4b q3) cs 60 (sX0 60) := rfl
set_option maxHeartbeats 400000 in
set_option maxRecDepth 100000 in
theorem xw_61 (cs : Nat → ClassId) (h0 ql qsp qtf : Nat) (q5 q8 qL0 qL1 qL2 qL3 q6 q1 q0 q7 q4 q4b q3 : Nat → Nat) : enR cs ql qsp qtf q5 q8 qL0 qL1 qL2 qL3 q6 q1 q0 q7 q4 q4b q3 60 (sgR 60) = enX (adX h0 ql qsp qtf q5 q8 qL0 qL1 qL2 qL3 q6 q1 q0 q7 q4 q4b q3) cs 61 (sX0 61) := rfl
set_option maxHeartbeats 400000 in
set_option maxRecDepth 100000 in
theorem xw_62 (cs : Nat → ClassId) (h0 ql qsp qtf : Nat) (q5 q8 qL0 qL1 qL2 qL3 q6 q1 q0 q7 q4 q4b q3 : Nat → Nat) : enR cs ql qsp qtf q5 q8 qL0 qL1 qL2 qL3 q6 q1 q0 q7 q4 q4b q3 61 (sgR 61) = enX (adX h0 ql qsp qtf q5 q8 qL0 qL1 qL2 qL3 q6 q1 q0 q7 q4 q4b q3) cs 62 (sX0 62) := rfl
set_option maxHeartbeats 400000 in
set_option maxRecDepth 100000 in
theorem xw_63 (cs : Nat → ClassId) (h0 ql qsp qtf : Nat) (q5 q8 qL0 qL1 qL2 qL3 q6 q1 q0 q7 q4 q4b q3 : Nat → Nat) : enR cs ql qsp qtf q5 q8 qL0 qL1 qL2 qL3 q6 q1 q0 q7 q4 q4b q3 62 (sgR 62) = enX (adX h0 ql qsp qtf q5 q8 qL0 qL1 qL2 qL3 q6 q1 q0 q7 q4 q4b q3) cs 63 (sX0 63) := by
  refine congrArg (fun g => (.inl (cs 5, 4, .inr (.inr (.inr (.inr g)))) : va_E)) (funext fun i => ?_)
  by_cases hi : i < 4
  · match i, hi with
    | 0, _ => rfl
    | 1, _ => rfl
    | 2, _ => rfl
    | 3, _ => rfl
  · simp [hi]
set_option maxHeartbeats 400000 in
set_option maxRecDepth 100000 in
theorem xw_64 (cs : Nat → ClassId) (h0 ql qsp qtf : Nat) (q5 q8 qL0 qL1 qL2 qL3 q6 q1 q0 q7 q4 q4b q3 : Nat → Nat) : enR cs ql qsp qtf q5 q8 qL0 qL1 qL2 qL3 q6 q1 q0 q7 q4 q4b q3 63 (sgR 63) = enX (adX h0 ql qsp qtf q5 q8 qL0 qL1 qL2 qL3 q6 q1 q0 q7 q4 q4b q3) cs 64 (sX0 64) := rfl
set_option maxHeartbeats 400000 in
set_option maxRecDepth 100000 in
theorem xw_65 (cs : Nat → ClassId) (h0 ql qsp qtf : Nat) (q5 q8 qL0 qL1 qL2 qL3 q6 q1 q0 q7 q4 q4b q3 : Nat → Nat) : enR cs ql qsp qtf q5 q8 qL0 qL1 qL2 qL3 q6 q1 q0 q7 q4 q4b q3 64 (sgR 64) = enX (adX h0 ql qsp qtf q5 q8 qL0 qL1 qL2 qL3 q6 q1 q0 q7 q4 q4b q3) cs 65 (sX0 65) := rfl
set_option maxHeartbeats 400000 in
set_option maxRecDepth 100000 in
theorem xw_66 (cs : Nat → ClassId) (h0 ql qsp qtf : Nat) (q5 q8 qL0 qL1 qL2 qL3 q6 q1 q0 q7 q4 q4b q3 : Nat → Nat) : enR cs ql qsp qtf q5 q8 qL0 qL1 qL2 qL3 q6 q1 q0 q7 q4 q4b q3 65 (sgR 65) = enX (adX h0 ql qsp qtf q5 q8 qL0 qL1 qL2 qL3 q6 q1 q0 q7 q4 q4b q3) cs 66 (sX0 66) := rfl
set_option maxHeartbeats 400000 in
set_option maxRecDepth 100000 in
theorem xw_67 (cs : Nat → ClassId) (h0 ql qsp qtf : Nat) (q5 q8 qL0 qL1 qL2 qL3 q6 q1 q0 q7 q4 q4b q3 : Nat → Nat) : enR cs ql qsp qtf q5 q8 qL0 qL1 qL2 qL3 q6 q1 q0 q7 q4 q4b q3 66 (sgR 66) = enX (adX h0 ql qsp qtf q5 q8 qL0 qL1 qL2 qL3 q6 q1 q0 q7 q4 q4b q3) cs 67 (sX0 67) := rfl
set_option maxHeartbeats 400000 in
set_option maxRecDepth 100000 in
theorem xw_68 (cs : Nat → ClassId) (h0 ql qsp qtf : Nat) (q5 q8 qL0 qL1 qL2 qL3 q6 q1 q0 q7 q4 q4b q3 : Nat → Nat) : enR cs ql qsp qtf q5 q8 qL0 qL1 qL2 qL3 q6 q1 q0 q7 q4 q4b q3 67 (sgR 67) = enX (adX h0 ql qsp qtf q5 q8 qL0 qL1 qL2 qL3 q6 q1 q0 q7 q4 q4b q3) cs 68 (sX0 68) := rfl
set_option maxHeartbeats 400000 in
set_option maxRecDepth 100000 in
theorem xw_69 (cs : Nat → ClassId) (h0 ql qsp qtf : Nat) (q5 q8 qL0 qL1 qL2 qL3 q6 q1 q0 q7 q4 q4b q3 : Nat → Nat) : enR cs ql qsp qtf q5 q8 qL0 qL1 qL2 qL3 q6 q1 q0 q7 q4 q4b q3 68 (sgR 68) = enX (adX h0 ql qsp qtf q5 q8 qL0 qL1 qL2 qL3 q6 q1 q0 q7 q4 q4b q3) cs 69 (sX0 69) := rfl
set_option maxHeartbeats 400000 in
set_option maxRecDepth 100000 in
theorem xw_70 (cs : Nat → ClassId) (h0 ql qsp qtf : Nat) (q5 q8 qL0 qL1 qL2 qL3 q6 q1 q0 q7 q4 q4b q3 : Nat → Nat) : enR cs ql qsp qtf q5 q8 qL0 qL1 qL2 qL3 q6 q1 q0 q7 q4 q4b q3 69 (sgR 69) = enX (adX h0 ql qsp qtf q5 q8 qL0 qL1 qL2 qL3 q6 q1 q0 q7 q4 q4b q3) cs 70 (sX0 70) := rfl
set_option maxHeartbeats 400000 in
set_option maxRecDepth 100000 in
theorem xw_71 (cs : Nat → ClassId) (h0 ql qsp qtf : Nat) (q5 q8 qL0 qL1 qL2 qL3 q6 q1 q0 q7 q4 q4b q3 : Nat → Nat) : enR cs ql qsp qtf q5 q8 qL0 qL1 qL2 qL3 q6 q1 q0 q7 q4 q4b q3 70 (sgR 70) = enX (adX h0 ql qsp qtf q5 q8 qL0 qL1 qL2 qL3 q6 q1 q0 q7 q4 q4b q3) cs 71 (sX0 71) := rfl
set_option maxHeartbeats 400000 in
set_option maxRecDepth 100000 in
theorem xw_72 (cs : Nat → ClassId) (h0 ql qsp qtf : Nat) (q5 q8 qL0 qL1 qL2 qL3 q6 q1 q0 q7 q4 q4b q3 : Nat → Nat) : enR cs ql qsp qtf q5 q8 qL0 qL1 qL2 qL3 q6 q1 q0 q7 q4 q4b q3 71 (sgR 71) = enX (adX h0 ql qsp qtf q5 q8 qL0 qL1 qL2 qL3 q6 q1 q0 q7 q4 q4b q3) cs 72 (sX0 72) := rfl
set_option maxHeartbeats 400000 in
set_option maxRecDepth 100000 in
theorem xw_73 (cs : Nat → ClassId) (h0 ql qsp qtf : Nat) (q5 q8 qL0 qL1 qL2 qL3 q6 q1 q0 q7 q4 q4b q3 : Nat → Nat) : enR cs ql qsp qtf q5 q8 qL0 qL1 qL2 qL3 q6 q1 q0 q7 q4 q4b q3 72 (sgR 72) = enX (adX h0 ql qsp qtf q5 q8 qL0 qL1 qL2 qL3 q6 q1 q0 q7 q4 q4b q3) cs 73 (sX0 73) := rfl
set_option maxHeartbeats 400000 in
set_option maxRecDepth 100000 in
theorem xw_74 (cs : Nat → ClassId) (h0 ql qsp qtf : Nat) (q5 q8 qL0 qL1 qL2 qL3 q6 q1 q0 q7 q4 q4b q3 : Nat → Nat) : enR cs ql qsp qtf q5 q8 qL0 qL1 qL2 qL3 q6 q1 q0 q7 q4 q4b q3 73 (sgR 73) = enX (adX h0 ql qsp qtf q5 q8 qL0 qL1 qL2 qL3 q6 q1 q0 q7 q4 q4b q3) cs 74 (sX0 74) := rfl
set_option maxHeartbeats 400000 in
set_option maxRecDepth 100000 in
theorem xw_75 (cs : Nat → ClassId) (h0 ql qsp qtf : Nat) (q5 q8 qL0 qL1 qL2 qL3 q6 q1 q0 q7 q4 q4b q3 : Nat → Nat) : enR cs ql qsp qtf q5 q8 qL0 qL1 qL2 qL3 q6 q1 q0 q7 q4 q4b q3 74 (sgR 74) = enX (adX h0 ql qsp qtf q5 q8 qL0 qL1 qL2 qL3 q6 q1 q0 q7 q4 q4b q3) cs 75 (sX0 75) := rfl
set_option maxHeartbeats 400000 in
set_option maxRecDepth 100000 in
theorem xw_76 (cs : Nat → ClassId) (h0 ql qsp qtf : Nat) (q5 q8 qL0 qL1 qL2 qL3 q6 q1 q0 q7 q4 q4b q3 : Nat → Nat) : enR cs ql qsp qtf q5 q8 qL0 qL1 qL2 qL3 q6 q1 q0 q7 q4 q4b q3 75 (sgR 75) = enX (adX h0 ql qsp qtf q5 q8 qL0 qL1 qL2 qL3 q6 q1 q0 q7 q4 q4b q3) cs 76 (sX0 76) := rfl
set_option maxHeartbeats 400000 in
set_option maxRecDepth 100000 in
theorem xw_77 (cs : Nat → ClassId) (h0 ql qsp qtf : Nat) (q5 q8 qL0 qL1 qL2 qL3 q6 q1 q0 q7 q4 q4b q3 : Nat → Nat) : enR cs ql qsp qtf q5 q8 qL0 qL1 qL2 qL3 q6 q1 q0 q7 q4 q4b q3 76 (sgR 76) = enX (adX h0 ql qsp qtf q5 q8 qL0 qL1 qL2 qL3 q6 q1 q0 q7 q4 q4b q3) cs 77 (sX0 77) := rfl
set_option maxHeartbeats 400000 in
set_option maxRecDepth 100000 in
theorem xw_78 (cs : Nat → ClassId) (h0 ql qsp qtf : Nat) (q5 q8 qL0 qL1 qL2 qL3 q6 q1 q0 q7 q4 q4b q3 : Nat → Nat) : enR cs ql qsp qtf q5 q8 qL0 qL1 qL2 qL3 q6 q1 q0 q7 q4 q4b q3 77 (sgR 77) = enX (adX h0 ql qsp qtf q5 q8 qL0 qL1 qL2 qL3 q6 q1 q0 q7 q4 q4b q3) cs 78 (sX0 78) := rfl
set_option maxHeartbeats 400000 in
set_option maxRecDepth 100000 in
theorem xw_79 (cs : Nat → ClassId) (h0 ql qsp qtf : Nat) (q5 q8 qL0 qL1 qL2 qL3 q6 q1 q0 q7 q4 q4b q3 : Nat → Nat) : enR cs ql qsp qtf q5 q8 qL0 qL1 qL2 qL3 q6 q1 q0 q7 q4 q4b q3 78 (sgR 78) = enX (adX h0 ql qsp qtf q5 q8 qL0 qL1 qL2 qL3 q6 q1 q0 q7 q4 q4b q3) cs 79 (sX0 79) := rfl
set_option maxHeartbeats 400000 in
set_option maxRecDepth 100000 in
theorem xw_80 (cs : Nat → ClassId) (h0 ql qsp qtf : Nat) (q5 q8 qL0 qL1 qL2 qL3 q6 q1 q0 q7 q4 q4b q3 : Nat → Nat) : enR cs ql qsp qtf q5 q8 qL0 qL1 qL2 qL3 q6 q1 q0 q7 q4 q4b q3 79 (sgR 79) = enX (adX h0 ql qsp qtf q5 q8 qL0 qL1 qL2 qL3 q6 q1 q0 q7 q4 q4b q3) cs 80 (sX0 80) := rfl
set_option maxHeartbeats 400000 in
set_option maxRecDepth 100000 in
theorem xw_81 (cs : Nat → ClassId) (h0 ql qsp qtf : Nat) (q5 q8 qL0 qL1 qL2 qL3 q6 q1 q0 q7 q4 q4b q3 : Nat → Nat) : enR cs ql qsp qtf q5 q8 qL0 qL1 qL2 qL3 q6 q1 q0 q7 q4 q4b q3 80 (sgR 80) = enX (adX h0 ql qsp qtf q5 q8 qL0 qL1 qL2 qL3 q6 q1 q0 q7 q4 q4b q3) cs 81 (sX0 81) := rfl
set_option maxHeartbeats 400000 in
set_option maxRecDepth 100000 in
theorem xw_82 (cs : Nat → ClassId) (h0 ql qsp qtf : Nat) (q5 q8 qL0 qL1 qL2 qL3 q6 q1 q0 q7 q4 q4b q3 : Nat → Nat) : enR cs ql qsp qtf q5 q8 qL0 qL1 qL2 qL3 q6 q1 q0 q7 q4 q4b q3 81 (sgR 81) = enX (adX h0 ql qsp qtf q5 q8 qL0 qL1 qL2 qL3 q6 q1 q0 q7 q4 q4b q3) cs 82 (sX0 82) := rfl
set_option maxHeartbeats 400000 in
set_option maxRecDepth 100000 in
theorem xw_83 (cs : Nat → ClassId) (h0 ql qsp qtf : Nat) (q5 q8 qL0 qL1 qL2 qL3 q6 q1 q0 q7 q4 q4b q3 : Nat → Nat) : enR cs ql qsp qtf q5 q8 qL0 qL1 qL2 qL3 q6 q1 q0 q7 q4 q4b q3 82 (sgR 82) = enX (adX h0 ql qsp qtf q5 q8 qL0 qL1 qL2 qL3 q6 q1 q0 q7 q4 q4b q3) cs 83 (sX0 83) := rfl
set_option maxHeartbeats 400000 in
set_option maxRecDepth 100000 in
theorem xw_84 (cs : Nat → ClassId) (h0 ql qsp qtf : Nat) (q5 q8 qL0 qL1 qL2 qL3 q6 q1 q0 q7 q4 q4b q3 : Nat → Nat) : enR cs ql qsp qtf q5 q8 qL0 qL1 qL2 qL3 q6 q1 q0 q7 q4 q4b q3 83 (sgR 83) = enX (adX h0 ql qsp qtf q5 q8 qL0 qL1 qL2 qL3 q6 q1 q0 q7 q4 q4b q3) cs 84 (sX0 84) := rfl
set_option maxHeartbeats 400000 in
set_option maxRecDepth 100000 in
theorem xw_85 (cs : Nat → ClassId) (h0 ql qsp qtf : Nat) (q5 q8 qL0 qL1 qL2 qL3 q6 q1 q0 q7 q4 q4b q3 : Nat → Nat) : enR cs ql qsp qtf q5 q8 qL0 qL1 qL2 qL3 q6 q1 q0 q7 q4 q4b q3 84 (sgR 84) = enX (adX h0 ql qsp qtf q5 q8 qL0 qL1 qL2 qL3 q6 q1 q0 q7 q4 q4b q3) cs 85 (sX0 85) := rfl
set_option maxHeartbeats 400000 in
set_option maxRecDepth 100000 in
theorem xw_86 (cs : Nat → ClassId) (h0 ql qsp qtf : Nat) (q5 q8 qL0 qL1 qL2 qL3 q6 q1 q0 q7 q4 q4b q3 : Nat → Nat) : enR cs ql qsp qtf q5 q8 qL0 qL1 qL2 qL3 q6 q1 q0 q7 q4 q4b q3 85 (sgR 85) = enX (adX h0 ql qsp qtf q5 q8 qL0 qL1 qL2 qL3 q6 q1 q0 q7 q4 q4b q3) cs 86 (sX0 86) := rfl
set_option maxHeartbeats 400000 in
set_option maxRecDepth 100000 in
theorem xw_87 (cs : Nat → ClassId) (h0 ql qsp qtf : Nat) (q5 q8 qL0 qL1 qL2 qL3 q6 q1 q0 q7 q4 q4b q3 : Nat → Nat) : enR cs ql qsp qtf q5 q8 qL0 qL1 qL2 qL3 q6 q1 q0 q7 q4 q4b q3 86 (sgR 86) = enX (adX h0 ql qsp qtf q5 q8 qL0 qL1 qL2 qL3 q6 q1 q0 q7 q4 q4b q3) cs 87 (sX0 87) := rfl
set_option maxHeartbeats 400000 in
set_option maxRecDepth 100000 in
theorem xw_88 (cs : Nat → ClassId) (h0 ql qsp qtf : Nat) (q5 q8 qL0 qL1 qL2 qL3 q6 q1 q0 q7 q4 q4b q3 : Nat → Nat) : enR cs ql qsp qtf q5 q8 qL0 qL1 qL2 qL3 q6 q1 q0 q7 q4 q4b q3 87 (sgR 87) = enX (adX h0 ql qsp qtf q5 q8 qL0 qL1 qL2 qL3 q6 q1 q0 q7 q4 q4b q3) cs 88 (sX0 88) := rfl
set_option maxHeartbeats 400000 in
set_option maxRecDepth 100000 in
theorem xw_89 (cs : Nat → ClassId) (h0 ql qsp qtf : Nat) (q5 q8 qL0 qL1 qL2 qL3 q6 q1 q0 q7 q4 q4b q3 : Nat → Nat) : enR cs ql qsp qtf q5 q8 qL0 qL1 qL2 qL3 q6 q1 q0 q7 q4 q4b q3 88 (sgR 88) = enX (adX h0 ql qsp qtf q5 q8 qL0 qL1 qL2 qL3 q6 q1 q0 q7 q4 q4b q3) cs 89 (sX0 89) := rfl
set_option maxHeartbeats 400000 in
set_option maxRecDepth 100000 in
theorem xw_90 (cs : Nat → ClassId) (h0 ql qsp qtf : Nat) (q5 q8 qL0 qL1 qL2 qL3 q6 q1 q0 q7 q4 q4b q3 : Nat → Nat) : enR cs ql qsp qtf q5 q8 qL0 qL1 qL2 qL3 q6 q1 q0 q7 q4 q4b q3 89 (sgR 89) = enX (adX h0 ql qsp qtf q5 q8 qL0 qL1 qL2 qL3 q6 q1 q0 q7 q4 q4b q3) cs 90 (sX0 90) := rfl
set_option maxHeartbeats 400000 in
set_option maxRecDepth 100000 in
theorem xw_91 (cs : Nat → ClassId) (h0 ql qsp qtf : Nat) (q5 q8 qL0 qL1 qL2 qL3 q6 q1 q0 q7 q4 q4b q3 : Nat → Nat) : enR cs ql qsp qtf q5 q8 qL0 qL1 qL2 qL3 q6 q1 q0 q7 q4 q4b q3 90 (sgR 90) = enX (adX h0 ql qsp qtf q5 q8 qL0 qL1 qL2 qL3 q6 q1 q0 q7 q4 q4b q3) cs 91 (sX0 91) := rfl
set_option maxHeartbeats 400000 in
set_option maxRecDepth 100000 in
theorem xw_92 (cs : Nat → ClassId) (h0 ql qsp qtf : Nat) (q5 q8 qL0 qL1 qL2 qL3 q6 q1 q0 q7 q4 q4b q3 : Nat → Nat) : enR cs ql qsp qtf q5 q8 qL0 qL1 qL2 qL3 q6 q1 q0 q7 q4 q4b q3 91 (sgR 91) = enX (adX h0 ql qsp qtf q5 q8 qL0 qL1 qL2 qL3 q6 q1 q0 q7 q4 q4b q3) cs 92 (sX0 92) := rfl
set_option maxHeartbeats 400000 in
set_option maxRecDepth 100000 in
theorem xw_93 (cs : Nat → ClassId) (h0 ql qsp qtf : Nat) (q5 q8 qL0 qL1 qL2 qL3 q6 q1 q0 q7 q4 q4b q3 : Nat → Nat) : enR cs ql qsp qtf q5 q8 qL0 qL1 qL2 qL3 q6 q1 q0 q7 q4 q4b q3 92 (sgR 92) = enX (adX h0 ql qsp qtf q5 q8 qL0 qL1 qL2 qL3 q6 q1 q0 q7 q4 q4b q3) cs 93 (sX0 93) := rfl
set_option maxHeartbeats 400000 in
set_option maxRecDepth 100000 in
theorem xw_94 (cs : Nat → ClassId) (h0 ql qsp qtf : Nat) (q5 q8 qL0 qL1 qL2 qL3 q6 q1 q0 q7 q4 q4b q3 : Nat → Nat) : enR cs ql qsp qtf q5 q8 qL0 qL1 qL2 qL3 q6 q1 q0 q7 q4 q4b q3 93 (sgR 93) = enX (adX h0 ql qsp qtf q5 q8 qL0 qL1 qL2 qL3 q6 q1 q0 q7 q4 q4b q3) cs 94 (sX0 94) := rfl
set_option maxHeartbeats 400000 in
set_option maxRecDepth 100000 in
theorem xw_95 (cs : Nat → ClassId) (h0 ql qsp qtf : Nat) (q5 q8 qL0 qL1 qL2 qL3 q6 q1 q0 q7 q4 q4b q3 : Nat → Nat) : enR cs ql qsp qtf q5 q8 qL0 qL1 qL2 qL3 q6 q1 q0 q7 q4 q4b q3 94 (sgR 94) = enX (adX h0 ql qsp qtf q5 q8 qL0 qL1 qL2 qL3 q6 q1 q0 q7 q4 q4b q3) cs 95 (sX0 95) := rfl
set_option maxHeartbeats 400000 in
set_option maxRecDepth 100000 in
theorem xw_96 (cs : Nat → ClassId) (h0 ql qsp qtf : Nat) (q5 q8 qL0 qL1 qL2 qL3 q6 q1 q0 q7 q4 q4b q3 : Nat → Nat) : enR cs ql qsp qtf q5 q8 qL0 qL1 qL2 qL3 q6 q1 q0 q7 q4 q4b q3 95 (sgR 95) = enX (adX h0 ql qsp qtf q5 q8 qL0 qL1 qL2 qL3 q6 q1 q0 q7 q4 q4b q3) cs 96 (sX0 96) := rfl
set_option maxHeartbeats 400000 in
set_option maxRecDepth 100000 in
theorem xw_97 (cs : Nat → ClassId) (h0 ql qsp qtf : Nat) (q5 q8 qL0 qL1 qL2 qL3 q6 q1 q0 q7 q4 q4b q3 : Nat → Nat) : enR cs ql qsp qtf q5 q8 qL0 qL1 qL2 qL3 q6 q1 q0 q7 q4 q4b q3 96 (sgR 96) = enX (adX h0 ql qsp qtf q5 q8 qL0 qL1 qL2 qL3 q6 q1 q0 q7 q4 q4b q3) cs 97 (sX0 97) := rfl
set_option maxHeartbeats 400000 in
set_option maxRecDepth 100000 in
theorem xw_98 (cs : Nat → ClassId) (h0 ql qsp qtf : Nat) (q5 q8 qL0 qL1 qL2 qL3 q6 q1 q0 q7 q4 q4b q3 : Nat → Nat) : enR cs ql qsp qtf q5 q8 qL0 qL1 qL2 qL3 q6 q1 q0 q7 q4 q4b q3 97 (sgR 97) = enX (adX h0 ql qsp qtf q5 q8 qL0 qL1 qL2 qL3 q6 q1 q0 q7 q4 q4b q3) cs 98 (sX0 98) := rfl
set_option maxHeartbeats 4000000 in
set_option maxRecDepth 100000 in
theorem xw_all (cs : Nat → ClassId) (h0 ql qsp qtf : Nat) (q5 q8 qL0 qL1 qL2 qL3 q6 q1 q0 q7 q4 q4b q3 : Nat → Nat) : ∀ k, k < 98 → enR cs ql qsp qtf q5 q8 qL0 qL1 qL2 qL3 q6 q1 q0 q7 q4 q4b q3 k (sgR k) = enX (adX h0 ql qsp qtf q5 q8 qL0 qL1 qL2 qL3 q6 q1 q0 q7 q4 q4b q3) cs (k + 1) (sX0 (k + 1)) := by
  intro k hk
  match k, hk with
  | 0, _ => exact xw_1 cs h0 ql qsp qtf q5 q8 qL0 qL1 qL2 qL3 q6 q1 q0 q7 q4 q4b q3
  | 1, _ => exact xw_2 cs h0 ql qsp qtf q5 q8 qL0 qL1 qL2 qL3 q6 q1 q0 q7 q4 q4b q3
  | 2, _ => exact xw_3 cs h0 ql qsp qtf q5 q8 qL0 qL1 qL2 qL3 q6 q1 q0 q7 q4 q4b q3
  | 3, _ => exact xw_4 cs h0 ql qsp qtf q5 q8 qL0 qL1 qL2 qL3 q6 q1 q0 q7 q4 q4b q3
  | 4, _ => exact xw_5 cs h0 ql qsp qtf q5 q8 qL0 qL1 qL2 qL3 q6 q1 q0 q7 q4 q4b q3
  | 5, _ => exact xw_6 cs h0 ql qsp qtf q5 q8 qL0 qL1 qL2 qL3 q6 q1 q0 q7 q4 q4b q3
  | 6, _ => exact xw_7 cs h0 ql qsp qtf q5 q8 qL0 qL1 qL2 qL3 q6 q1 q0 q7 q4 q4b q3
  | 7, _ => exact xw_8 cs h0 ql qsp qtf q5 q8 qL0 qL1 qL2 qL3 q6 q1 q0 q7 q4 q4b q3
  | 8, _ => exact xw_9 cs h0 ql qsp qtf q5 q8 qL0 qL1 qL2 qL3 q6 q1 q0 q7 q4 q4b q3
  | 9, _ => exact xw_10 cs h0 ql qsp qtf q5 q8 qL0 qL1 qL2 qL3 q6 q1 q0 q7 q4 q4b q3
  | 10, _ => exact xw_11 cs h0 ql qsp qtf q5 q8 qL0 qL1 qL2 qL3 q6 q1 q0 q7 q4 q4b q3
  | 11, _ => exact xw_12 cs h0 ql qsp qtf q5 q8 qL0 qL1 qL2 qL3 q6 q1 q0 q7 q4 q4b q3
  | 12, _ => exact xw_13 cs h0 ql qsp qtf q5 q8 qL0 qL1 qL2 qL3 q6 q1 q0 q7 q4 q4b q3
  | 13, _ => exact xw_14 cs h0 ql qsp qtf q5 q8 qL0 qL1 qL2 qL3 q6 q1 q0 q7 q4 q4b q3
  | 14, _ => exact xw_15 cs h0 ql qsp qtf q5 q8 qL0 qL1 qL2 qL3 q6 q1 q0 q7 q4 q4b q3
  | 15, _ => exact xw_16 cs h0 ql qsp qtf q5 q8 qL0 qL1 qL2 qL3 q6 q1 q0 q7 q4 q4b q3
  | 16, _ => exact xw_17 cs h0 ql qsp qtf q5 q8 qL0 qL1 qL2 qL3 q6 q1 q0 q7 q4 q4b q3
  | 17, _ => exact xw_18 cs h0 ql qsp qtf q5 q8 qL0 qL1 qL2 qL3 q6 q1 q0 q7 q4 q4b q3
  | 18, _ => exact xw_19 cs h0 ql qsp qtf q5 q8 qL0 qL1 qL2 qL3 q6 q1 q0 q7 q4 q4b q3
  | 19, _ => exact xw_20 cs h0 ql qsp qtf q5 q8 qL0 qL1 qL2 qL3 q6 q1 q0 q7 q4 q4b q3
  | 20, _ => exact xw_21 cs h0 ql qsp qtf q5 q8 qL0 qL1 qL2 qL3 q6 q1 q0 q7 q4 q4b q3
  | 21, _ => exact xw_22 cs h0 ql qsp qtf q5 q8 qL0 qL1 qL2 qL3 q6 q1 q0 q7 q4 q4b q3
  | 22, _ => exact xw_23 cs h0 ql qsp qtf q5 q8 qL0 qL1 qL2 qL3 q6 q1 q0 q7 q4 q4b q3
  | 23, _ => exact xw_24 cs h0 ql qsp qtf q5 q8 qL0 qL1 qL2 qL3 q6 q1 q0 q7 q4 q4b q3
  | 24, _ => exact xw_25 cs h0 ql qsp qtf q5 q8 qL0 qL1 qL2 qL3 q6 q1 q0 q7 q4 q4b q3
  | 25, _ => exact xw_26 cs h0 ql qsp qtf q5 q8 qL0 qL1 qL2 qL3 q6 q1 q0 q7 q4 q4b q3
  | 26, _ => exact xw_27 cs h0 ql qsp qtf q5 q8 qL0 qL1 qL2 qL3 q6 q1 q0 q7 q4 q4b q3
  | 27, _ => exact xw_28 cs h0 ql qsp qtf q5 q8 qL0 qL1 qL2 qL3 q6 q1 q0 q7 q4 q4b q3
  | 28, _ => exact xw_29 cs h0 ql qsp qtf q5 q8 qL0 qL1 qL2 qL3 q6 q1 q0 q7 q4 q4b q3
  | 29, _ => exact xw_30 cs h0 ql qsp qtf q5 q8 qL0 qL1 qL2 qL3 q6 q1 q0 q7 q4 q4b q3
  | 30, _ => exact xw_31 cs h0 ql qsp qtf q5 q8 qL0 qL1 qL2 qL3 q6 q1 q0 q7 q4 q4b q3
  | 31, _ => exact xw_32 cs h0 ql qsp qtf q5 q8 qL0 qL1 qL2 qL3 q6 q1 q0 q7 q4 q4b q3
  | 32, _ => exact xw_33 cs h0 ql qsp qtf q5 q8 qL0 qL1 qL2 qL3 q6 q1 q0 q7 q4 q4b q3
  | 33, _ => exact xw_34 cs h0 ql qsp qtf q5 q8 qL0 qL1 qL2 qL3 q6 q1 q0 q7 q4 q4b q3
  | 34, _ => exact xw_35 cs h0 ql qsp qtf q5 q8 qL0 qL1 qL2 qL3 q6 q1 q0 q7 q4 q4b q3
  | 35, _ => exact xw_36 cs h0 ql qsp qtf q5 q8 qL0 qL1 qL2 qL3 q6 q1 q0 q7 q4 q4b q3
  | 36, _ => exact xw_37 cs h0 ql qsp qtf q5 q8 qL0 qL1 qL2 qL3 q6 q1 q0 q7 q4 q4b q3
  | 37, _ => exact xw_38 cs h0 ql qsp qtf q5 q8 qL0 qL1 qL2 qL3 q6 q1 q0 q7 q4 q4b q3
  | 38, _ => exact xw_39 cs h0 ql qsp qtf q5 q8 qL0 qL1 qL2 qL3 q6 q1 q0 q7 q4 q4b q3
  | 39, _ => exact xw_40 cs h0 ql qsp qtf q5 q8 qL0 qL1 qL2 qL3 q6 q1 q0 q7 q4 q4b q3
  | 40, _ => exact xw_41 cs h0 ql qsp qtf q5 q8 qL0 qL1 qL2 qL3 q6 q1 q0 q7 q4 q4b q3
  | 41, _ => exact xw_42 cs h0 ql qsp qtf q5 q8 qL0 qL1 qL2 qL3 q6 q1 q0 q7 q4 q4b q3
  | 42, _ => exact xw_43 cs h0 ql qsp qtf q5 q8 qL0 qL1 qL2 qL3 q6 q1 q0 q7 q4 q4b q3
  | 43, _ => exact xw_44 cs h0 ql qsp qtf q5 q8 qL0 qL1 qL2 qL3 q6 q1 q0 q7 q4 q4b q3
  | 44, _ => exact xw_45 cs h0 ql qsp qtf q5 q8 qL0 qL1 qL2 qL3 q6 q1 q0 q7 q4 q4b q3
  | 45, _ => exact xw_46 cs h0 ql qsp qtf q5 q8 qL0 qL1 qL2 qL3 q6 q1 q0 q7 q4 q4b q3
  | 46, _ => exact xw_47 cs h0 ql qsp qtf q5 q8 qL0 qL1 qL2 qL3 q6 q1 q0 q7 q4 q4b q3
  | 47, _ => exact xw_48 cs h0 ql qsp qtf q5 q8 qL0 qL1 qL2 qL3 q6 q1 q0 q7 q4 q4b q3
  | 48, _ => exact xw_49 cs h0 ql qsp qtf q5 q8 qL0 qL1 qL2 qL3 q6 q1 q0 q7 q4 q4b q3
  | 49, _ => exact xw_50 cs h0 ql qsp qtf q5 q8 qL0 qL1 qL2 qL3 q6 q1 q0 q7 q4 q4b q3
  | 50, _ => exact xw_51 cs h0 ql qsp qtf q5 q8 qL0 qL1 qL2 qL3 q6 q1 q0 q7 q4 q4b q3
  | 51, _ => exact xw_52 cs h0 ql qsp qtf q5 q8 qL0 qL1 qL2 qL3 q6 q1 q0 q7 q4 q4b q3
  | 52, _ => exact xw_53 cs h0 ql qsp qtf q5 q8 qL0 qL1 qL2 qL3 q6 q1 q0 q7 q4 q4b q3
  | 53, _ => exact xw_54 cs h0 ql qsp qtf q5 q8 qL0 qL1 qL2 qL3 q6 q1 q0 q7 q4 q4b q3
  | 54, _ => exact xw_55 cs h0 ql qsp qtf q5 q8 qL0 qL1 qL2 qL3 q6 q1 q0 q7 q4 q4b q3
  | 55, _ => exact xw_56 cs h0 ql qsp qtf q5 q8 qL0 qL1 qL2 qL3 q6 q1 q0 q7 q4 q4b q3
  | 56, _ => exact xw_57 cs h0 ql qsp qtf q5 q8 qL0 qL1 qL2 qL3 q6 q1 q0 q7 q4 q4b q3
  | 57, _ => exact xw_58 cs h0 ql qsp qtf q5 q8 qL0 qL1 qL2 qL3 q6 q1 q0 q7 q4 q4b q3
  | 58, _ => exact xw_59 cs h0 ql qsp qtf q5 q8 qL0 qL1 qL2 qL3 q6 q1 q0 q7 q4 q4b q3
  | 59, _ => exact xw_60 cs h0 ql qsp qtf q5 q8 qL0 qL1 qL2 qL3 q6 q1 q0 q7 q4 q4b q3
  | 60, _ => exact xw_61 cs h0 ql qsp qtf q5 q8 qL0 qL1 qL2 qL3 q6 q1 q0 q7 q4 q4b q3
  | 61, _ => exact xw_62 cs h0 ql qsp qtf q5 q8 qL0 qL1 qL2 qL3 q6 q1 q0 q7 q4 q4b q3
  | 62, _ => exact xw_63 cs h0 ql qsp qtf q5 q8 qL0 qL1 qL2 qL3 q6 q1 q0 q7 q4 q4b q3
  | 63, _ => exact xw_64 cs h0 ql qsp qtf q5 q8 qL0 qL1 qL2 qL3 q6 q1 q0 q7 q4 q4b q3
  | 64, _ => exact xw_65 cs h0 ql qsp qtf q5 q8 qL0 qL1 qL2 qL3 q6 q1 q0 q7 q4 q4b q3
  | 65, _ => exact xw_66 cs h0 ql qsp qtf q5 q8 qL0 qL1 qL2 qL3 q6 q1 q0 q7 q4 q4b q3
  | 66, _ => exact xw_67 cs h0 ql qsp qtf q5 q8 qL0 qL1 qL2 qL3 q6 q1 q0 q7 q4 q4b q3
  | 67, _ => exact xw_68 cs h0 ql qsp qtf q5 q8 qL0 qL1 qL2 qL3 q6 q1 q0 q7 q4 q4b q3
  | 68, _ => exact xw_69 cs h0 ql qsp qtf q5 q8 qL0 qL1 qL2 qL3 q6 q1 q0 q7 q4 q4b q3
  | 69, _ => exact xw_70 cs h0 ql qsp qtf q5 q8 qL0 qL1 qL2 qL3 q6 q1 q0 q7 q4 q4b q3
  | 70, _ => exact xw_71 cs h0 ql qsp qtf q5 q8 qL0 qL1 qL2 qL3 q6 q1 q0 q7 q4 q4b q3
  | 71, _ => exact xw_72 cs h0 ql qsp qtf q5 q8 qL0 qL1 qL2 qL3 q6 q1 q0 q7 q4 q4b q3
  | 72, _ => exact xw_73 cs h0 ql qsp qtf q5 q8 qL0 qL1 qL2 qL3 q6 q1 q0 q7 q4 q4b q3
  | 73, _ => exact xw_74 cs h0 ql qsp qtf q5 q8 qL0 qL1 qL2 qL3 q6 q1 q0 q7 q4 q4b q3
  | 74, _ => exact xw_75 cs h0 ql qsp qtf q5 q8 qL0 qL1 qL2 qL3 q6 q1 q0 q7 q4 q4b q3
  | 75, _ => exact xw_76 cs h0 ql qsp qtf q5 q8 qL0 qL1 qL2 qL3 q6 q1 q0 q7 q4 q4b q3
  | 76, _ => exact xw_77 cs h0 ql qsp qtf q5 q8 qL0 qL1 qL2 qL3 q6 q1 q0 q7 q4 q4b q3
  | 77, _ => exact xw_78 cs h0 ql qsp qtf q5 q8 qL0 qL1 qL2 qL3 q6 q1 q0 q7 q4 q4b q3
  | 78, _ => exact xw_79 cs h0 ql qsp qtf q5 q8 qL0 qL1 qL2 qL3 q6 q1 q0 q7 q4 q4b q3
  | 79, _ => exact xw_80 cs h0 ql qsp qtf q5 q8 qL0 qL1 qL2 qL3 q6 q1 q0 q7 q4 q4b q3
  | 80, _ => exact xw_81 cs h0 ql qsp qtf q5 q8 qL0 qL1 qL2 qL3 q6 q1 q0 q7 q4 q4b q3
  | 81, _ => exact xw_82 cs h0 ql qsp qtf q5 q8 qL0 qL1 qL2 qL3 q6 q1 q0 q7 q4 q4b q3
  | 82, _ => exact xw_83 cs h0 ql qsp qtf q5 q8 qL0 qL1 qL2 qL3 q6 q1 q0 q7 q4 q4b q3
  | 83, _ => exact xw_84 cs h0 ql qsp qtf q5 q8 qL0 qL1 qL2 qL3 q6 q1 q0 q7 q4 q4b q3
  | 84, _ => exact xw_85 cs h0 ql qsp qtf q5 q8 qL0 qL1 qL2 qL3 q6 q1 q0 q7 q4 q4b q3
  | 85, _ => exact xw_86 cs h0 ql qsp qtf q5 q8 qL0 qL1 qL2 qL3 q6 q1 q0 q7 q4 q4b q3
  | 86, _ => exact xw_87 cs h0 ql qsp qtf q5 q8 qL0 qL1 qL2 qL3 q6 q1 q0 q7 q4 q4b q3
  | 87, _ => exact xw_88 cs h0 ql qsp qtf q5 q8 qL0 qL1 qL2 qL3 q6 q1 q0 q7 q4 q4b q3
  | 88, _ => exact xw_89 cs h0 ql qsp qtf q5 q8 qL0 qL1 qL2 qL3 q6 q1 q0 q7 q4 q4b q3
  | 89, _ => exact xw_90 cs h0 ql qsp qtf q5 q8 qL0 qL1 qL2 qL3 q6 q1 q0 q7 q4 q4b q3
  | 90, _ => exact xw_91 cs h0 ql qsp qtf q5 q8 qL0 qL1 qL2 qL3 q6 q1 q0 q7 q4 q4b q3
  | 91, _ => exact xw_92 cs h0 ql qsp qtf q5 q8 qL0 qL1 qL2 qL3 q6 q1 q0 q7 q4 q4b q3
  | 92, _ => exact xw_93 cs h0 ql qsp qtf q5 q8 qL0 qL1 qL2 qL3 q6 q1 q0 q7 q4 q4b q3
  | 93, _ => exact xw_94 cs h0 ql qsp qtf q5 q8 qL0 qL1 qL2 qL3 q6 q1 q0 q7 q4 q4b q3
  | 94, _ => exact xw_95 cs h0 ql qsp qtf q5 q8 qL0 qL1 qL2 qL3 q6 q1 q0 q7 q4 q4b q3
  | 95, _ => exact xw_96 cs h0 ql qsp qtf q5 q8 qL0 qL1 qL2 qL3 q6 q1 q0 q7 q4 q4b q3
  | 96, _ => exact xw_97 cs h0 ql qsp qtf q5 q8 qL0 qL1 qL2 qL3 q6 q1 q0 q7 q4 q4b q3
  | 97, _ => exact xw_98 cs h0 ql qsp qtf q5 q8 qL0 qL1 qL2 qL3 q6 q1 q0 q7 q4 q4b q3
  | n + 98, h => exact absurd h (by omega)
set_option maxHeartbeats 4000000 in
set_option maxRecDepth 100000 in
theorem xw_list {D : va_G} {H : Heap} {A : Nat → Prop} (cs : Nat → ClassId) (h0 ql qsp qtf : Nat) (q5 q8 qL0 qL1 qL2 qL3 q6 q1 q0 q7 q4 q4b q3 : Nat → Nat) (hP : va_P D vwCl ((h0, .inr (9, [.ref (q5 0), .ref (q8 0), .ref ql, .ref (q6 0), .ref (q1 0), .ref (q0 0), .ref (q7 0), .ref (q4 0), .ref (q4b 0), .ref (q3 0), .ref qsp, .ref qtf, .int 0, .int 0])) :: uw 98 (adR ql qsp qtf q5 q8 qL0 qL1 qL2 qL3 q6 q1 q0 q7 q4 q4b q3) (enR cs ql qsp qtf q5 q8 qL0 qL1 qL2 qL3 q6 q1 q0 q7 q4 q4b q3) sgR) H) (hD : va_D A ((h0, .inr (9, [.ref (q5 0), .ref (q8 0), .ref ql, .ref (q6 0), .ref (q1 0), .ref (q0 0), .ref (q7 0), .ref (q4 0), .ref (q4b 0), .ref (q3 0), .ref qsp, .ref qtf, .int 0, .int 0])) :: uw 98 (adR ql qsp qtf q5 q8 qL0 qL1 qL2 qL3 q6 q1 q0 q7 q4 q4b q3) (enR cs ql qsp qtf q5 q8 qL0 qL1 qL2 qL3 q6 q1 q0 q7 q4 q4b q3) sgR)) : va_P D vwCl (uw 99 (adX h0 ql qsp qtf q5 q8 qL0 qL1 qL2 qL3 q6 q1 q0 q7 q4 q4b q3) (enX (adX h0 ql qsp qtf q5 q8 qL0 qL1 qL2 qL3 q6 q1 q0 q7 q4 q4b q3) cs) sX0) H ∧ va_D A (uw 99 (adX h0 ql qsp qtf q5 q8 qL0 qL1 qL2 qL3 q6 q1 q0 q7 q4 q4b q3) (enX (adX h0 ql qsp qtf q5 q8 qL0 qL1 qL2 qL3 q6 q1 q0 q7 q4 q4b q3) cs) sX0) := by
  have e : (h0, .inr (9, [.ref (q5 0), .ref (q8 0), .ref ql, .ref (q6 0), .ref (q1 0), .ref (q0 0), .ref (q7 0), .ref (q4 0), .ref (q4b 0), .ref (q3 0), .ref qsp, .ref qtf, .int 0, .int 0])) :: uw 98 (adR ql qsp qtf q5 q8 qL0 qL1 qL2 qL3 q6 q1 q0 q7 q4 q4b q3) (enR cs ql qsp qtf q5 q8 qL0 qL1 qL2 qL3 q6 q1 q0 q7 q4 q4b q3) sgR = uw 99 (adX h0 ql qsp qtf q5 q8 qL0 qL1 qL2 qL3 q6 q1 q0 q7 q4 q4b q3) (enX (adX h0 ql qsp qtf q5 q8 qL0 qL1 qL2 qL3 q6 q1 q0 q7 q4 q4b q3) cs) sX0 := by
    apply List.ext_getElem?
    intro i
    cases i with
    | zero => rw [uw_get (by decide)]; rfl
    | succ k =>
      rw [List.getElem?_cons_succ]
      by_cases hk : k < 98
      · rw [uw_get hk, uw_get (by omega), xw_all cs h0 ql qsp qtf q5 q8 qL0 qL1 qL2 qL3 q6 q1 q0 q7 q4 q4b q3 k hk]; rfl
      · have a1 : (uw 98 (adR ql qsp qtf q5 q8 qL0 qL1 qL2 qL3 q6 q1 q0 q7 q4 q4b q3) (enR cs ql qsp qtf q5 q8 qL0 qL1 qL2 qL3 q6 q1 q0 q7 q4 q4b q3) sgR)[k]? = none := by simp [uw]; omega
        have a2 : (uw 99 (adX h0 ql qsp qtf q5 q8 qL0 qL1 qL2 qL3 q6 q1 q0 q7 q4 q4b q3) (enX (adX h0 ql qsp qtf q5 q8 qL0 qL1 qL2 qL3 q6 q1 q0 q7 q4 q4b q3) cs) sX0)[k + 1]? = none := by simp [uw]; omega
        rw [a1, a2]
  rw [← e]
  exact ⟨hP, hD⟩
set_option maxHeartbeats 16000000 in
set_option maxRecDepth 100000 in
theorem c_X9_init (l : Launch) (D : va_G) (cs : Nat → ClassId) : uMc l yX9_init wsX9_init { frames := 3, cells := 98, slots := 2098, locals := 60 } D vwCl cs 9 [.null, .null, .null, .null, .null, .null, .null, .null, .null, .null, .null, .null, .int 0, .int 0] 99 (fun qs => enX qs cs) sX0 98 2098 := by
  intro h0 sz
  refine Met.ofW (cc := cX9_init) (maxL := 2) (ret := none) (by decide) rfl ?_
  intro p e s m args below meth c s₁ B hml hv
  obtain ⟨rfl, hsz, hP, hK, hAO⟩ := hv
  have hx := B.exec
  have hb := B.bytes
  have hr := B.returns
  have hts := atoms_spec (ws := wsX9_init) B.pre
  have hown : s.vm.findClass RX9 = some m.cls := findClass_of_methodNamed B.named
  have hlocks := B.notSynchronized
  have hin : meth.name = "<init>" := (name_of_methodNamed B.named B.method).1
  subst hsz
  generalize hAe : uN h0 s.heap.size = A
  have hA : ∀ q : Nat, s.heap.size ≤ q → A q := fun q h => by rw [← hAe]; exact Or.inr h
  have hAn : ∀ q : Nat, A q → q ≠ h0 → s.heap.size ≤ q := fun q h g => by rw [← hAe] at h; exact h.resolve_left g
  have hD : va_D A [(h0, .inr (9, [.null, .null, .null, .null, .null, .null, .null, .null, .null, .null, .null, .null, .int 0, .int 0]))] := ⟨fun i j x y h1 h2 _ => by have a1 := (List.getElem?_eq_some_iff.mp h1).1; have a2 := (List.getElem?_eq_some_iff.mp h2).1; simp at a1 a2; omega, fun k q h => by have a1 := (List.getElem?_eq_some_iff.mp h).1; simp at a1; subst a1; cases h; rw [← hAe]; exact Or.inl rfl⟩
  have hS : va_S A s.heap s.heap [] := va_S.rf
  have hl := lv_entry ([.ref h0]) (n := 2) (Nat.le_of_ble_eq_true rfl)
  rw [lg_entry_eq]
  generalize (lg_sl ([.ref h0]) ++ List.replicate (2 - (lg_sl ([.ref h0])).length) Slot.unset).toArray = ls at hl ⊢
  have hl : lv_has ls 2 [(0, .ref h0)] := hl
  obtain ⟨H, eH⟩ : ∃ H, H = s.heap := ⟨_, rfl⟩
  obtain ⟨locs, eL⟩ : ∃ locs : List Loc, locs = [] := ⟨_, rfl⟩
  refine u_start2 eH eL hP hS ?_
  clear hP hS eH eL
  intro hP hS
  have hP : va_P D vwCl ((h0, .inr (9, [.null, .null, .null, .null, .null, .null, .null, .null, .null, .null, .null, .null, .int 0, .int 0])) :: uw 0 (fun _ => 0) (fun _ _ => .inr (0, [])) (fun _ _ => 0)) H := hP
  have hD : va_D A ((h0, .inr (9, [.null, .null, .null, .null, .null, .null, .null, .null, .null, .null, .null, .null, .int 0, .int 0])) :: uw 0 (fun _ => 0) (fun _ _ => .inr (0, [])) (fun _ _ => 0)) := hD
  refine lv_aload_n hx hb dX9_init_0 rfl (lv_at hl 0 rfl) ?_
  refine W.objInit hx hb hown (hts (.methodLink RX9 1 objectInit) (by decide +kernel)) (hts (.instanceMethod objectInit) (by decide +kernel)) (hts (.code objectInit ⟨#[0xb1]⟩ 1 none) (by decide +kernel)) rfl (by rw [hml]; exact hl.1) rfl dX9_init_1 (Nat.le_of_ble_eq_true rfl) (Nat.le_of_ble_eq_true rfl) ?_
  refine W.eq (g2 := F0 m 4 ls []) rfl ?_
  refine lv_aload_n hx hb dX9_init_4 rfl (lv_at hl 0 rfl) ?_
  refine u_made2 (rest := [.ref h0]) (fsd := [.null, .null]) (n2 := 7) (c2 := 7) (s2 := 50) ⟨hx, hb, hml, hown, hts⟩ hK hAO hA hP hD hS (c_X5_init l D cs) (by decide) (ci := 5) (C := RX5) (T := TX5) (N := 2) rfl (by decide +kernel) tyX5 tyX5_ok (fun j hj => by rcases (show j = 0 ∨ j = 1 by omega) with rfl | rfl <;> rfl) (by decide +kernel) (by decide +kernel) (by decide +kernel) (cwI 0 hts gX9_init_X5_init rfl rfl rfl (hts (.initialized RX5) (by decide +kernel)) (hts (.methodLink RX9 9 yX5_init) (by decide +kernel)) (hts (.instanceMethod yX5_init) (by decide +kernel)) rfl (by decide +kernel) ⟨Nat.le_of_ble_eq_true rfl, Nat.le_of_ble_eq_true rfl⟩) hl rfl rfl rfl ⟨Nat.le_of_ble_eq_true rfl, Nat.le_of_ble_eq_true rfl⟩ ⟨Nat.le_of_ble_eq_true rfl, Nat.le_of_ble_eq_true rfl⟩ (Nat.le_of_ble_eq_true rfl) dX9_init_5 dX9_init_8 dX9_init_9 (fun q5 H locs hP hD hS => ?_)
  refine va_putF (D := D) (ci := 9) (v := .ref (q5 0)) (ty := (tyX9 0)) (C := RX9) (T := TX9) (N := 14) hx hb hts (by decide +kernel) tyX9 tyX9_ok nmX9 hown hK hP hD hS 0 rfl rfl 0 (by decide) (hts (.fieldLink RX9 10 "GhostSigns" "sheets" "LGhostSigns$Sheets;") (by decide +kernel)) (fun _ h9 => h9) rfl hin rfl (by decide +kernel) rfl rfl (Nat.le_of_ble_eq_true rfl) dX9_init_12 (fun H locs hP hD hS => ?_)
  rw [List.set_cons_zero] at hP hD
  replace hP := pcons (e := .inr (9, [.ref (q5 0), .null, .null, .null, .null, .null, .null, .null, .null, .null, .null, .null, .int 0, .int 0])) rfl hP
  replace hD := dcons (e := .inr (9, [.ref (q5 0), .null, .null, .null, .null, .null, .null, .null, .null, .null, .null, .null, .int 0, .int 0])) rfl hD
  refine lv_aload_n hx hb dX9_init_15 rfl (lv_at hl 0 rfl) ?_
  refine u_made2N (rest := [.ref h0]) (fsd := [.null, .null, .null, .null, .null, .null, .null, .null, .null, .int 0]) (n2 := 33) (c2 := 33) (s2 := 342) ⟨hx, hb, hml, hown, hts⟩ hK hAO hA hP hD hS (c_X8_init l D cs) (by decide) (ci := 8) (C := RX8) (T := TX8) (N := 10) rfl (by decide +kernel) tyX8 tyX8_ok (fun j hj => by rcases (show j = 0 ∨ j = 1 ∨ j = 2 ∨ j = 3 ∨ j = 4 ∨ j = 5 ∨ j = 6 ∨ j = 7 ∨ j = 8 ∨ j = 9 by omega) with rfl | rfl | rfl | rfl | rfl | rfl | rfl | rfl | rfl | rfl <;> rfl) (by decide +kernel) (by decide +kernel) (by decide +kernel) ⟨va_cnB (host := RX9) 0 hts gX9_init_X8_init_n18 rfl rfl rfl (hAO.2.2.2 (18, yX8_init) (by decide +kernel)) (hts (.initialized RX8) (by decide +kernel)) (by decide +kernel) ⟨Nat.le_of_ble_eq_true rfl, Nat.le_of_ble_eq_true rfl⟩, rfl, hts (.instanceMethod yX8_init) (by decide +kernel)⟩ hl rfl rfl rfl ⟨Nat.le_of_ble_eq_true rfl, Nat.le_of_ble_eq_true rfl⟩ ⟨Nat.le_of_ble_eq_true rfl, Nat.le_of_ble_eq_true rfl⟩ (Nat.le_of_ble_eq_true rfl) dX9_init_16 dX9_init_19 dX9_init_20 (fun q8 H locs hP hD hS => ?_)
  refine va_putF (D := D) (ci := 9) (v := .ref (q8 0)) (ty := (tyX9 1)) (C := RX9) (T := TX9) (N := 14) hx hb hts (by decide +kernel) tyX9 tyX9_ok nmX9 hown hK hP hD hS 0 rfl rfl 1 (by decide) (hts (.fieldLink RX9 19 "GhostSigns" "words" "LGhostSigns$Words;") (by decide +kernel)) (fun _ h9 => h9) rfl hin rfl (by decide +kernel) rfl rfl (Nat.le_of_ble_eq_true rfl) dX9_init_23 (fun H locs hP hD hS => ?_)
  rw [List.set_cons_zero] at hP hD
  replace hP := pcons (e := .inr (9, [.ref (q5 0), .ref (q8 0), .null, .null, .null, .null, .null, .null, .null, .null, .null, .null, .int 0, .int 0])) rfl hP
  replace hD := dcons (e := .inr (9, [.ref (q5 0), .ref (q8 0), .null, .null, .null, .null, .null, .null, .null, .null, .null, .null, .int 0, .int 0])) rfl hD
  refine lv_aload_n hx hb dX9_init_26 rfl (lv_at hl 0 rfl) ?_
  refine lv_iconst (v := 4) hx hb dX9_init_27 (by decide) ?_
  refine u_newq2 (k := 4) (N' := 4) (n2 := 34) (c2 := 34) (s2 := 346) hx hb 3 hown (hts (.classLink RX9 23 RX2) (by decide +kernel)) hAO.2.2.1 hK hP hD hS hA rfl (by decide) (by decide) (by omega) rfl rfl rfl (Nat.le_of_ble_eq_true rfl) (Nat.le_of_ble_eq_true rfl) dX9_init_28 (fun ql H hP hD hS => ?_)
  refine va_putF (D := D) (ci := 9) (v := .ref ql) (ty := (tyX9 2)) (C := RX9) (T := TX9) (N := 14) hx hb hts (by decide +kernel) tyX9 tyX9_ok nmX9 hown hK hP hD hS 0 rfl rfl 2 (by decide) (hts (.fieldLink RX9 25 "GhostSigns" "lines" "[LGhostSigns$Line;") (by decide +kernel)) (fun _ h9 => h9) rfl hin rfl (by decide +kernel) rfl rfl (Nat.le_of_ble_eq_true rfl) dX9_init_31 (fun H locs hP hD hS => ?_)
  rw [List.set_cons_zero] at hP hD
  replace hP := pcons (e := .inr (9, [.ref (q5 0), .ref (q8 0), .ref ql, .null, .null, .null, .null, .null, .null, .null, .null, .null, .int 0, .int 0])) rfl hP
  replace hD := dcons (e := .inr (9, [.ref (q5 0), .ref (q8 0), .ref ql, .null, .null, .null, .null, .null, .null, .null, .null, .null, .int 0, .int 0])) rfl hD
  refine lv_iconst (v := 0) hx hb dX9_init_34 (by decide) ?_
  refine lv_istore_n (lv' := [(1, .int 0), (0, .ref h0)]) hx hb dX9_init_35 rfl hl (by decide) rfl (fun ls hl => ?_)
  refine lv_iload_n hx hb dX9_init_36 rfl (lv_at hl 0 rfl) ?_
  refine lv_iconst (v := 4) hx hb dX9_init_37 (by decide) ?_
  refine lv_icmp_ge (tgt := 60) hx hb dX9_init_38 (by decide) (fun q => absurd q (by decide)) (fun _ => ?_)
  refine lv_aload_n hx hb dX9_init_41 rfl (lv_at hl 1 rfl) ?_
  refine va_get (D := D) (ci := 9) (v := .ref ql) (C := RX9) (T := TX9) (N := 14) hx hb hts (by decide +kernel) hown hK hP 0 rfl rfl 2 (by decide) (hts (.fieldLink RX9 25 "GhostSigns" "lines" "[LGhostSigns$Line;") (by decide +kernel)) (fun _ h9 => h9) rfl dX9_init_42 ?_
  refine lv_iload_n hx hb dX9_init_45 rfl (lv_at hl 0 rfl) ?_
  refine u_made2N (rest := [.int 0, .ref ql]) (fsd := [.null, .null, .null, .null, .int 0]) (n2 := 43) (c2 := 43) (s2 := 404) ⟨hx, hb, hml, hown, hts⟩ hK hAO hA hP hD hS (c_X2_init l D cs) (by decide) (ci := 2) (C := RX2) (T := TX2) (N := 5) rfl (by decide +kernel) tyX2 tyX2_ok (fun j hj => by rcases (show j = 0 ∨ j = 1 ∨ j = 2 ∨ j = 3 ∨ j = 4 by omega) with rfl | rfl | rfl | rfl | rfl <;> rfl) (by decide +kernel) (by decide +kernel) (by decide +kernel) ⟨va_cnB (host := RX9) 0 hts gX9_init_X2_init_n29 rfl rfl rfl (hAO.2.2.2 (29, yX2_init) (by decide +kernel)) (hts (.initialized RX2) (by decide +kernel)) (by decide +kernel) ⟨Nat.le_of_ble_eq_true rfl, Nat.le_of_ble_eq_true rfl⟩, rfl, hts (.instanceMethod yX2_init) (by decide +kernel)⟩ hl rfl rfl rfl ⟨Nat.le_of_ble_eq_true rfl, Nat.le_of_ble_eq_true rfl⟩ ⟨Nat.le_of_ble_eq_true rfl, Nat.le_of_ble_eq_true rfl⟩ (Nat.le_of_ble_eq_true rfl) dX9_init_46 dX9_init_49 dX9_init_50 (fun qL0 H locs hP hD hS => ?_)
  refine u_astq2 (r := (RX2, TX2, 5)) hx hb hK hP hD hS 33 34 3 2 (by decide) (by decide) rfl rfl rfl rfl rfl rfl (vp_lit (by decide)) dX9_init_53 (fun H locs hP hD hS => ?_)
  refine lv_iinc (v := 1) (lv' := [(1, .int 1), (0, .ref h0)]) hx hb dX9_init_54 hl (k := 0) rfl (by decide) (by decide) rfl (fun ls hl => ?_)
  refine lv_goto (tgt := 36) hx hb dX9_init_57 (by decide) ?_
  refine lv_iload_n hx hb dX9_init_36 rfl (lv_at hl 0 rfl) ?_
  refine lv_iconst (v := 4) hx hb dX9_init_37 (by decide) ?_
  refine lv_icmp_ge (tgt := 60) hx hb dX9_init_38 (by decide) (fun q => absurd q (by decide)) (fun _ => ?_)
  refine lv_aload_n hx hb dX9_init_41 rfl (lv_at hl 1 rfl) ?_
  refine va_get (D := D) (ci := 9) (v := .ref ql) (C := RX9) (T := TX9) (N := 14) hx hb hts (by decide +kernel) hown hK hP 0 rfl rfl 2 (by decide) (hts (.fieldLink RX9 25 "GhostSigns" "lines" "[LGhostSigns$Line;") (by decide +kernel)) (fun _ h9 => h9) rfl dX9_init_42 ?_
  refine lv_iload_n hx hb dX9_init_45 rfl (lv_at hl 0 rfl) ?_
  refine u_made2N (rest := [.int 1, .ref ql]) (fsd := [.null, .null, .null, .null, .int 0]) (n2 := 52) (c2 := 52) (s2 := 462) ⟨hx, hb, hml, hown, hts⟩ hK hAO hA hP hD hS (c_X2_init l D cs) (by decide) (ci := 2) (C := RX2) (T := TX2) (N := 5) rfl (by decide +kernel) tyX2 tyX2_ok (fun j hj => by rcases (show j = 0 ∨ j = 1 ∨ j = 2 ∨ j = 3 ∨ j = 4 by omega) with rfl | rfl | rfl | rfl | rfl <;> rfl) (by decide +kernel) (by decide +kernel) (by decide +kernel) ⟨va_cnB (host := RX9) 0 hts gX9_init_X2_init_n29 rfl rfl rfl (hAO.2.2.2 (29, yX2_init) (by decide +kernel)) (hts (.initialized RX2) (by decide +kernel)) (by decide +kernel) ⟨Nat.le_of_ble_eq_true rfl, Nat.le_of_ble_eq_true rfl⟩, rfl, hts (.instanceMethod yX2_init) (by decide +kernel)⟩ hl rfl rfl rfl ⟨Nat.le_of_ble_eq_true rfl, Nat.le_of_ble_eq_true rfl⟩ ⟨Nat.le_of_ble_eq_true rfl, Nat.le_of_ble_eq_true rfl⟩ (Nat.le_of_ble_eq_true rfl) dX9_init_46 dX9_init_49 dX9_init_50 (fun qL1 H locs hP hD hS => ?_)
  refine u_astq2 (r := (RX2, TX2, 5)) hx hb hK hP hD hS 33 43 3 2 (by decide) (by decide) rfl rfl rfl rfl rfl rfl (vp_lit (by decide)) dX9_init_53 (fun H locs hP hD hS => ?_)
  refine lv_iinc (v := 2) (lv' := [(1, .int 2), (0, .ref h0)]) hx hb dX9_init_54 hl (k := 0) rfl (by decide) (by decide) rfl (fun ls hl => ?_)
  refine lv_goto (tgt := 36) hx hb dX9_init_57 (by decide) ?_
  refine lv_iload_n hx hb dX9_init_36 rfl (lv_at hl 0 rfl) ?_
  refine lv_iconst (v := 4) hx hb dX9_init_37 (by decide) ?_
  refine lv_icmp_ge (tgt := 60) hx hb dX9_init_38 (by decide) (fun q => absurd q (by decide)) (fun _ => ?_)
  refine lv_aload_n hx hb dX9_init_41 rfl (lv_at hl 1 rfl) ?_
  refine va_get (D := D) (ci := 9) (v := .ref ql) (C := RX9) (T := TX9) (N := 14) hx hb hts (by decide +kernel) hown hK hP 0 rfl rfl 2 (by decide) (hts (.fieldLink RX9 25 "GhostSigns" "lines" "[LGhostSigns$Line;") (by decide +kernel)) (fun _ h9 => h9) rfl dX9_init_42 ?_
  refine lv_iload_n hx hb dX9_init_45 rfl (lv_at hl 0 rfl) ?_
  refine u_made2N (rest := [.int 2, .ref ql]) (fsd := [.null, .null, .null, .null, .int 0]) (n2 := 61) (c2 := 61) (s2 := 520) ⟨hx, hb, hml, hown, hts⟩ hK hAO hA hP hD hS (c_X2_init l D cs) (by decide) (ci := 2) (C := RX2) (T := TX2) (N := 5) rfl (by decide +kernel) tyX2 tyX2_ok (fun j hj => by rcases (show j = 0 ∨ j = 1 ∨ j = 2 ∨ j = 3 ∨ j = 4 by omega) with rfl | rfl | rfl | rfl | rfl <;> rfl) (by decide +kernel) (by decide +kernel) (by decide +kernel) ⟨va_cnB (host := RX9) 0 hts gX9_init_X2_init_n29 rfl rfl rfl (hAO.2.2.2 (29, yX2_init) (by decide +kernel)) (hts (.initialized RX2) (by decide +kernel)) (by decide +kernel) ⟨Nat.le_of_ble_eq_true rfl, Nat.le_of_ble_eq_true rfl⟩, rfl, hts (.instanceMethod yX2_init) (by decide +kernel)⟩ hl rfl rfl rfl ⟨Nat.le_of_ble_eq_true rfl, Nat.le_of_ble_eq_true rfl⟩ ⟨Nat.le_of_ble_eq_true rfl, Nat.le_of_ble_eq_true rfl⟩ (Nat.le_of_ble_eq_true rfl) dX9_init_46 dX9_init_49 dX9_init_50 (fun qL2 H locs hP hD hS => ?_)
  refine u_astq2 (r := (RX2, TX2, 5)) hx hb hK hP hD hS 33 52 3 2 (by decide) (by decide) rfl rfl rfl rfl rfl rfl (vp_lit (by decide)) dX9_init_53 (fun H locs hP hD hS => ?_)
  refine lv_iinc (v := 3) (lv' := [(1, .int 3), (0, .ref h0)]) hx hb dX9_init_54 hl (k := 0) rfl (by decide) (by decide) rfl (fun ls hl => ?_)
  refine lv_goto (tgt := 36) hx hb dX9_init_57 (by decide) ?_
  refine lv_iload_n hx hb dX9_init_36 rfl (lv_at hl 0 rfl) ?_
  refine lv_iconst (v := 4) hx hb dX9_init_37 (by decide) ?_
  refine lv_icmp_ge (tgt := 60) hx hb dX9_init_38 (by decide) (fun q => absurd q (by decide)) (fun _ => ?_)
  refine lv_aload_n hx hb dX9_init_41 rfl (lv_at hl 1 rfl) ?_
  refine va_get (D := D) (ci := 9) (v := .ref ql) (C := RX9) (T := TX9) (N := 14) hx hb hts (by decide +kernel) hown hK hP 0 rfl rfl 2 (by decide) (hts (.fieldLink RX9 25 "GhostSigns" "lines" "[LGhostSigns$Line;") (by decide +kernel)) (fun _ h9 => h9) rfl dX9_init_42 ?_
  refine lv_iload_n hx hb dX9_init_45 rfl (lv_at hl 0 rfl) ?_
  refine u_made2N (rest := [.int 3, .ref ql]) (fsd := [.null, .null, .null, .null, .int 0]) (n2 := 70) (c2 := 70) (s2 := 578) ⟨hx, hb, hml, hown, hts⟩ hK hAO hA hP hD hS (c_X2_init l D cs) (by decide) (ci := 2) (C := RX2) (T := TX2) (N := 5) rfl (by decide +kernel) tyX2 tyX2_ok (fun j hj => by rcases (show j = 0 ∨ j = 1 ∨ j = 2 ∨ j = 3 ∨ j = 4 by omega) with rfl | rfl | rfl | rfl | rfl <;> rfl) (by decide +kernel) (by decide +kernel) (by decide +kernel) ⟨va_cnB (host := RX9) 0 hts gX9_init_X2_init_n29 rfl rfl rfl (hAO.2.2.2 (29, yX2_init) (by decide +kernel)) (hts (.initialized RX2) (by decide +kernel)) (by decide +kernel) ⟨Nat.le_of_ble_eq_true rfl, Nat.le_of_ble_eq_true rfl⟩, rfl, hts (.instanceMethod yX2_init) (by decide +kernel)⟩ hl rfl rfl rfl ⟨Nat.le_of_ble_eq_true rfl, Nat.le_of_ble_eq_true rfl⟩ ⟨Nat.le_of_ble_eq_true rfl, Nat.le_of_ble_eq_true rfl⟩ (Nat.le_of_ble_eq_true rfl) dX9_init_46 dX9_init_49 dX9_init_50 (fun qL3 H locs hP hD hS => ?_)
  refine u_astq2 (r := (RX2, TX2, 5)) hx hb hK hP hD hS 33 61 3 2 (by decide) (by decide) rfl rfl rfl rfl rfl rfl (vp_lit (by decide)) dX9_init_53 (fun H locs hP hD hS => ?_)
  refine lv_iinc (v := 4) (lv' := [(1, .int 4), (0, .ref h0)]) hx hb dX9_init_54 hl (k := 0) rfl (by decide) (by decide) rfl (fun ls hl => ?_)
  refine lv_goto (tgt := 36) hx hb dX9_init_57 (by decide) ?_
  refine lv_iload_n hx hb dX9_init_36 rfl (lv_at hl 0 rfl) ?_
  refine lv_iconst (v := 4) hx hb dX9_init_37 (by decide) ?_
  refine lv_icmp_ge (tgt := 60) hx hb dX9_init_38 (by decide) (fun _ => ?_) (fun q => absurd q (by decide))
  refine lv_aload_n hx hb dX9_init_60 rfl (lv_at hl 1 rfl) ?_
  refine u_made2N (rest := [.ref h0]) (fsd := [.null, .null, .null, .int 0, .int 0, .int 0]) (n2 := 74) (c2 := 74) (s2 := 608) ⟨hx, hb, hml, hown, hts⟩ hK hAO hA hP hD hS (c_X6_init l D cs) (by decide) (ci := 6) (C := RX6) (T := TX6) (N := 6) rfl (by decide +kernel) tyX6 tyX6_ok (fun j hj => by rcases (show j = 0 ∨ j = 1 ∨ j = 2 ∨ j = 3 ∨ j = 4 ∨ j = 5 by omega) with rfl | rfl | rfl | rfl | rfl | rfl <;> rfl) (by decide +kernel) (by decide +kernel) (by decide +kernel) ⟨va_cnB (host := RX9) 0 hts gX9_init_X6_init_n32 rfl rfl rfl (hAO.2.2.2 (32, yX6_init) (by decide +kernel)) (hts (.initialized RX6) (by decide +kernel)) (by decide +kernel) ⟨Nat.le_of_ble_eq_true rfl, Nat.le_of_ble_eq_true rfl⟩, rfl, hts (.instanceMethod yX6_init) (by decide +kernel)⟩ hl rfl rfl rfl ⟨Nat.le_of_ble_eq_true rfl, Nat.le_of_ble_eq_true rfl⟩ ⟨Nat.le_of_ble_eq_true rfl, Nat.le_of_ble_eq_true rfl⟩ (Nat.le_of_ble_eq_true rfl) dX9_init_61 dX9_init_64 dX9_init_65 (fun q6 H locs hP hD hS => ?_)
  refine va_putF (D := D) (ci := 9) (v := .ref (q6 0)) (ty := (tyX9 3)) (C := RX9) (T := TX9) (N := 14) hx hb hts (by decide +kernel) tyX9 tyX9_ok nmX9 hown hK hP hD hS 0 rfl rfl 3 (by decide) (hts (.fieldLink RX9 33 "GhostSigns" "street" "LGhostSigns$Street;") (by decide +kernel)) (fun _ h9 => h9) rfl hin rfl (by decide +kernel) rfl rfl (Nat.le_of_ble_eq_true rfl) dX9_init_68 (fun H locs hP hD hS => ?_)
  rw [List.set_cons_zero] at hP hD
  replace hP := pcons (e := .inr (9, [.ref (q5 0), .ref (q8 0), .ref ql, .ref (q6 0), .null, .null, .null, .null, .null, .null, .null, .null, .int 0, .int 0])) rfl hP
  replace hD := dcons (e := .inr (9, [.ref (q5 0), .ref (q8 0), .ref ql, .ref (q6 0), .null, .null, .null, .null, .null, .null, .null, .null, .int 0, .int 0])) rfl hD
  refine lv_aload_n hx hb dX9_init_71 rfl (lv_at hl 1 rfl) ?_
  refine u_made2N (rest := [.ref h0]) (fsd := [.null, .null, .null, .null, .int 0]) (n2 := 79) (c2 := 79) (s2 := 733) ⟨hx, hb, hml, hown, hts⟩ hK hAO hA hP hD hS (c_X1_init l D cs) (by decide) (ci := 1) (C := RX1) (T := TX1) (N := 5) rfl (by decide +kernel) tyX1 tyX1_ok (fun j hj => by rcases (show j = 0 ∨ j = 1 ∨ j = 2 ∨ j = 3 ∨ j = 4 by omega) with rfl | rfl | rfl | rfl | rfl <;> rfl) (by decide +kernel) (by decide +kernel) (by decide +kernel) ⟨va_cnB (host := RX9) 0 hts gX9_init_X1_init_n39 rfl rfl rfl (hAO.2.2.2 (39, yX1_init) (by decide +kernel)) (hts (.initialized RX1) (by decide +kernel)) (by decide +kernel) ⟨Nat.le_of_ble_eq_true rfl, Nat.le_of_ble_eq_true rfl⟩, rfl, hts (.instanceMethod yX1_init) (by decide +kernel)⟩ hl rfl rfl rfl ⟨Nat.le_of_ble_eq_true rfl, Nat.le_of_ble_eq_true rfl⟩ ⟨Nat.le_of_ble_eq_true rfl, Nat.le_of_ble_eq_true rfl⟩ (Nat.le_of_ble_eq_true rfl) dX9_init_72 dX9_init_75 dX9_init_76 (fun q1 H locs hP hD hS => ?_)
  refine va_putF (D := D) (ci := 9) (v := .ref (q1 0)) (ty := (tyX9 4)) (C := RX9) (T := TX9) (N := 14) hx hb hts (by decide +kernel) tyX9 tyX9_ok nmX9 hown hK hP hD hS 0 rfl rfl 4 (by decide) (hts (.fieldLink RX9 40 "GhostSigns" "lights" "LGhostSigns$Lights;") (by decide +kernel)) (fun _ h9 => h9) rfl hin rfl (by decide +kernel) rfl rfl (Nat.le_of_ble_eq_true rfl) dX9_init_79 (fun H locs hP hD hS => ?_)
  rw [List.set_cons_zero] at hP hD
  replace hP := pcons (e := .inr (9, [.ref (q5 0), .ref (q8 0), .ref ql, .ref (q6 0), .ref (q1 0), .null, .null, .null, .null, .null, .null, .null, .int 0, .int 0])) rfl hP
  replace hD := dcons (e := .inr (9, [.ref (q5 0), .ref (q8 0), .ref ql, .ref (q6 0), .ref (q1 0), .null, .null, .null, .null, .null, .null, .null, .int 0, .int 0])) rfl hD
  refine lv_aload_n hx hb dX9_init_82 rfl (lv_at hl 1 rfl) ?_
  refine u_made2N (rest := [.ref h0]) (fsd := [.null, .null, .int 0]) (n2 := 82) (c2 := 82) (s2 := 760) ⟨hx, hb, hml, hown, hts⟩ hK hAO hA hP hD hS (c_X0_init l D cs) (by decide) (ci := 0) (C := RX0) (T := TX0) (N := 3) rfl (by decide +kernel) tyX0 tyX0_ok (fun j hj => by rcases (show j = 0 ∨ j = 1 ∨ j = 2 by omega) with rfl | rfl | rfl <;> rfl) (by decide +kernel) (by decide +kernel) (by decide +kernel) ⟨va_cnB (host := RX9) 0 hts gX9_init_X0_init_n46 rfl rfl rfl (hAO.2.2.2 (46, yX0_init) (by decide +kernel)) (hts (.initialized RX0) (by decide +kernel)) (by decide +kernel) ⟨Nat.le_of_ble_eq_true rfl, Nat.le_of_ble_eq_true rfl⟩, rfl, hts (.instanceMethod yX0_init) (by decide +kernel)⟩ hl rfl rfl rfl ⟨Nat.le_of_ble_eq_true rfl, Nat.le_of_ble_eq_true rfl⟩ ⟨Nat.le_of_ble_eq_true rfl, Nat.le_of_ble_eq_true rfl⟩ (Nat.le_of_ble_eq_true rfl) dX9_init_83 dX9_init_86 dX9_init_87 (fun q0 H locs hP hD hS => ?_)
  refine va_putF (D := D) (ci := 9) (v := .ref (q0 0)) (ty := (tyX9 5)) (C := RX9) (T := TX9) (N := 14) hx hb hts (by decide +kernel) tyX9 tyX9_ok nmX9 hown hK hP hD hS 0 rfl rfl 5 (by decide) (hts (.fieldLink RX9 47 "GhostSigns" "hands" "LGhostSigns$Hands;") (by decide +kernel)) (fun _ h9 => h9) rfl hin rfl (by decide +kernel) rfl rfl (Nat.le_of_ble_eq_true rfl) dX9_init_90 (fun H locs hP hD hS => ?_)
  rw [List.set_cons_zero] at hP hD
  replace hP := pcons (e := .inr (9, [.ref (q5 0), .ref (q8 0), .ref ql, .ref (q6 0), .ref (q1 0), .ref (q0 0), .null, .null, .null, .null, .null, .null, .int 0, .int 0])) rfl hP
  replace hD := dcons (e := .inr (9, [.ref (q5 0), .ref (q8 0), .ref ql, .ref (q6 0), .ref (q1 0), .ref (q0 0), .null, .null, .null, .null, .null, .null, .int 0, .int 0])) rfl hD
  refine lv_aload_n hx hb dX9_init_93 rfl (lv_at hl 1 rfl) ?_
  refine u_made2N (rest := [.ref h0]) (fsd := [.null, .null, .int 0, .int 0]) (n2 := 85) (c2 := 85) (s2 := 788) ⟨hx, hb, hml, hown, hts⟩ hK hAO hA hP hD hS (c_X7_init l D cs) (by decide) (ci := 7) (C := RX7) (T := TX7) (N := 4) rfl (by decide +kernel) tyX7 tyX7_ok (fun j hj => by rcases (show j = 0 ∨ j = 1 ∨ j = 2 ∨ j = 3 by omega) with rfl | rfl | rfl | rfl <;> rfl) (by decide +kernel) (by decide +kernel) (by decide +kernel) ⟨va_cnB (host := RX9) 0 hts gX9_init_X7_init_n53 rfl rfl rfl (hAO.2.2.2 (53, yX7_init) (by decide +kernel)) (hts (.initialized RX7) (by decide +kernel)) (by decide +kernel) ⟨Nat.le_of_ble_eq_true rfl, Nat.le_of_ble_eq_true rfl⟩, rfl, hts (.instanceMethod yX7_init) (by decide +kernel)⟩ hl rfl rfl rfl ⟨Nat.le_of_ble_eq_true rfl, Nat.le_of_ble_eq_true rfl⟩ ⟨Nat.le_of_ble_eq_true rfl, Nat.le_of_ble_eq_true rfl⟩ (Nat.le_of_ble_eq_true rfl) dX9_init_94 dX9_init_97 dX9_init_98 (fun q7 H locs hP hD hS => ?_)
  refine va_putF (D := D) (ci := 9) (v := .ref (q7 0)) (ty := (tyX9 6)) (C := RX9) (T := TX9) (N := 14) hx hb hts (by decide +kernel) tyX9 tyX9_ok nmX9 hown hK hP hD hS 0 rfl rfl 6 (by decide) (hts (.fieldLink RX9 54 "GhostSigns" "walls" "LGhostSigns$Walls;") (by decide +kernel)) (fun _ h9 => h9) rfl hin rfl (by decide +kernel) rfl rfl (Nat.le_of_ble_eq_true rfl) dX9_init_101 (fun H locs hP hD hS => ?_)
  rw [List.set_cons_zero] at hP hD
  replace hP := pcons (e := .inr (9, [.ref (q5 0), .ref (q8 0), .ref ql, .ref (q6 0), .ref (q1 0), .ref (q0 0), .ref (q7 0), .null, .null, .null, .null, .null, .int 0, .int 0])) rfl hP
  replace hD := dcons (e := .inr (9, [.ref (q5 0), .ref (q8 0), .ref ql, .ref (q6 0), .ref (q1 0), .ref (q0 0), .ref (q7 0), .null, .null, .null, .null, .null, .int 0, .int 0])) rfl hD
  refine lv_aload_n hx hb dX9_init_104 rfl (lv_at hl 1 rfl) ?_
  refine u_made2N (rest := [.ref h0]) (fsd := [.null, .null, .null, .null, .int 0]) (n2 := 90) (c2 := 90) (s2 := 1433) ⟨hx, hb, hml, hown, hts⟩ hK hAO hA hP hD hS (c_X4_init l D cs) (by decide) (ci := 4) (C := RX4) (T := TX4) (N := 5) rfl (by decide +kernel) tyX4 tyX4_ok (fun j hj => by rcases (show j = 0 ∨ j = 1 ∨ j = 2 ∨ j = 3 ∨ j = 4 by omega) with rfl | rfl | rfl | rfl | rfl <;> rfl) (by decide +kernel) (by decide +kernel) (by decide +kernel) ⟨va_cnB (host := RX9) 0 hts gX9_init_X4_init_n60 rfl rfl rfl (hAO.2.2.2 (60, yX4_init) (by decide +kernel)) (hts (.initialized RX4) (by decide +kernel)) (by decide +kernel) ⟨Nat.le_of_ble_eq_true rfl, Nat.le_of_ble_eq_true rfl⟩, rfl, hts (.instanceMethod yX4_init) (by decide +kernel)⟩ hl rfl rfl rfl ⟨Nat.le_of_ble_eq_true rfl, Nat.le_of_ble_eq_true rfl⟩ ⟨Nat.le_of_ble_eq_true rfl, Nat.le_of_ble_eq_true rfl⟩ (Nat.le_of_ble_eq_true rfl) dX9_init_105 dX9_init_108 dX9_init_109 (fun q4 H locs hP hD hS => ?_)
  refine va_putF (D := D) (ci := 9) (v := .ref (q4 0)) (ty := (tyX9 7)) (C := RX9) (T := TX9) (N := 14) hx hb hts (by decide +kernel) tyX9 tyX9_ok nmX9 hown hK hP hD hS 0 rfl rfl 7 (by decide) (hts (.fieldLink RX9 61 "GhostSigns" "placesOfA" "LGhostSigns$Places;") (by decide +kernel)) (fun _ h9 => h9) rfl hin rfl (by decide +kernel) rfl rfl (Nat.le_of_ble_eq_true rfl) dX9_init_112 (fun H locs hP hD hS => ?_)
  rw [List.set_cons_zero] at hP hD
  replace hP := pcons (e := .inr (9, [.ref (q5 0), .ref (q8 0), .ref ql, .ref (q6 0), .ref (q1 0), .ref (q0 0), .ref (q7 0), .ref (q4 0), .null, .null, .null, .null, .int 0, .int 0])) rfl hP
  replace hD := dcons (e := .inr (9, [.ref (q5 0), .ref (q8 0), .ref ql, .ref (q6 0), .ref (q1 0), .ref (q0 0), .ref (q7 0), .ref (q4 0), .null, .null, .null, .null, .int 0, .int 0])) rfl hD
  refine lv_aload_n hx hb dX9_init_115 rfl (lv_at hl 1 rfl) ?_
  refine u_made2N (rest := [.ref h0]) (fsd := [.null, .null, .null, .null, .int 0]) (n2 := 95) (c2 := 95) (s2 := 2078) ⟨hx, hb, hml, hown, hts⟩ hK hAO hA hP hD hS (c_X4_init l D cs) (by decide) (ci := 4) (C := RX4) (T := TX4) (N := 5) rfl (by decide +kernel) tyX4 tyX4_ok (fun j hj => by rcases (show j = 0 ∨ j = 1 ∨ j = 2 ∨ j = 3 ∨ j = 4 by omega) with rfl | rfl | rfl | rfl | rfl <;> rfl) (by decide +kernel) (by decide +kernel) (by decide +kernel) ⟨va_cnB (host := RX9) 0 hts gX9_init_X4_init_n60 rfl rfl rfl (hAO.2.2.2 (60, yX4_init) (by decide +kernel)) (hts (.initialized RX4) (by decide +kernel)) (by decide +kernel) ⟨Nat.le_of_ble_eq_true rfl, Nat.le_of_ble_eq_true rfl⟩, rfl, hts (.instanceMethod yX4_init) (by decide +kernel)⟩ hl rfl rfl rfl ⟨Nat.le_of_ble_eq_true rfl, Nat.le_of_ble_eq_true rfl⟩ ⟨Nat.le_of_ble_eq_true rfl, Nat.le_of_ble_eq_true rfl⟩ (Nat.le_of_ble_eq_true rfl) dX9_init_116 dX9_init_119 dX9_init_120 (fun q4b H locs hP hD hS => ?_)
  refine va_putF (D := D) (ci := 9) (v := .ref (q4b 0)) (ty := (tyX9 8)) (C := RX9) (T := TX9) (N := 14) hx hb hts (by decide +kernel) tyX9 tyX9_ok nmX9 hown hK hP hD hS 0 rfl rfl 8 (by decide) (hts (.fieldLink RX9 65 "GhostSigns" "placesOfB" "LGhostSigns$Places;") (by decide +kernel)) (fun _ h9 => h9) rfl hin rfl (by decide +kernel) rfl rfl (Nat.le_of_ble_eq_true rfl) dX9_init_123 (fun H locs hP hD hS => ?_)
  rw [List.set_cons_zero] at hP hD
  replace hP := pcons (e := .inr (9, [.ref (q5 0), .ref (q8 0), .ref ql, .ref (q6 0), .ref (q1 0), .ref (q0 0), .ref (q7 0), .ref (q4 0), .ref (q4b 0), .null, .null, .null, .int 0, .int 0])) rfl hP
  replace hD := dcons (e := .inr (9, [.ref (q5 0), .ref (q8 0), .ref ql, .ref (q6 0), .ref (q1 0), .ref (q0 0), .ref (q7 0), .ref (q4 0), .ref (q4b 0), .null, .null, .null, .int 0, .int 0])) rfl hD
  refine lv_aload_n hx hb dX9_init_126 rfl (lv_at hl 1 rfl) ?_
  refine u_made2N (rest := [.ref h0]) (fsd := [.int 0, .int 0, .int 0, .int 0]) (n2 := 96) (c2 := 96) (s2 := 2082) ⟨hx, hb, hml, hown, hts⟩ hK hAO hA hP hD hS (c_X3_init l D cs) (by decide) (ci := 3) (C := RX3) (T := TX3) (N := 4) rfl (by decide +kernel) tyX3 tyX3_ok (fun j hj => by rcases (show j = 0 ∨ j = 1 ∨ j = 2 ∨ j = 3 by omega) with rfl | rfl | rfl | rfl <;> rfl) (by decide +kernel) (by decide +kernel) (by decide +kernel) ⟨va_cnB (host := RX9) 0 hts gX9_init_X3_init_n70 rfl rfl rfl (hAO.2.2.2 (70, yX3_init) (by decide +kernel)) (hts (.initialized RX3) (by decide +kernel)) (by decide +kernel) ⟨Nat.le_of_ble_eq_true rfl, Nat.le_of_ble_eq_true rfl⟩, rfl, hts (.instanceMethod yX3_init) (by decide +kernel)⟩ hl rfl rfl rfl ⟨Nat.le_of_ble_eq_true rfl, Nat.le_of_ble_eq_true rfl⟩ ⟨Nat.le_of_ble_eq_true rfl, Nat.le_of_ble_eq_true rfl⟩ (Nat.le_of_ble_eq_true rfl) dX9_init_127 dX9_init_130 dX9_init_131 (fun q3 H locs hP hD hS => ?_)
  refine va_putF (D := D) (ci := 9) (v := .ref (q3 0)) (ty := (tyX9 9)) (C := RX9) (T := TX9) (N := 14) hx hb hts (by decide +kernel) tyX9 tyX9_ok nmX9 hown hK hP hD hS 0 rfl rfl 9 (by decide) (hts (.fieldLink RX9 71 "GhostSigns" "pair" "LGhostSigns$Pair;") (by decide +kernel)) (fun _ h9 => h9) rfl hin rfl (by decide +kernel) rfl rfl (Nat.le_of_ble_eq_true rfl) dX9_init_134 (fun H locs hP hD hS => ?_)
  rw [List.set_cons_zero] at hP hD
  replace hP := pcons (e := .inr (9, [.ref (q5 0), .ref (q8 0), .ref ql, .ref (q6 0), .ref (q1 0), .ref (q0 0), .ref (q7 0), .ref (q4 0), .ref (q4b 0), .ref (q3 0), .null, .null, .int 0, .int 0])) rfl hP
  replace hD := dcons (e := .inr (9, [.ref (q5 0), .ref (q8 0), .ref ql, .ref (q6 0), .ref (q1 0), .ref (q0 0), .ref (q7 0), .ref (q4 0), .ref (q4b 0), .ref (q3 0), .null, .null, .int 0, .int 0])) rfl hD
  refine lv_aload_n hx hb dX9_init_137 rfl (lv_at hl 1 rfl) ?_
  refine lv_bipush (v := 10) hx hb dX9_init_138 (by decide) ?_
  refine u_newa2 0 (atype := .int) (k := 10) (N' := 10) (n2 := 97) (c2 := 97) (s2 := 2092) hx hb (hts (.arrayClass .int) (by decide +kernel)) (ty := .int) rfl hK hP hD hS hA rfl rfl (fun C h => by cases h) (by decide) (by decide) (by show 10 * 4 ≤ 536870912; omega) rfl rfl rfl (Nat.le_of_ble_eq_true rfl) (Nat.le_of_ble_eq_true rfl) dX9_init_140 (fun qsp H hP hD hS => ?_)
  refine va_putF (D := D) (ci := 9) (v := .ref qsp) (ty := (tyX9 10)) (C := RX9) (T := TX9) (N := 14) hx hb hts (by decide +kernel) tyX9 tyX9_ok nmX9 hown hK hP hD hS 0 rfl rfl 10 (by decide) (hts (.fieldLink RX9 75 "GhostSigns" "split" "[I") (by decide +kernel)) (fun _ h9 => h9) rfl hin rfl (by decide +kernel) rfl rfl (Nat.le_of_ble_eq_true rfl) dX9_init_142 (fun H locs hP hD hS => ?_)
  rw [List.set_cons_zero] at hP hD
  replace hP := pcons (e := .inr (9, [.ref (q5 0), .ref (q8 0), .ref ql, .ref (q6 0), .ref (q1 0), .ref (q0 0), .ref (q7 0), .ref (q4 0), .ref (q4b 0), .ref (q3 0), .ref qsp, .null, .int 0, .int 0])) rfl hP
  replace hD := dcons (e := .inr (9, [.ref (q5 0), .ref (q8 0), .ref ql, .ref (q6 0), .ref (q1 0), .ref (q0 0), .ref (q7 0), .ref (q4 0), .ref (q4b 0), .ref (q3 0), .ref qsp, .null, .int 0, .int 0])) rfl hD
  refine lv_aload_n hx hb dX9_init_145 rfl (lv_at hl 1 rfl) ?_
  refine lv_bipush (v := 6) hx hb dX9_init_146 (by decide) ?_
  refine u_newa2 0 (atype := .int) (k := 6) (N' := 6) (n2 := 98) (c2 := 98) (s2 := 2098) hx hb (hts (.arrayClass .int) (by decide +kernel)) (ty := .int) rfl hK hP hD hS hA rfl rfl (fun C h => by cases h) (by decide) (by decide) (by show 6 * 4 ≤ 536870912; omega) rfl rfl rfl (Nat.le_of_ble_eq_true rfl) (Nat.le_of_ble_eq_true rfl) dX9_init_148 (fun qtf H hP hD hS => ?_)
  refine va_putF (D := D) (ci := 9) (v := .ref qtf) (ty := (tyX9 11)) (C := RX9) (T := TX9) (N := 14) hx hb hts (by decide +kernel) tyX9 tyX9_ok nmX9 hown hK hP hD hS 0 rfl rfl 11 (by decide) (hts (.fieldLink RX9 79 "GhostSigns" "timesFound" "[I") (by decide +kernel)) (fun _ h9 => h9) rfl hin rfl (by decide +kernel) rfl rfl (Nat.le_of_ble_eq_true rfl) dX9_init_150 (fun H locs hP hD hS => ?_)
  rw [List.set_cons_zero] at hP hD
  replace hP := pcons (e := .inr (9, [.ref (q5 0), .ref (q8 0), .ref ql, .ref (q6 0), .ref (q1 0), .ref (q0 0), .ref (q7 0), .ref (q4 0), .ref (q4b 0), .ref (q3 0), .ref qsp, .ref qtf, .int 0, .int 0])) rfl hP
  replace hD := dcons (e := .inr (9, [.ref (q5 0), .ref (q8 0), .ref ql, .ref (q6 0), .ref (q1 0), .ref (q0 0), .ref (q7 0), .ref (q4 0), .ref (q4b 0), .ref (q3 0), .ref qsp, .ref qtf, .int 0, .int 0])) rfl hD
  obtain ⟨hP9, hD9⟩ := xw_list cs h0 ql qsp qtf q5 q8 qL0 qL1 qL2 qL3 q6 q1 q0 q7 q4 q4b q3 hP hD
  have h0e : adX h0 ql qsp qtf q5 q8 qL0 qL1 qL2 qL3 q6 q1 q0 q7 q4 q4b q3 0 = h0 := rfl
  generalize adX h0 ql qsp qtf q5 q8 qL0 qL1 qL2 qL3 q6 q1 q0 q7 q4 q4b q3 = ad at hP9 hD9 h0e
  have hJ9 := uw_J hD9
  have hn9 : ∀ k, 1 ≤ k → k < 99 → s.heap.size ≤ ad k := fun k h1 h2 => hAn _ (hJ9.2 k h2) (fun h => by have := hJ9.1 k 0 h2 (by omega) (h.trans h0e.symm); omega)
  subst hAe
  exact W.vret hx hb hr (fun t ht hW => ⟨⟨ad, rfl, ⟨h0e, hJ9.1, hn9⟩, by show va_P D vwCl (uw 99 ad (enX ad cs) sX0) t.heap; rw [ht]; exact hP9⟩, hS.F ht⟩) hS.2.2 dX9_init_153
