/-! ===== the law: two worlds side by side ===== -/
def uL (D : va_G) (ad adM : Nat → Nat) (cs : Nat → ClassId) (s : State) (x y : St) (H : Heap) (locs : List Loc) : Prop := va_P D vwCl (uw 99 ad (enX ad cs) x) H ∧ va_P D vwCl (uw 34 adM (enM adM cs) y) H ∧ va_S (fun q : Nat => s.heap.size ≤ q) s.heap H locs
def lC (p : Program) (s : State) (m : MethodId) (c : Code) (D : va_G) (ad adM : Nat → Nat) (cs : Nat → ClassId) (b L : Nat) (xs : Nat → Int32) : Prop :=
  uC p room_1 s m #[.ref b] c cL_law 4 wsL_law RL D vwCl (tyX cs) 99 ad (fun q : Nat => s.heap.size ≤ q) 133 3502 ∧ uC p room_1 s m #[.ref b] c cL_law 4 wsL_law RL D vwCl (tyM cs) 34 adM (fun q : Nat => s.heap.size ≤ q) 133 3502 ∧ (∀ i j, i < 99 → j < 34 → ad i ≠ adM j) ∧ va_X b L xs s s.heap ∧ b < s.heap.size ∧ L ≤ 3072
theorem lw_in {i L j : Nat} {v : Int32} (hv : v = nI j) (h : i + j < L) (hL : L ≤ 3072) : vp_in (nI i + v) L := by
  rw [hv, nI_add]
  exact vp_in_nI h (by omega)
theorem uP_frame {D : va_G} {n n2 : Nat} {ad ad2 : Nat → Nat} {en2 : Nat → (Nat → Int32) → va_E} {σ : St} {H H1 : Heap} (hd : ∀ i j, i < n → j < n2 → ad i ≠ ad2 j) (hP : va_P D vwCl (uw n2 ad2 en2 σ) H) (hk : ∀ q : Nat, q < H.size → ¬ uAd n ad H.size q → H1[q]? = H[q]?) : va_P D vwCl (uw n2 ad2 en2 σ) H1 := fun k x h => by
  obtain ⟨h1, h2⟩ := uw_of h
  refine (hP k x h).kept (hk _ (hP k x h).lt (fun g => ?_))
  rcases g with ⟨i, hi, g⟩ | g
  · subst h2
    exact hd i k hi h1 g.symm
  · exact absurd (hP k x h).lt (Nat.not_lt.mpr g)
theorem law_Xi {p : Program} {l : Launch} {e : Env} {s : State} {m : MethodId} {below : List Frame} {meth : Method} {c : Code} {D : va_G} {ad adM : Nat → Nat} {cs : Nat → ClassId} {b L : Nat} {xs : Nat → Int32} {H : Heap} {locs : List Loc} {Q : State → Prop} {ls : Array Slot} {pc : Nat} {st rest As : List Value} {lv : List (Nat × Value)} {y0 : MethodName} {wy : List Cond} {rm : Room} {bytes : ByteArray} {maxL na index : Nat} {ret : Option FieldType} {x y x' : St} {r : Int32} (C : lC p s m c D ad adM cs b L xs) (G : uL D ad adM cs s x y H locs) (hM : uMi l y0 wy rm D vwCl (tyX cs) 99 ad (enX ad cs) (.ref (ad 0) :: As) x r x') (cw : CallW room_1 s #[.ref b] RL RX9 index y0 bytes maxL ret wy rm 0 0 na) (hn : As.length = na) (hl : lv_has ls 4 lv) (hst : st = As.reverse ++ .ref (ad 0) :: rest) (hW : (rest.map fun v => v.category).sum ≤ 8) (hdg : decode cL_law pc = .ok (.invokevirtual index, 3))
    (kk : ∀ (H : Heap) (locs : List Loc), uL D ad adM cs s x' y H locs → W p l e room_1 s m #[.ref b] below meth c H locs 133 3502 Q (F0 m (pc + 3) ls (.int r :: rest))) : W p l e room_1 s m #[.ref b] below meth c H locs 133 3502 Q (F0 m pc ls st) := by
  subst hst
  have GX : uG D vwCl 99 ad (enX ad cs) (fun q : Nat => s.heap.size ≤ q) s x H locs := ⟨G.1, G.2.2⟩
  refine va_calli (va_runV (As := As) (rest := rest) C.1.1 (hM H.size) cw (u_preV C.1 GX obX_0 (ci := 9) (T := TX9) rfl) rfl hn hl.1 rfl (lv_room hW) hdg ⟨C.1.2.2.2.2.2.1, C.1.2.2.2.2.2.2⟩) G.2.2 (fun q _ h => u_free C.1 GX q h) (u_free C.1 GX) (fun r1 u t H1 locs1 ht hvm hw hB hz hk hS => ?_)
  rw [ht] at hB
  rw [hw]
  exact kk H1 locs1 ⟨hB, uP_frame C.2.2.1 G.2.1 hk, hS⟩
theorem law_Xl {p : Program} {l : Launch} {e : Env} {s : State} {m : MethodId} {below : List Frame} {meth : Method} {c : Code} {D : va_G} {ad adM : Nat → Nat} {cs : Nat → ClassId} {b L : Nat} {xs : Nat → Int32} {H : Heap} {locs : List Loc} {Q : State → Prop} {ls : Array Slot} {pc : Nat} {st rest As : List Value} {lv : List (Nat × Value)} {y0 : MethodName} {wy : List Cond} {rm : Room} {bytes : ByteArray} {maxL na index : Nat} {ret : Option FieldType} {x y x' : St} {r : Int64} (C : lC p s m c D ad adM cs b L xs) (G : uL D ad adM cs s x y H locs) (hM : uMl l y0 wy rm D vwCl (tyX cs) 99 ad (enX ad cs) (.ref (ad 0) :: As) x r x') (cw : CallW room_1 s #[.ref b] RL RX9 index y0 bytes maxL ret wy rm 0 0 na) (hn : As.length = na) (hl : lv_has ls 4 lv) (hst : st = As.reverse ++ .ref (ad 0) :: rest) (hW : (rest.map fun v => v.category).sum ≤ 8) (hdg : decode cL_law pc = .ok (.invokevirtual index, 3))
    (kk : ∀ (H : Heap) (locs : List Loc), uL D ad adM cs s x' y H locs → W p l e room_1 s m #[.ref b] below meth c H locs 133 3502 Q (F0 m (pc + 3) ls (.long r :: rest))) : W p l e room_1 s m #[.ref b] below meth c H locs 133 3502 Q (F0 m pc ls st) := by
  subst hst
  have GX : uG D vwCl 99 ad (enX ad cs) (fun q : Nat => s.heap.size ≤ q) s x H locs := ⟨G.1, G.2.2⟩
  refine va_calll (va_runV (As := As) (rest := rest) C.1.1 (hM H.size) cw (u_preV C.1 GX obX_0 (ci := 9) (T := TX9) rfl) rfl hn hl.1 rfl (lv_room hW) hdg ⟨C.1.2.2.2.2.2.1, C.1.2.2.2.2.2.2⟩) G.2.2 (fun q _ h => u_free C.1 GX q h) (u_free C.1 GX) (fun r1 u t H1 locs1 ht hvm hw hB hz hk hS => ?_)
  rw [ht] at hB
  rw [hw]
  exact kk H1 locs1 ⟨hB, uP_frame C.2.2.1 G.2.1 hk, hS⟩
theorem law_Mi {p : Program} {l : Launch} {e : Env} {s : State} {m : MethodId} {below : List Frame} {meth : Method} {c : Code} {D : va_G} {ad adM : Nat → Nat} {cs : Nat → ClassId} {b L : Nat} {xs : Nat → Int32} {H : Heap} {locs : List Loc} {Q : State → Prop} {ls : Array Slot} {pc : Nat} {st rest As : List Value} {lv : List (Nat × Value)} {y0 : MethodName} {wy : List Cond} {rm : Room} {bytes : ByteArray} {maxL na index : Nat} {ret : Option FieldType} {x y y' : St} {r : Int32} (C : lC p s m c D ad adM cs b L xs) (G : uL D ad adM cs s x y H locs) (hM : uMi l y0 wy rm D vwCl (tyM cs) 34 adM (enM adM cs) (.ref (adM 0) :: As) y r y') (cw : CallW room_1 s #[.ref b] RL RX10 index y0 bytes maxL ret wy rm 0 0 na) (hn : As.length = na) (hl : lv_has ls 4 lv) (hst : st = As.reverse ++ .ref (adM 0) :: rest) (hW : (rest.map fun v => v.category).sum ≤ 8) (hdg : decode cL_law pc = .ok (.invokevirtual index, 3))
    (kk : ∀ (H : Heap) (locs : List Loc), uL D ad adM cs s x y' H locs → W p l e room_1 s m #[.ref b] below meth c H locs 133 3502 Q (F0 m (pc + 3) ls (.int r :: rest))) : W p l e room_1 s m #[.ref b] below meth c H locs 133 3502 Q (F0 m pc ls st) := by
  subst hst
  have GX : uG D vwCl 34 adM (enM adM cs) (fun q : Nat => s.heap.size ≤ q) s y H locs := ⟨G.2.1, G.2.2⟩
  refine va_calli (va_runV (As := As) (rest := rest) C.2.1.1 (hM H.size) cw (u_preV C.2.1 GX obM_0 (ci := 10) (T := TX10) rfl) rfl hn hl.1 rfl (lv_room hW) hdg ⟨C.2.1.2.2.2.2.2.1, C.2.1.2.2.2.2.2.2⟩) G.2.2 (fun q _ h => u_free C.2.1 GX q h) (u_free C.2.1 GX) (fun r1 u t H1 locs1 ht hvm hw hB hz hk hS => ?_)
  rw [ht] at hB
  rw [hw]
  exact kk H1 locs1 ⟨uP_frame (fun i j hi hj h => C.2.2.1 j i hj hi h.symm) G.1 hk, hB, hS⟩
theorem law_Ml {p : Program} {l : Launch} {e : Env} {s : State} {m : MethodId} {below : List Frame} {meth : Method} {c : Code} {D : va_G} {ad adM : Nat → Nat} {cs : Nat → ClassId} {b L : Nat} {xs : Nat → Int32} {H : Heap} {locs : List Loc} {Q : State → Prop} {ls : Array Slot} {pc : Nat} {st rest As : List Value} {lv : List (Nat × Value)} {y0 : MethodName} {wy : List Cond} {rm : Room} {bytes : ByteArray} {maxL na index : Nat} {ret : Option FieldType} {x y y' : St} {r : Int64} (C : lC p s m c D ad adM cs b L xs) (G : uL D ad adM cs s x y H locs) (hM : uMl l y0 wy rm D vwCl (tyM cs) 34 adM (enM adM cs) (.ref (adM 0) :: As) y r y') (cw : CallW room_1 s #[.ref b] RL RX10 index y0 bytes maxL ret wy rm 0 0 na) (hn : As.length = na) (hl : lv_has ls 4 lv) (hst : st = As.reverse ++ .ref (adM 0) :: rest) (hW : (rest.map fun v => v.category).sum ≤ 8) (hdg : decode cL_law pc = .ok (.invokevirtual index, 3))
    (kk : ∀ (H : Heap) (locs : List Loc), uL D ad adM cs s x y' H locs → W p l e room_1 s m #[.ref b] below meth c H locs 133 3502 Q (F0 m (pc + 3) ls (.long r :: rest))) : W p l e room_1 s m #[.ref b] below meth c H locs 133 3502 Q (F0 m pc ls st) := by
  subst hst
  have GX : uG D vwCl 34 adM (enM adM cs) (fun q : Nat => s.heap.size ≤ q) s y H locs := ⟨G.2.1, G.2.2⟩
  refine va_calll (va_runV (As := As) (rest := rest) C.2.1.1 (hM H.size) cw (u_preV C.2.1 GX obM_0 (ci := 10) (T := TX10) rfl) rfl hn hl.1 rfl (lv_room hW) hdg ⟨C.2.1.2.2.2.2.2.1, C.2.1.2.2.2.2.2.2⟩) G.2.2 (fun q _ h => u_free C.2.1 GX q h) (u_free C.2.1 GX) (fun r1 u t H1 locs1 ht hvm hw hB hz hk hS => ?_)
  rw [ht] at hB
  rw [hw]
  exact kk H1 locs1 ⟨uP_frame (fun i j hi hj h => C.2.2.1 j i hj hi h.symm) G.1 hk, hB, hS⟩
