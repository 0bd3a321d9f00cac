/-! ===== THE UNIFORM WORLD: cells 0 .. n-1 at addresses ad k; cell k's numbers are σ k; no method makes a cell ===== -/
abbrev St : Type := Nat → Nat → Int32
/-- slot j of cell k is v -/
def us (σ : St) (k j : Nat) (v : Int32) : St := fun q => if q = k then upd (σ k) j v else σ q
/-- cell k holds f -/
def uf (σ : St) (k : Nat) (f : Nat → Int32) : St := fun q => if q = k then f else σ q
def uw (n : Nat) (ad : Nat → Nat) (en : Nat → (Nat → Int32) → va_E) (σ : St) : va_W := (List.range n).map (fun k => (ad k, en k (σ k)))
theorem uw_get {n k : Nat} {ad : Nat → Nat} {en : Nat → (Nat → Int32) → va_E} {σ : St} (hk : k < n) : (uw n ad en σ)[k]? = some (ad k, en k (σ k)) := by
  simp [uw, hk]
theorem uw_of {n k : Nat} {ad : Nat → Nat} {en : Nat → (Nat → Int32) → va_E} {σ : St} {q : Nat × va_E} (h : (uw n ad en σ)[k]? = some q) : k < n ∧ q = (ad k, en k (σ k)) := by
  have hl : k < (uw n ad en σ).length := (List.getElem?_eq_some_iff.mp h).1
  have hk : k < n := by simpa [uw] using hl
  rw [uw_get hk] at h
  exact ⟨hk, (Option.some.inj h).symm⟩
theorem uw_set {n k : Nat} {ad : Nat → Nat} {en : Nat → (Nat → Int32) → va_E} {σ : St} {f : Nat → Int32} : (uw n ad en σ).set k (ad k, en k f) = uw n ad en (uf σ k f) := by
  apply List.ext_getElem?
  intro i
  rw [List.getElem?_set]
  by_cases hi : i < n
  · rw [uw_get hi, uw_get hi]
    by_cases e : k = i
    · subst e
      simp [uf, uw, hi]
    · have e' : ¬ i = k := fun q => e q.symm
      simp [uf, e, e']
  · have h1 : (uw n ad en σ)[i]? = none := by simp [uw]; omega
    have h2 : (uw n ad en (uf σ k f))[i]? = none := by simp [uw]; omega
    rw [h1, h2]
    by_cases e : k = i
    · subst e
      simp [uw, hi]
    · simp [e]
def uJ (n : Nat) (ad : Nat → Nat) : Prop := ∀ i j : Nat, i < n → j < n → ad i = ad j → i = j
def uAd (n : Nat) (ad : Nat → Nat) (sz : Nat) : Nat → Prop := fun q => (∃ k, k < n ∧ q = ad k) ∨ sz ≤ q
theorem uw_D {n : Nat} {ad : Nat → Nat} {en : Nat → (Nat → Int32) → va_E} {σ : St} {A : Nat → Prop} (hJ : uJ n ad) (hA : ∀ k, k < n → A (ad k)) : va_D A (uw n ad en σ) := by
  refine ⟨fun i j p q h1 h2 h3 => ?_, fun k q h => ?_⟩
  · obtain ⟨a1, a2⟩ := uw_of h1
    obtain ⟨b1, b2⟩ := uw_of h2
    subst a2; subst b2
    exact hJ i j a1 b1 h3
  · obtain ⟨a1, a2⟩ := uw_of h
    subst a2
    exact hA k a1
/-- what a method's body knows all along -/
def uC (p : Program) (R : Room) (s : State) (m : MethodId) (args : Array Value) (c : Code) (cc : ByteArray) (nL : Nat) (Ts : List Cond) (own : String) (D : va_G) (cl : List vw_C) (tys : List (ClassId × FieldType)) (n : Nat) (ad : Nat → Nat) (A : Nat → Prop) (cells slots : Nat) : Prop :=
  CallFix p m c cc nL s args Ts own ∧ va_K D cl tys s ∧ uJ n ad ∧ (∀ k, k < n → A (ad k)) ∧ (∀ q, s.heap.size ≤ q → A q) ∧ cells ≤ R.cells ∧ slots ≤ R.slots
/-- the heap as it is now -/
def uG (D : va_G) (cl : List vw_C) (n : Nat) (ad : Nat → Nat) (en : Nat → (Nat → Int32) → va_E) (A : Nat → Prop) (s : State) (σ : St) (H : Heap) (locs : List Loc) : Prop := va_P D cl (uw n ad en σ) H ∧ va_S A s.heap H locs
/-- cell k is an array of N numbers -/
def uA (n : Nat) (en : Nat → (Nat → Int32) → va_E) (k : Nat) (cA : ClassId) (N : Nat) : Prop := k < n ∧ ∀ f, en k f = .inl (cA, N, .inl f)
/-- cell k is an array of N cells, the i-th at g i -/
def uR (n : Nat) (ad : Nat → Nat) (en : Nat → (Nat → Int32) → va_E) (k : Nat) (cA : ClassId) (N : Nat) (g : Nat → Nat) : Prop := k < n ∧ ∃ g0 : Nat → Option Nat, (∀ f, en k f = .inl (cA, N, .inr (.inr (.inr (.inr g0))))) ∧ ∀ i, i < N → g0 i = some (ad (g i))
/-- cell k is an object of kind ci with fields fs -/
def uO (n : Nat) (en : Nat → (Nat → Int32) → va_E) (k ci : Nat) (fs : (Nat → Int32) → List Value) : Prop := k < n ∧ ∀ f, en k f = .inr (ci, fs f)
-- the pure programs: guards, names, calls
def ui {α : Type} (i : Int32) (N : Nat) (k : Option α) : Option α := if i < 0 ∨ N ≤ i.toNatClampNeg then none else k
def ug {α : Type} (b : Bool) (k : Option α) : Option α := if b = true then k else none
def ul {α β : Type} (v : β) (k : β → Option α) : Option α := k v
def ub {α β : Type} (f : Option (β × St)) (k : β → St → Option α) : Option α := match f with
  | none => none
  | some q => k q.1 q.2
theorem ui_of {α : Type} {i : Int32} {N : Nat} {k : Option α} {x : α} (h : ui i N k = some x) : vp_in i N ∧ k = some x := by
  unfold ui at h
  by_cases c : i < 0 ∨ N ≤ i.toNatClampNeg
  · rw [if_pos c] at h; cases h
  · rw [if_neg c] at h; exact ⟨c, h⟩
theorem ug_of {α : Type} {b : Bool} {k : Option α} {x : α} (h : ug b k = some x) : b = true ∧ k = some x := by
  unfold ug at h
  by_cases c : b = true
  · rw [if_pos c] at h; exact ⟨c, h⟩
  · rw [if_neg c] at h; cases h
theorem ul_of {α β : Type} {v : β} {k : β → Option α} {x : α} (h : ul v k = some x) : ∃ y, y = v ∧ k y = some x := ⟨v, rfl, h⟩
theorem ub_of {α β : Type} {f : Option (β × St)} {k : β → St → Option α} {x : α} (h : ub f k = some x) : ∃ (r : β) (σ : St), f = some (r, σ) ∧ k r σ = some x := by
  cases f with
  | none => cases h
  | some q => exact ⟨q.1, q.2, rfl, h⟩
theorem u_pos {α : Type} {c : Prop} {_ : Decidable c} {a b : Option α} {x : α} (q : c) (h : (if c then a else b) = some x) : a = some x := by rw [if_pos q] at h; exact h
theorem u_neg {α : Type} {c : Prop} {_ : Decidable c} {a b : Option α} {x : α} (q : ¬ c) (h : (if c then a else b) = some x) : b = some x := by rw [if_neg q] at h; exact h
def ucp (f : Nat → Int32) (sp n : Nat) : Bool := (List.range n).all (fun i => fits .byte (.int (f (sp + i))))
theorem ucp_of {f : Nat → Int32} {sp n : Nat} (h : ucp f sp n = true) : ∀ i, i < n → fits .byte (.int (f (sp + i))) = true := fun i hi => by
  have := List.all_eq_true.mp h i (List.mem_range.mpr hi)
  exact this
def unz (v : Int32) : Bool := decide (narrow .boolean (.int v) = .int v ∧ fits .boolean (.int v) = true)
theorem unz_n {v : Int32} (h : unz v = true) : narrow .boolean (.int v) = .int v := (of_decide_eq_true h).1
theorem unz_f {v : Int32} (h : unz v = true) : fits .boolean (.int v) = true := (of_decide_eq_true h).2
section UB
variable {p : Program} {l : Launch} {e : Env} {R : Room} {s : State} {m : MethodId} {args : Array Value} {below : List Frame} {meth : Method} {c : Code} {H : Heap} {locs : List Loc} {cells slots : Nat} {Q : State → Prop}
variable {cc : ByteArray} {pc nL : Nat} {ls : Array Slot} {rest st : List Value} {D : va_G} {cl : List vw_C} {A : Nat → Prop} {tys : List (ClassId × FieldType)} {Ts : List Cond} {own : String} {n : Nat} {ad : Nat → Nat} {en : Nat → (Nat → Int32) → va_E} {σ σ' : St}
theorem u_nmi {x y : Int32} (h : y = x) (k : W p l e R s m args below meth c H locs cells slots Q (F0 m pc ls (.int y :: rest))) : W p l e R s m args below meth c H locs cells slots Q (F0 m pc ls (.int x :: rest)) := h ▸ k
theorem u_nml {x y : Int64} (h : y = x) (k : W p l e R s m args below meth c H locs cells slots Q (F0 m pc ls (.long y :: rest))) : W p l e R s m args below meth c H locs cells slots Q (F0 m pc ls (.long x :: rest)) := h ▸ k
theorem u_iald (C : uC p R s m args c cc nL Ts own D cl tys n ad A cells slots) (G : uG D cl n ad en A s σ H locs) {k N t0 : Nat} {cA : ClassId} (a : uA n en k cA N) (ht : tys[t0]? = some (cA, .int)) {i : Int32} (hin : vp_in i N) (hdg : decode cc pc = .ok (.iaload, 1))
    (kk : W p l e R s m args below meth c H locs cells slots Q (F0 m (pc + 1) ls (.int (σ k i.toNatClampNeg) :: rest))) : W p l e R s m args below meth c H locs cells slots Q (F0 m pc ls (.int i :: .ref (ad k) :: rest)) :=
  va_iald C.1.1 C.1.2.1 C.2.1 G.1 k t0 (f := σ k) (by rw [uw_get a.1, a.2]) ht hin hdg kk
theorem u_bald (C : uC p R s m args c cc nL Ts own D cl tys n ad A cells slots) (G : uG D cl n ad en A s σ H locs) {k N t0 : Nat} {cA : ClassId} (a : uA n en k cA N) (ht : tys[t0]? = some (cA, .byte)) {i : Int32} (hin : vp_in i N) (hdg : decode cc pc = .ok (.baload, 1))
    (kk : W p l e R s m args below meth c H locs cells slots Q (F0 m (pc + 1) ls (.int (σ k i.toNatClampNeg) :: rest))) : W p l e R s m args below meth c H locs cells slots Q (F0 m pc ls (.int i :: .ref (ad k) :: rest)) :=
  va_bald C.1.1 C.1.2.1 C.2.1 G.1 k t0 (f := σ k) (by rw [uw_get a.1, a.2]) ht hin hdg kk
theorem u_zald (C : uC p R s m args c cc nL Ts own D cl tys n ad A cells slots) (G : uG D cl n ad en A s σ H locs) {k N t0 : Nat} {cA : ClassId} (a : uA n en k cA N) (ht : tys[t0]? = some (cA, .boolean)) {i : Int32} (hin : vp_in i N) (hdg : decode cc pc = .ok (.baload, 1))
    (kk : W p l e R s m args below meth c H locs cells slots Q (F0 m (pc + 1) ls (.int (σ k i.toNatClampNeg) :: rest))) : W p l e R s m args below meth c H locs cells slots Q (F0 m pc ls (.int i :: .ref (ad k) :: rest)) :=
  va_zald C.1.1 C.1.2.1 C.2.1 G.1 k t0 (f := σ k) (by rw [uw_get a.1, a.2]) ht hin hdg kk
theorem uG_set (C : uC p R s m args c cc nL Ts own D cl tys n ad A cells slots) {k N : Nat} {cA : ClassId} (a : uA n en k cA N) {f : Nat → Int32} {H1 : Heap} {locs1 : List Loc} (hP : va_P D cl ((uw n ad en σ).set k (ad k, .inl (cA, N, .inl f))) H1) (hS : va_S A s.heap H1 locs1) : uG D cl n ad en A s (uf σ k f) H1 locs1 := by
  refine ⟨?_, hS⟩
  rw [← a.2, uw_set] at hP
  exact hP
theorem u_iast (C : uC p R s m args c cc nL Ts own D cl tys n ad A cells slots) (G : uG D cl n ad en A s σ H locs) {k N t0 : Nat} {cA : ClassId} (a : uA n en k cA N) (ht : tys[t0]? = some (cA, .int)) {i x : Int32} (hin : vp_in i N) (hdg : decode cc pc = .ok (.iastore, 1))
    (kk : ∀ (H : Heap) (locs : List Loc), uG D cl n ad en A s (us σ k i.toNatClampNeg x) H locs → W p l e R s m args below meth c H locs cells slots Q (F0 m (pc + 1) ls rest)) : W p l e R s m args below meth c H locs cells slots Q (F0 m pc ls (.int x :: .int i :: .ref (ad k) :: rest)) :=
  va_iast C.1.1 C.1.2.1 C.2.1 G.1 (uw_D C.2.2.1 C.2.2.2.1) G.2 k t0 (f := σ k) (by rw [uw_get a.1, a.2]) ht hin hdg (fun H1 l1 hP _ hS => kk H1 l1 (uG_set C a hP hS))
theorem u_bast (C : uC p R s m args c cc nL Ts own D cl tys n ad A cells slots) (G : uG D cl n ad en A s σ H locs) {k N t0 : Nat} {cA : ClassId} (a : uA n en k cA N) (ht : tys[t0]? = some (cA, .byte)) {i x : Int32} (hin : vp_in i N) (hdg : decode cc pc = .ok (.bastore, 1))
    (kk : ∀ (H : Heap) (locs : List Loc), uG D cl n ad en A s (us σ k i.toNatClampNeg (vp_nar .byte x)) H locs → W p l e R s m args below meth c H locs cells slots Q (F0 m (pc + 1) ls rest)) : W p l e R s m args below meth c H locs cells slots Q (F0 m pc ls (.int x :: .int i :: .ref (ad k) :: rest)) :=
  va_bast C.1.1 C.1.2.1 C.2.1 G.1 (uw_D C.2.2.1 C.2.2.2.1) G.2 k t0 (f := σ k) (by rw [uw_get a.1, a.2]) ht hin hdg (fun H1 l1 hP _ hS => kk H1 l1 (uG_set C a hP hS))
theorem u_zast (C : uC p R s m args c cc nL Ts own D cl tys n ad A cells slots) (G : uG D cl n ad en A s σ H locs) {k N t0 : Nat} {cA : ClassId} (a : uA n en k cA N) (ht : tys[t0]? = some (cA, .boolean)) {i x : Int32} (hin : vp_in i N) (hdg : decode cc pc = .ok (.bastore, 1))
    (kk : ∀ (H : Heap) (locs : List Loc), uG D cl n ad en A s (us σ k i.toNatClampNeg (vp_nar .boolean x)) H locs → W p l e R s m args below meth c H locs cells slots Q (F0 m (pc + 1) ls rest)) : W p l e R s m args below meth c H locs cells slots Q (F0 m pc ls (.int x :: .int i :: .ref (ad k) :: rest)) :=
  va_zast C.1.1 C.1.2.1 C.2.1 G.1 (uw_D C.2.2.1 C.2.2.2.1) G.2 k t0 (f := σ k) (by rw [uw_get a.1, a.2]) ht hin hdg (fun H1 l1 hP _ hS => kk H1 l1 (uG_set C a hP hS))
theorem u_aald (C : uC p R s m args c cc nL Ts own D cl tys n ad A cells slots) (G : uG D cl n ad en A s σ H locs) {k N t0 : Nat} {cA : ClassId} {g : Nat → Nat} (a : uR n ad en k cA N g) {ty : FieldType} (ht : tys[t0]? = some (cA, ty)) (hty : ty.isReference = true) {i : Int32} (hin : vp_in i N) (hdg : decode cc pc = .ok (.aaload, 1))
    (kk : i.toNatClampNeg < N → W p l e R s m args below meth c H locs cells slots Q (F0 m (pc + 1) ls (.ref (ad (g i.toNatClampNeg)) :: rest))) : W p l e R s m args below meth c H locs cells slots Q (F0 m pc ls (.int i :: .ref (ad k) :: rest)) := by
  have hlt : i.toNatClampNeg < N := Nat.not_le.mp fun q => hin (Or.inr q)
  obtain ⟨hk, g0, h1, h2⟩ := a
  have ha : (uw n ad en σ)[k]? = some (ad k, .inl (cA, N, .inr (.inr (.inr (.inr g0))))) := by rw [uw_get hk, h1]
  refine W.aald (v := .ref (ad (g i.toNatClampNeg))) (ty := ty) C.1.1 C.1.2.1 (G.1 k _ ha) ((C.2.1.2 t0 _ ht).1 N (fun j => va_rf (g0 j))) hty (fun q => by cases q) (by show ¬ (i < 0 ∨ (arrV _ _ _).slots.size ≤ _); rw [arrV_size]; exact hin) ?_ rfl rfl hdg (kk hlt)
  show (arrV _ _ _).slots[_]? = _
  rw [arrV_read _ _ hlt, h2 _ hlt]
  rfl
theorem u_alen (C : uC p R s m args c cc nL Ts own D cl tys n ad A cells slots) (G : uG D cl n ad en A s σ H locs) {k N t0 : Nat} {cA : ClassId} (a : uA n en k cA N) {ty : FieldType} (ht : tys[t0]? = some (cA, ty)) (hdg : decode cc pc = .ok (.arraylength, 1))
    (kk : W p l e R s m args below meth c H locs cells slots Q (F0 m (pc + 1) ls (.int (Int32.ofNat N) :: rest))) : W p l e R s m args below meth c H locs cells slots Q (F0 m pc ls (.ref (ad k) :: rest)) :=
  va_alen C.1.1 C.1.2.1 C.2.1 G.1 k t0 (x := (N, .inl (σ k))) (by rw [uw_get a.1, a.2]) ht rfl hdg kk
theorem u_get (C : uC p R s m args c cc nL Ts own D cl tys n ad A cells slots) (G : uG D cl n ad en A s σ H locs) {k ci N index : Nat} {fs : (Nat → Int32) → List Value} {Cn : String} {T : u_T} (o : uO n en k ci fs) (hc : cl[ci]? = some (Cn, T, N)) (hin : ∀ w ∈ u_ws Cn T N, w ∈ Ts) (j : Nat) (hj : j < N) (hlink : Cond.fieldLink own index (T j).1 (T j).2.1 (T j).2.2.1 ∈ Ts) {v : Value} (hv : (fs (σ k))[j]? = some v) (hdg : decode cc pc = .ok (.getfield index, 3))
    (kk : W p l e R s m args below meth c H locs cells slots Q (F0 m (pc + 3) ls (v :: rest))) : W p l e R s m args below meth c H locs cells slots Q (F0 m pc ls (.ref (ad k) :: rest)) :=
  va_get (D := D) C.1.1 C.1.2.1 C.1.2.2.2.2 hin C.1.2.2.2.1 C.2.1 G.1 k (by rw [uw_get o.1, o.2]) hc j hj (C.1.2.2.2.2 _ hlink) (fun _ h => h) hv hdg kk
theorem u_put (C : uC p R s m args c cc nL Ts own D cl tys n ad A cells slots) (G : uG D cl n ad en A s σ H locs) {k ci N index : Nat} {fs : (Nat → Int32) → List Value} {Cn : String} {T : u_T} (o : uO n en k ci fs) (hc : cl[ci]? = some (Cn, T, N)) (hin : ∀ w ∈ u_ws Cn T N, w ∈ Ts) (ty0 : Nat → FieldType) (hty : ∀ k, k < N → parseFieldDescriptor (T k).2.2.1 = some (ty0 k)) (hnm : ∀ a, a < N → ∀ b, b < N → a ≠ b → (T a).2.1 ≠ (T b).2.1) (j : Nat) (hj : j < N) (hlink : Cond.fieldLink own index (T j).1 (T j).2.1 (T j).2.2.1 ∈ Ts) (hfin : (T j).2.2.2 = false) {ty : FieldType} {x : Int32} (hd : parseFieldDescriptor (T j).2.2.1 = some ty) (hn : narrow ty (.int x) = .int x) (hfit : fits ty (.int x) = true) (hl : ∀ f, j < (fs f).length) (hset : ∀ f, (fs f).set j (.int x) = fs (upd f j x)) (hdg : decode cc pc = .ok (.putfield index, 3))
    (kk : ∀ (H : Heap) (locs : List Loc), uG D cl n ad en A s (us σ k j x) H locs → W p l e R s m args below meth c H locs cells slots Q (F0 m (pc + 3) ls rest)) : W p l e R s m args below meth c H locs cells slots Q (F0 m pc ls (.int x :: .ref (ad k) :: rest)) := by
  refine va_put (D := D) (fs := fs (σ k)) C.1.1 C.1.2.1 C.1.2.2.2.2 hin ty0 hty hnm C.1.2.2.2.1 C.2.1 G.1 (uw_D C.2.2.1 C.2.2.2.1) G.2 k (by rw [uw_get o.1, o.2]) hc j hj (C.1.2.2.2.2 _ hlink) (fun _ h => h) hfin hd hn hfit (hl _) hdg (fun H1 l1 hP _ hS => kk H1 l1 ⟨?_, hS⟩)
  rw [hset, ← o.2, uw_set] at hP
  exact hP
theorem u_copyb (C : uC p R s m args c cc nL Ts own D cl tys n ad A cells slots) (G : uG D cl n ad en A s σ H locs) (hml : c.maxLocals = ls.size) {index k0 k1 N0 N1 t0 : Nat} {cA : ClassId} (a0 : uA n en k0 cA N0) (a1 : uA n en k1 cA N1) (ht : tys[t0]? = some (cA, .byte))
    (hlink : Cond.methodLink own index arraycopyName ∈ Ts) (hnat : Cond.native arraycopyName ∈ Ts) (hstat : Cond.static arraycopyName ∈ Ts) (hini : Cond.initialized "java/lang/System" ∈ Ts)
    {sp dp k : Int32} (h : (decide (¬ sp < 0 ∧ ¬ dp < 0 ∧ ¬ k < 0 ∧ sp.toNatClampNeg + k.toNatClampNeg ≤ N0 ∧ dp.toNatClampNeg + k.toNatClampNeg ≤ N1) && ucp (σ k0) sp.toNatClampNeg k.toNatClampNeg) = true)
    (hframes : 1 ≤ R.frames) (hlocals : (rest.map fun v => v.category).sum + (nativeFrameWords "java/lang/System" "arraycopy" 5 + 11) ≤ R.locals) (hdg : decode cc pc = .ok (.invokestatic index, 3))
    (kk : ∀ (H : Heap) (locs : List Loc), uG D cl n ad en A s (uf σ k1 (va_cpy (σ k0) (σ k1) sp.toNatClampNeg dp.toNatClampNeg k.toNatClampNeg)) H locs → W p l e R s m args below meth c H locs cells slots Q (F0 m (pc + 3) ls rest)) : W p l e R s m args below meth c H locs cells slots Q (F0 m pc ls (.int k :: .int dp :: .ref (ad k1) :: .int sp :: .ref (ad k0) :: rest)) := by
  rw [Bool.and_eq_true] at h
  obtain ⟨g1, g2, g3, g4, g5⟩ := of_decide_eq_true h.1
  exact va_copyi C.1.1 C.1.2.1 hml C.1.2.2.2.1 (C.1.2.2.2.2 _ hlink) (C.1.2.2.2.2 _ hnat) (C.1.2.2.2.2 _ hstat) (C.1.2.2.2.2 _ hini) C.2.1 G.1 (uw_D C.2.2.1 C.2.2.2.1) G.2 k0 k1 t0 t0 (f := σ k0) (g := σ k1) (ty := .byte) (by rw [uw_get a0.1, a0.2]) (by rw [uw_get a1.1, a1.2]) ht ht rfl g1 g2 g3 g4 g5 (ucp_of h.2) hframes hlocals hdg (fun H1 l1 hP _ hS => kk H1 l1 (uG_set C a1 hP hS))
end UB
/-! ===== contracts over the uniform world ===== -/
def uPre (D : va_G) (cl : List vw_C) (tys : List (ClassId × FieldType)) (n : Nat) (ad : Nat → Nat) (en : Nat → (Nat → Int32) → va_E) (As : List Value) (σ : St) (sz : Nat) : Array Value → State → Prop := va_Pc As (fun U => U.heap.size = sz ∧ va_P D cl (uw n ad en σ) U.heap ∧ va_K D cl tys U)
def uQi (D : va_G) (cl : List vw_C) (n : Nat) (ad : Nat → Nat) (en : Nat → (Nat → Int32) → va_E) (r : Int32) (σ' : St) (sz : Nat) : Array Value → State → Outcome → State → Prop := va_Qi (fun (x : Int32) (_ : Unit) => x = r) (fun _ t => va_P D cl (uw n ad en σ') t.heap) (uAd n ad sz)
def uQl (D : va_G) (cl : List vw_C) (n : Nat) (ad : Nat → Nat) (en : Nat → (Nat → Int32) → va_E) (r : Int64) (σ' : St) (sz : Nat) : Array Value → State → Outcome → State → Prop := va_Ql (fun (x : Int64) (_ : Unit) => x = r) (fun _ t => va_P D cl (uw n ad en σ') t.heap) (uAd n ad sz)
def uQv (D : va_G) (cl : List vw_C) (n : Nat) (ad : Nat → Nat) (en : Nat → (Nat → Int32) → va_E) (σ' : St) (sz : Nat) : Array Value → State → Outcome → State → Prop := va_Qv (fun (_ : Unit) => True) (fun _ t => va_P D cl (uw n ad en σ') t.heap) (uAd n ad sz)
def uMi (l : Launch) (y : MethodName) (ws : List Cond) (rm : Room) (D : va_G) (cl : List vw_C) (tys : List (ClassId × FieldType)) (n : Nat) (ad : Nat → Nat) (en : Nat → (Nat → Int32) → va_E) (As : List Value) (σ : St) (r : Int32) (σ' : St) : Prop :=
  ∀ sz : Nat, Met l y ws rm (uPre D cl tys n ad en As σ sz) (uQi D cl n ad en r σ' sz) 0 0 (uAd n ad sz)
def uMl (l : Launch) (y : MethodName) (ws : List Cond) (rm : Room) (D : va_G) (cl : List vw_C) (tys : List (ClassId × FieldType)) (n : Nat) (ad : Nat → Nat) (en : Nat → (Nat → Int32) → va_E) (As : List Value) (σ : St) (r : Int64) (σ' : St) : Prop :=
  ∀ sz : Nat, Met l y ws rm (uPre D cl tys n ad en As σ sz) (uQl D cl n ad en r σ' sz) 0 0 (uAd n ad sz)
def uMv (l : Launch) (y : MethodName) (ws : List Cond) (rm : Room) (D : va_G) (cl : List vw_C) (tys : List (ClassId × FieldType)) (n : Nat) (ad : Nat → Nat) (en : Nat → (Nat → Int32) → va_E) (As : List Value) (σ : St) (σ' : St) : Prop :=
  ∀ sz : Nat, Met l y ws rm (uPre D cl tys n ad en As σ sz) (uQv D cl n ad en σ' sz) 0 0 (uAd n ad sz)
theorem uPre_blind {D : va_G} {cl : List vw_C} {tys : List (ClassId × FieldType)} {n : Nat} {ad : Nat → Nat} {en : Nat → (Nat → Int32) → va_E} {As : List Value} {σ : St} {sz : Nat} : FrameBlind (uPre D cl tys n ad en As σ sz) := by
  intro a U g mk q
  obtain ⟨q0, q1, q2, q3⟩ := q
  exact ⟨q0, q1, q2, va_K.moved (u := U) (U := U.calling g mk a) (Vm.Alike.refl U.vm) q3⟩
section UC
variable {p : Program} {l : Launch} {e : Env} {R : Room} {s : State} {m : MethodId} {args : Array Value} {below : List Frame} {meth : Method} {c : Code} {H : Heap} {locs : List Loc} {cells slots : Nat} {Q : State → Prop}
variable {cc : ByteArray} {pc nL : Nat} {ls : Array Slot} {rest st : List Value} {D : va_G} {cl : List vw_C} {A : Nat → Prop} {tys : List (ClassId × FieldType)} {Ts : List Cond} {own : String} {n : Nat} {ad : Nat → Nat} {en : Nat → (Nat → Int32) → va_E} {σ σ' : St}
variable {y : MethodName} {bytes : ByteArray} {maxL na index : Nat} {ret : Option FieldType} {ws : List Cond} {rm : Room} {As : List Value} {lv : List (Nat × Value)}
theorem u_preV (C : uC p R s m args c cc nL Ts own D cl tys n ad A cells slots) (G : uG D cl n ad en A s σ H locs) {k ci N : Nat} {fs : (Nat → Int32) → List Value} {Cn : String} {T : u_T} (o : uO n en k ci fs) (hc : cl[ci]? = some (Cn, T, N)) : PreV s H Cn (ad k) (uPre D cl tys n ad en (.ref (ad k) :: As) σ H.size) As :=
  ⟨uPre_blind, va_recv C.2.1 G.1 hc (by rw [uw_get o.1, o.2]), fun U hU hW => ⟨rfl, by rw [hU], by rw [hU]; exact G.1, va_K.moved hW.alike C.2.1⟩⟩
theorem u_preS (C : uC p R s m args c cc nL Ts own D cl tys n ad A cells slots) (G : uG D cl n ad en A s σ H locs) : PreS s H (uPre D cl tys n ad en As σ H.size) As :=
  ⟨uPre_blind, fun U hU hW => ⟨rfl, by rw [hU], by rw [hU]; exact G.1, va_K.moved hW.alike C.2.1⟩⟩
theorem u_free (C : uC p R s m args c cc nL Ts own D cl tys n ad A cells slots) (G : uG D cl n ad en A s σ H locs) : ∀ q, uAd n ad H.size q → A q := by
  intro q h
  rcases h with ⟨k, hk, rfl⟩ | h
  · exact C.2.2.2.1 k hk
  · exact C.2.2.2.2.1 q (Nat.le_trans G.2.1 h)
theorem u_callVi (C : uC p R s m args c cc nL Ts own D cl tys n ad A cells slots) (G : uG D cl n ad en A s σ H locs) {k ci N : Nat} {fs : (Nat → Int32) → List Value} {Cn : String} {T : u_T} {r : Int32} (hM : uMi l y ws rm D cl tys n ad en (.ref (ad k) :: As) σ r σ') (cw : CallW R s args own Cn index y bytes maxL ret ws rm 0 0 na) (o : uO n en k ci fs) (hc : cl[ci]? = some (Cn, T, N)) (hn : As.length = na) (hl : lv_has ls nL lv) (hst : st = As.reverse ++ .ref (ad k) :: rest) (hW : (rest.map fun v => v.category).sum ≤ 8) (hdg : decode cc pc = .ok (.invokevirtual index, 3))
    (kk : ∀ (H : Heap) (locs : List Loc), uG D cl n ad en A s σ' H locs → W p l e R s m args below meth c H locs cells slots Q (F0 m (pc + 3) ls (.int r :: rest))) : W p l e R s m args below meth c H locs cells slots Q (F0 m pc ls st) := by
  subst hst
  refine va_calli (va_runV (As := As) (rest := rest) C.1 (hM H.size) cw (u_preV C G o hc) rfl hn hl.1 rfl (lv_room hW) hdg ⟨C.2.2.2.2.2.1, C.2.2.2.2.2.2⟩) G.2 (fun q _ h => u_free C G q h) (u_free C G) (fun r1 u t H1 locs1 ht hvm hw hB hz hk hS => ?_)
  rw [ht] at hB
  rw [hw]
  exact kk H1 locs1 ⟨hB, hS⟩
theorem u_callVl (C : uC p R s m args c cc nL Ts own D cl tys n ad A cells slots) (G : uG D cl n ad en A s σ H locs) {k ci N : Nat} {fs : (Nat → Int32) → List Value} {Cn : String} {T : u_T} {r : Int64} (hM : uMl l y ws rm D cl tys n ad en (.ref (ad k) :: As) σ r σ') (cw : CallW R s args own Cn index y bytes maxL ret ws rm 0 0 na) (o : uO n en k ci fs) (hc : cl[ci]? = some (Cn, T, N)) (hn : As.length = na) (hl : lv_has ls nL lv) (hst : st = As.reverse ++ .ref (ad k) :: rest) (hW : (rest.map fun v => v.category).sum ≤ 8) (hdg : decode cc pc = .ok (.invokevirtual index, 3))
    (kk : ∀ (H : Heap) (locs : List Loc), uG D cl n ad en A s σ' H locs → W p l e R s m args below meth c H locs cells slots Q (F0 m (pc + 3) ls (.long r :: rest))) : W p l e R s m args below meth c H locs cells slots Q (F0 m pc ls st) := by
  subst hst
  refine va_calll (va_runV (As := As) (rest := rest) C.1 (hM H.size) cw (u_preV C G o hc) rfl hn hl.1 rfl (lv_room hW) hdg ⟨C.2.2.2.2.2.1, C.2.2.2.2.2.2⟩) G.2 (fun q _ h => u_free C G q h) (u_free C G) (fun r1 u t H1 locs1 ht hvm hw hB hz hk hS => ?_)
  rw [ht] at hB
  rw [hw]
  exact kk H1 locs1 ⟨hB, hS⟩
theorem u_callVv (C : uC p R s m args c cc nL Ts own D cl tys n ad A cells slots) (G : uG D cl n ad en A s σ H locs) {k ci N : Nat} {fs : (Nat → Int32) → List Value} {Cn : String} {T : u_T} (hM : uMv l y ws rm D cl tys n ad en (.ref (ad k) :: As) σ σ') (cw : CallW R s args own Cn index y bytes maxL ret ws rm 0 0 na) (o : uO n en k ci fs) (hc : cl[ci]? = some (Cn, T, N)) (hn : As.length = na) (hl : lv_has ls nL lv) (hst : st = As.reverse ++ .ref (ad k) :: rest) (hW : (rest.map fun v => v.category).sum ≤ 8) (hdg : decode cc pc = .ok (.invokevirtual index, 3))
    (kk : ∀ (H : Heap) (locs : List Loc), uG D cl n ad en A s σ' H locs → W p l e R s m args below meth c H locs cells slots Q (F0 m (pc + 3) ls rest)) : W p l e R s m args below meth c H locs cells slots Q (F0 m pc ls st) := by
  subst hst
  refine va_callv (va_runV (As := As) (rest := rest) C.1 (hM H.size) cw (u_preV C G o hc) rfl hn hl.1 rfl (lv_room hW) hdg ⟨C.2.2.2.2.2.1, C.2.2.2.2.2.2⟩) G.2 (fun q _ h => u_free C G q h) (u_free C G) (fun u t H1 locs1 ht hvm hw hB hz hk hS => ?_)
  rw [ht] at hB
  exact kk H1 locs1 ⟨hB, hS⟩
theorem u_callSi (C : uC p R s m args c cc nL Ts own D cl tys n ad A cells slots) (G : uG D cl n ad en A s σ H locs) {r : Int32} (hM : uMi l y ws rm D cl tys n ad en As σ r σ') (cw : CallB R s args own index y bytes maxL ret ws rm 0 0 na ∧ (Cond.static y).before args s = true) (hn : As.length = na) (hl : lv_has ls nL lv) (hst : st = As.reverse ++ rest) (hW : (rest.map fun v => v.category).sum ≤ 8) (hdg : decode cc pc = .ok (.invokestatic index, 3))
    (kk : ∀ (H : Heap) (locs : List Loc), uG D cl n ad en A s σ' H locs → W p l e R s m args below meth c H locs cells slots Q (F0 m (pc + 3) ls (.int r :: rest))) : W p l e R s m args below meth c H locs cells slots Q (F0 m pc ls st) := by
  subst hst
  refine va_calli (va_runS (As := As) (rest := rest) C.1 (hM H.size) cw (u_preS C G) rfl hn hl.1 rfl (lv_room hW) hdg ⟨C.2.2.2.2.2.1, C.2.2.2.2.2.2⟩) G.2 (fun q _ h => u_free C G q h) (u_free C G) (fun r1 u t H1 locs1 ht hvm hw hB hz hk hS => ?_)
  rw [ht] at hB
  rw [hw]
  exact kk H1 locs1 ⟨hB, hS⟩
theorem u_callSv (C : uC p R s m args c cc nL Ts own D cl tys n ad A cells slots) (G : uG D cl n ad en A s σ H locs) (hM : uMv l y ws rm D cl tys n ad en As σ σ') (cw : CallB R s args own index y bytes maxL ret ws rm 0 0 na ∧ (Cond.static y).before args s = true) (hn : As.length = na) (hl : lv_has ls nL lv) (hst : st = As.reverse ++ rest) (hW : (rest.map fun v => v.category).sum ≤ 8) (hdg : decode cc pc = .ok (.invokestatic index, 3))
    (kk : ∀ (H : Heap) (locs : List Loc), uG D cl n ad en A s σ' H locs → W p l e R s m args below meth c H locs cells slots Q (F0 m (pc + 3) ls rest)) : W p l e R s m args below meth c H locs cells slots Q (F0 m pc ls st) := by
  subst hst
  refine va_callv (va_runS (As := As) (rest := rest) C.1 (hM H.size) cw (u_preS C G) rfl hn hl.1 rfl (lv_room hW) hdg ⟨C.2.2.2.2.2.1, C.2.2.2.2.2.2⟩) G.2 (fun q _ h => u_free C G q h) (u_free C G) (fun u t H1 locs1 ht hvm hw hB hz hk hS => ?_)
  rw [ht] at hB
  exact kk H1 locs1 ⟨hB, hS⟩
theorem u_iret (hx : p.tables.exec = Jvm.exec) (hb : c.code = cc) (hr : meth.sig.returnType = some .int) (hlk : meth.locks = false) (G : uG D cl n ad en (uAd n ad s.heap.size) s σ H locs) {r : Int32} (hdg : decode cc pc = .ok (.ireturn, 1)) : W p l e R s m args below meth c H locs 0 0 (MQ below (uQi D cl n ad en r σ s.heap.size) args s 0 0 (uAd n ad s.heap.size)) (F0 m pc ls [.int r]) :=
  W.iret hx hb hr (fun t ht hW => ⟨⟨r, (), rfl, rfl, by show va_P D cl (uw n ad en σ) t.heap; rw [ht]; exact G.1⟩, G.2.F ht⟩) G.2.2.2 hdg hlk
theorem u_zret (hx : p.tables.exec = Jvm.exec) (hb : c.code = cc) (hr : meth.sig.returnType = some .boolean) (hlk : meth.locks = false) (G : uG D cl n ad en (uAd n ad s.heap.size) s σ H locs) {r : Int32} (hz : unz r = true) (hdg : decode cc pc = .ok (.ireturn, 1)) : W p l e R s m args below meth c H locs 0 0 (MQ below (uQi D cl n ad en r σ s.heap.size) args s 0 0 (uAd n ad s.heap.size)) (F0 m pc ls [.int r]) :=
  W.zret hx hb hr (unz_n hz) (fun t ht hW => ⟨⟨r, (), rfl, rfl, by show va_P D cl (uw n ad en σ) t.heap; rw [ht]; exact G.1⟩, G.2.F ht⟩) G.2.2.2 hdg hlk
theorem u_lret (hx : p.tables.exec = Jvm.exec) (hb : c.code = cc) (hr : meth.sig.returnType = some .long) (hlk : meth.locks = false) (G : uG D cl n ad en (uAd n ad s.heap.size) s σ H locs) {r : Int64} (hdg : decode cc pc = .ok (.lreturn, 1)) : W p l e R s m args below meth c H locs 0 0 (MQ below (uQl D cl n ad en r σ s.heap.size) args s 0 0 (uAd n ad s.heap.size)) (F0 m pc ls [.long r]) :=
  W.lret hx hb hr (fun t ht hW => ⟨⟨r, (), rfl, rfl, by show va_P D cl (uw n ad en σ) t.heap; rw [ht]; exact G.1⟩, G.2.F ht⟩) G.2.2.2 hdg hlk
theorem u_vret (hx : p.tables.exec = Jvm.exec) (hb : c.code = cc) (hr : meth.sig.returnType = none) (hlk : meth.locks = false) (G : uG D cl n ad en (uAd n ad s.heap.size) s σ H locs) (hdg : decode cc pc = .ok (.return_, 1)) : W p l e R s m args below meth c H locs 0 0 (MQ below (uQv D cl n ad en σ s.heap.size) args s 0 0 (uAd n ad s.heap.size)) (F0 m pc ls []) :=
  W.vret hx hb hr (fun t ht hW => ⟨⟨(), rfl, trivial, by show va_P D cl (uw n ad en σ) t.heap; rw [ht]; exact G.1⟩, G.2.F ht⟩) G.2.2.2 hdg hlk
end UC
/-- a method's contract out of the walk of its body -/
theorem u_met {l : Launch} {y : MethodName} {ws ws' : List Cond} {rm : Room} {D : va_G} {cl : List vw_C} {tys : List (ClassId × FieldType)} {n : Nat} {ad : Nat → Nat} {en : Nat → (Nat → Int32) → va_E} {As : List Value} {σ : St} {Qf : Nat → Array Value → State → Outcome → State → Prop} {cc : ByteArray} {maxL : Nat} {ret : Option FieldType} {lv : List (Nat × Value)}
    (hJ : uJ n ad) (hy : plainName y.cls = true) (hw : ws = Cond.code y cc maxL ret :: ws') (hn : (lg_sl As).length ≤ maxL) (hlv : lv_args 0 As = lv) (hrc : rm.cells = 0) (hrs : rm.slots = 0)
    (body : ∀ (p : Program) (e : Env) (s : State) (m : MethodId) (args : Array Value) (below : List Frame) (meth : Method) (c : Code) (ls : Array Slot), p.tables.exec = Jvm.exec → c.code = cc → uC p rm s m args c cc maxL ws y.cls D cl tys n ad (uAd n ad s.heap.size) 0 0 → meth.sig.returnType = ret → meth.locks = false → uG D cl n ad en (uAd n ad s.heap.size) s σ s.heap [] → lv_has ls maxL lv →
      W p l e rm s m args below meth c s.heap [] 0 0 (MQ below (Qf s.heap.size) args s 0 0 (uAd n ad s.heap.size)) (F0 m 0 ls [])) :
    ∀ sz : Nat, Met l y ws rm (uPre D cl tys n ad en As σ sz) (Qf sz) 0 0 (uAd n ad sz) := by
  intro sz
  refine Met.ofW (cc := cc) (maxL := maxL) (ret := ret) hy hw ?_
  intro p e s m args below meth c s₁ B hml hv
  obtain ⟨rfl, hsz, hP, hK⟩ := hv
  subst hsz
  have hl := lv_entry As (n := maxL) hn
  rw [lg_entry_eq]
  rw [hlv] at hl
  have hown : s.vm.findClass y.cls = some m.cls := findClass_of_methodNamed B.named
  exact body p e s m As.toArray below meth c _ B.exec B.bytes ⟨⟨B.exec, B.bytes, hml, hown, atoms_spec (ws := ws) B.pre⟩, hK, hJ, fun k hk => Or.inl ⟨k, hk, rfl⟩, fun q h => Or.inr h, Nat.zero_le _, Nat.zero_le _⟩ B.returns B.notSynchronized ⟨hP, va_S.rf⟩ hl
def fu : Nat := 5000
theorem vp_lit {i : Int32} {N : Nat} (h : (decide (i < 0 ∨ N ≤ i.toNatClampNeg)) = false) : vp_in i N := of_decide_eq_false h
theorem u_end {α β : Type} {a c : α} {b d : β} (h : some (a, b) = some (c, d)) : a = c ∧ b = d := by
  cases h
  exact ⟨rfl, rfl⟩
theorem uG_eq {D : va_G} {cl : List vw_C} {n : Nat} {ad : Nat → Nat} {en : Nat → (Nat → Int32) → va_E} {A : Nat → Prop} {s : State} {σ τ : St} {H : Heap} {locs : List Loc} (h : σ = τ) (G : uG D cl n ad en A s τ H locs) : uG D cl n ad en A s σ H locs := h ▸ G
theorem u_start {p : Program} {l : Launch} {e : Env} {R : Room} {s : State} {m : MethodId} {args : Array Value} {below : List Frame} {meth : Method} {c : Code} {H : Heap} {locs : List Loc} {cells slots : Nat} {Q : State → Prop} {g : JFrame} {D : va_G} {cl : List vw_C} {n : Nat} {ad : Nat → Nat} {en : Nat → (Nat → Int32) → va_E} {A : Nat → Prop} {σ : St} (eH : H = s.heap) (eL : locs = []) (G : uG D cl n ad en A s σ s.heap []) (k : uG D cl n ad en A s σ H locs → W p l e R s m args below meth c H locs cells slots Q g) : W p l e R s m args below meth c s.heap [] cells slots Q g := by
  subst eH
  subst eL
  exact k G
