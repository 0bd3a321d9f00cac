/-! ===== the mathematics: words for the pure programs ===== -/
theorem ui_ok {α : Type} {i : Int32} {N : Nat} {k : Option α} (h : vp_in i N) : ui i N k = k := if_neg h
theorem ui_n {α : Type} {j N : Nat} {k : Option α} (h : j < N) (hN : N < 2 ^ 31) : ui (nI j) N k = k := if_neg (nI_in h hN)
theorem ul_eq {α β : Type} {v : β} {k : β → Option α} : ul v k = k v := rfl
theorem ub_some {α β : Type} {r : β} {σ : St} {k : β → St → Option α} : ub (some (r, σ)) k = k r σ := rfl
theorem ug_ok {α : Type} {b : Bool} {k : Option α} (h : b = true) : ug b k = k := if_pos h
/-- a predicate's answer -/
def bI (p : Prop) [Decidable p] : Int32 := if p then 1 else 0
theorem bI_z {p : Prop} [Decidable p] : bI p = 0 ↔ ¬ p := by
  unfold bI
  by_cases h : p
  · simp [h]
  · simp [h]
theorem us_e {σ : St} {k j : Nat} {v : Int32} : us σ k j v k = upd (σ k) j v := if_pos rfl
theorem us_n {σ : St} {k j q : Nat} {v : Int32} (h : q ≠ k) : us σ k j v q = σ q := if_neg h
/-- a loop that counts up: it ends with R, by its end, by a step, or by leaving early -/
theorem loop_up {α : Type} (F : Nat → Nat → α) (N : Nat) (R : α) (hx : ∀ fuel, F (fuel + 1) N = R) (hs : ∀ fuel j, j < N → F (fuel + 1) j = R ∨ F (fuel + 1) j = F fuel (j + 1)) : ∀ m j fuel, j + m = N → m < fuel → F fuel j = R := by
  intro m
  induction m with
  | zero =>
    intro j fuel hj hf
    obtain ⟨g, rfl⟩ : ∃ g, fuel = g + 1 := ⟨fuel - 1, by omega⟩
    have : j = N := by omega
    subst this
    exact hx g
  | succ m ih =>
    intro j fuel hj hf
    obtain ⟨g, rfl⟩ : ∃ g, fuel = g + 1 := ⟨fuel - 1, by omega⟩
    rcases hs g j (by omega) with h | h
    · exact h
    · rw [h]
      exact ih (j + 1) g (by omega) (by omega)
theorem loop_fu {α : Type} (F : Nat → Nat → α) (N : Nat) (R : α) (hN : N < 4999) (hx : ∀ fuel, F (fuel + 1) N = R) (hs : ∀ fuel j, j < N → F (fuel + 1) j = R ∨ F (fuel + 1) j = F fuel (j + 1)) : F fu 0 = R :=
  loop_up F N R hx hs N 0 fu (by omega) (by unfold fu; omega)
-- numbers
theorem i_lt (a b : Int32) : a < b ↔ a.toInt < b.toInt := Int32.lt_iff_toInt_lt
theorem i_le (a b : Int32) : a ≤ b ↔ a.toInt ≤ b.toInt := Int32.le_iff_toInt_le
/-- an int between 0 and N - 1 is one of the numbers -/
theorem n_of {v : Int32} {N : Nat} (h : 0 ≤ v.toInt ∧ v.toInt < N) (hN : N < 2 ^ 31) : ∃ j, j < N ∧ v = nI j := vp_in_of (vp_in_iff.mpr h) hN
-- the predicates of both sides
theorem p_isLetter (x : St) (v : Int32) : f_X8_isLetter x v = some (bI (97 ≤ v.toInt ∧ v.toInt ≤ 122), x) := by
  unfold f_X8_isLetter bI
  simp only [i_lt, i_le]
  have e1 : (97 : Int32).toInt = 97 := by decide
  have e2 : (122 : Int32).toInt = 122 := by decide
  rw [e1, e2]
  by_cases h1 : v.toInt < 97
  · rw [if_pos h1, if_neg (by omega)]
  · rw [if_neg h1]
    by_cases h2 : 122 < v.toInt
    · rw [if_pos h2, if_neg (by omega)]
    · rw [if_neg h2, if_pos (by omega)]
theorem p_in (y : St) (v a b : Int32) : f_X10_in y v a b = some (bI (a.toInt ≤ v.toInt ∧ v.toInt ≤ b.toInt), y) := by
  unfold f_X10_in bI
  simp only [i_lt]
  by_cases h1 : v.toInt < a.toInt
  · rw [if_pos h1, if_neg (by omega)]
  · rw [if_neg h1]
    by_cases h2 : b.toInt < v.toInt
    · rw [if_pos h2, if_neg (by omega)]
    · rw [if_neg h2, if_pos (by omega)]
