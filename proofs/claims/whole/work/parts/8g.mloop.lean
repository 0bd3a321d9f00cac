/-- a loop that counts up over a state: an invariant, and what its outcome is -/
theorem loop_I {α β : Type} (F : Nat → Nat → β → α) (N : Nat) (I : Nat → β → Prop) (Q : α → Prop) (hx : ∀ fuel s, I N s → Q (F (fuel + 1) N s)) (hs : ∀ fuel j s, j < N → I j s → Q (F (fuel + 1) j s) ∨ ∃ s', I (j + 1) s' ∧ F (fuel + 1) j s = F fuel (j + 1) s') : ∀ m j fuel s, j + m = N → m < fuel → I j s → Q (F fuel j s) := by
  intro m
  induction m with
  | zero =>
    intro j fuel s hj hf hi
    obtain ⟨g, rfl⟩ : ∃ g, fuel = g + 1 := ⟨fuel - 1, by omega⟩
    have : j = N := by omega
    subst this
    exact hx g s hi
  | succ m ih =>
    intro j fuel s hj hf hi
    obtain ⟨g, rfl⟩ : ∃ g, fuel = g + 1 := ⟨fuel - 1, by omega⟩
    rcases hs g j s (by omega) hi with h | ⟨s', h1, h2⟩
    · exact h
    · rw [h2]
      exact ih (j + 1) g s' (by omega) (by omega) h1
theorem loop_J {α β : Type} (F : Nat → Nat → β → α) (N : Nat) (I : Nat → β → Prop) (Q : α → Prop) (hN : N < 4999) (s : β) (h0 : I 0 s) (hx : ∀ fuel s, I N s → Q (F (fuel + 1) N s)) (hs : ∀ fuel j s, j < N → I j s → Q (F (fuel + 1) j s) ∨ ∃ s', I (j + 1) s' ∧ F (fuel + 1) j s = F fuel (j + 1) s') : Q (F fu 0 s) :=
  loop_I F N I Q hx hs N 0 fu s (by omega) (by unfold fu; omega) h0
/-- with a fact that is carried on, and a state in closed form -/
theorem loop_P {α : Type} (F : Nat → Nat → α) (N : Nat) (R : α) (P : Nat → Prop) (hN : N < 4999) (h0 : P 0) (hx : ∀ fuel, P N → F (fuel + 1) N = R) (hs : ∀ fuel j, j < N → P j → F (fuel + 1) j = R ∨ (P (j + 1) ∧ F (fuel + 1) j = F fuel (j + 1))) : F fu 0 = R :=
  loop_J (fun fuel j (_ : Unit) => F fuel j) N (fun j _ => P j) (fun r => r = R) hN () h0 (fun fuel _ h => hx fuel h) (fun fuel j _ hj h => (hs fuel j hj h).imp id (fun q => ⟨(), q.1, q.2⟩))
/-- a sum -/
def sm : Nat → (Nat → Nat) → Nat
  | 0, _ => 0
  | n + 1, f => sm n f + f n
theorem sm_s {n : Nat} {f : Nat → Nat} : sm (n + 1) f = sm n f + f n := rfl
theorem sm_congr {n : Nat} {f g : Nat → Nat} (h : ∀ i, i < n → f i = g i) : sm n f = sm n g := by
  induction n with
  | zero => rfl
  | succ n ih => rw [sm_s, sm_s, ih (fun i hi => h i (by omega)), h n (by omega)]
theorem sm_add {n : Nat} {f g : Nat → Nat} : sm n (fun i => f i + g i) = sm n f + sm n g := by
  induction n with
  | zero => rfl
  | succ n ih => rw [sm_s, sm_s, sm_s, ih]; omega
theorem sm_zero {n : Nat} {f : Nat → Nat} (h : ∀ i, i < n → f i = 0) : sm n f = 0 := by
  induction n with
  | zero => rfl
  | succ n ih => rw [sm_s, ih (fun i hi => h i (by omega)), h n (by omega)]
theorem sm_split {a b : Nat} {f : Nat → Nat} : sm (a + b) f = sm a f + sm b (fun i => f (a + i)) := by
  induction b with
  | zero => rfl
  | succ b ih => rw [← Nat.add_assoc, sm_s, sm_s, ih]; omega
theorem sm_mul {a b : Nat} {f : Nat → Nat} : sm (b * a) f = sm a (fun i => sm b (fun j => f (b * i + j))) := by
  induction a with
  | zero => rfl
  | succ a ih => rw [Nat.mul_succ, sm_split, ih, sm_s]
theorem sm_le {n m : Nat} {f : Nat → Nat} (h : ∀ i, i < n → f i ≤ m) : sm n f ≤ n * m := by
  induction n with
  | zero => exact Nat.zero_le _
  | succ n ih =>
    have := ih (fun i hi => h i (by omega))
    have := h n (by omega)
    rw [sm_s, Nat.succ_mul]; omega
def bN (b : Bool) : Nat := if b = true then 1 else 0
theorem bN_t {b : Bool} (h : b = true) : bN b = 1 := if_pos h
theorem bN_f {b : Bool} (h : b = false) : bN b = 0 := by rw [h]; rfl
/-- how many of the bits 0 to 14 -/
def pc (v : Int32) : Nat := sm 15 (fun c => bN (bt v c))
theorem bt_nI {k i : Nat} (hi : i < 32) : bt (nI k) i = k.testBit i := by
  unfold bt
  show (BitVec.ofNat 32 k).getLsbD i = _
  rw [BitVec.getLsbD_ofNat]
  simp [hi]
theorem and_nI {a b : Nat} (ha : a < 2 ^ 32) (hb : b < 2 ^ 32) : nI a &&& nI b = nI (a &&& b) := by
  apply Int32.toBitVec_inj.mp
  apply BitVec.eq_of_toNat_eq
  have h : a &&& b < 2 ^ 32 := Nat.lt_of_le_of_lt Nat.and_le_left ha
  rw [Int32.toBitVec_and, BitVec.toNat_and, pk_tn ha, pk_tn hb, pk_tn h]
def swN (k : Nat) : Nat :=
  let a := k - ((k / 2) &&& 1431655765)
  let b := (a &&& 858993459) + ((a / 4) &&& 858993459)
  let c := (b + b / 16) &&& 252645135
  let d := c + c / 256
  (d + d / 65536) &&& 63
def pcK (k : Nat) : Nat := 0 + k / 2 ^ 0 % 2 + k / 2 ^ 1 % 2 + k / 2 ^ 2 % 2 + k / 2 ^ 3 % 2 + k / 2 ^ 4 % 2 + k / 2 ^ 5 % 2 + k / 2 ^ 6 % 2 + k / 2 ^ 7 % 2 + k / 2 ^ 8 % 2 + k / 2 ^ 9 % 2 + k / 2 ^ 10 % 2 + k / 2 ^ 11 % 2 + k / 2 ^ 12 % 2 + k / 2 ^ 13 % 2 + k / 2 ^ 14 % 2
theorem sw_0 : ∀ a, a < 32 → ∀ b, b < 256 → swN (256 * a + b) = pcK (256 * a + b) := by decide +kernel
theorem sw_1 : ∀ a, a < 32 → ∀ b, b < 256 → swN (256 * (a + 32) + b) = pcK (256 * (a + 32) + b) := by decide +kernel
theorem sw_2 : ∀ a, a < 32 → ∀ b, b < 256 → swN (256 * (a + 64) + b) = pcK (256 * (a + 64) + b) := by decide +kernel
theorem sw_3 : ∀ a, a < 32 → ∀ b, b < 256 → swN (256 * (a + 96) + b) = pcK (256 * (a + 96) + b) := by decide +kernel
theorem sw_all {k : Nat} (hk : k < 32768) : swN k = pcK k := by
  have e : k = 256 * (k / 256) + k % 256 := by omega
  have hb : k % 256 < 256 := by omega
  by_cases h1 : k / 256 < 32
  · have := sw_0 (k / 256) h1 (k % 256) hb
    rw [← e] at this; exact this
  · by_cases h2 : k / 256 < 64
    · have := sw_1 (k / 256 - 32) (by omega) (k % 256) hb
      rw [show k / 256 - 32 + 32 = k / 256 by omega, ← e] at this; exact this
    · by_cases h3 : k / 256 < 96
      · have := sw_2 (k / 256 - 64) (by omega) (k % 256) hb
        rw [show k / 256 - 64 + 64 = k / 256 by omega, ← e] at this; exact this
      · have := sw_3 (k / 256 - 96) (by omega) (k % 256) hb
        rw [show k / 256 - 96 + 96 = k / 256 by omega, ← e] at this; exact this
theorem tb_div (k i : Nat) : bN (k.testBit i) = k / 2 ^ i % 2 := by
  rw [Nat.testBit_eq_decide_div_mod_eq]
  unfold bN
  by_cases h : k / 2 ^ i % 2 = 1
  · simp [h]
  · have : k / 2 ^ i % 2 = 0 := by omega
    simp [this]
theorem pc_nI {k : Nat} : pc (nI k) = pcK k := by
  unfold pc
  rw [sm_congr (g := fun c => k / 2 ^ c % 2) (fun i hi => by rw [bt_nI (by omega), tb_div])]
  simp only [sm, pcK]
theorem p_bc {v : Int32} (h : m15 v) (x : St) : f_J6_bitCount_0f7a4 x v = some (nI (pc v), x) := by
  obtain ⟨k, hk, rfl⟩ := h
  rw [pc_nI, ← sw_all hk]
  have c1 : (1431655765 : Int32) = nI 1431655765 := by decide
  have c2 : (858993459 : Int32) = nI 858993459 := by decide
  have c3 : (252645135 : Int32) = nI 252645135 := by decide
  have c4 : (63 : Int32) = nI 63 := by decide
  unfold f_J6_bitCount_0f7a4
  simp only [ul_eq]
  rw [c1, c2, c3, c4]
  have ha : (k / 2) &&& 1431655765 ≤ k / 2 := Nat.and_le_left
  rw [pk_ushrN (n := k) (by omega) 1 1 (by decide), and_nI (a := k / 2 ^ 1) (by omega) (by decide), pk_sub (a := k) (by show k / 2 &&& 1431655765 ≤ k; omega)]
  have e1 : k / 2 ^ 1 = k / 2 := rfl
  rw [e1]
  generalize hA : k - (k / 2 &&& 1431655765) = A
  have bA : A < 32768 := by omega
  have i1 : A &&& 858993459 ≤ A := Nat.and_le_left
  have i2 : A / 4 &&& 858993459 ≤ A / 4 := Nat.and_le_left
  rw [pk_ushrN (n := A) (by omega) 2 2 (by decide), and_nI (a := A) (by omega) (by decide), and_nI (a := A / 2 ^ 2) (by omega) (by decide), nI_add]
  have e2 : A / 2 ^ 2 = A / 4 := rfl
  rw [e2]
  generalize hB : (A &&& 858993459) + (A / 4 &&& 858993459) = B
  have bB : B < 65536 := by omega
  have i3 : B + B / 16 &&& 252645135 ≤ B + B / 16 := Nat.and_le_left
  rw [pk_ushrN (n := B) (by omega) 4 4 (by decide), nI_add, and_nI (a := B + B / 2 ^ 4) (by omega) (by decide)]
  have e3 : B / 2 ^ 4 = B / 16 := rfl
  rw [e3]
  generalize hC : (B + B / 16) &&& 252645135 = C
  have bC : C < 131072 := by omega
  rw [pk_ushrN (n := C) (by omega) 8 8 (by decide), nI_add]
  have e4 : C / 2 ^ 8 = C / 256 := rfl
  rw [e4]
  generalize hD : C + C / 256 = D
  have bD : D < 262144 := by omega
  rw [pk_ushrN (n := D) (by omega) 16 16 (by decide), nI_add, and_nI (a := D + D / 2 ^ 16) (by omega) (by decide)]
  have e5 : D / 2 ^ 16 = D / 65536 := rfl
  rw [e5]
  have : swN k = (D + D / 65536) &&& 63 := by
    unfold swN
    simp only [hA, hB, hC, hD]
  rw [this]
/-- only bits 0 to 14, by its bits -/
theorem m15_of {v : Int32} (h : ∀ i, 15 ≤ i → i < 32 → bt v i = false) : m15 v := by
  refine ⟨v.toBitVec.toNat, ?_, ?_⟩
  · apply Nat.lt_pow_two_of_testBit (n := 15)
    intro i hi
    by_cases h2 : i < 32
    · have := h i hi h2
      unfold bt at this
      rw [BitVec.getLsbD] at this
      exact this
    · exact Nat.testBit_lt_two_pow (Nat.lt_of_lt_of_le v.toBitVec.isLt (Nat.pow_le_pow_right (by omega) (by omega)))
  · apply Int32.toBitVec_inj.mp
    show v.toBitVec = BitVec.ofNat 32 v.toBitVec.toNat
    simp
theorem m15_0 : m15 0 := ⟨0, by decide, nI_0.symm⟩
theorem m15_andL {v w : Int32} (h : m15 v) : m15 (v &&& w) := m15_of (fun i hi _ => by rw [b_and, m15_bt h hi]; rfl)
theorem m15_andR {v w : Int32} (h : m15 w) : m15 (v &&& w) := m15_of (fun i hi _ => by rw [b_and, m15_bt h hi]; simp)
theorem m15_or {v w : Int32} (h : m15 v) (g : m15 w) : m15 (v ||| w) := m15_of (fun i hi _ => by rw [b_or, m15_bt h hi, m15_bt g hi]; rfl)
theorem b_not (v : Int32) {i : Nat} (hi : i < 32) : bt (v ^^^ (-1)) i = !bt v i := by rw [b_xor, b_m1 i hi]; simp
/-- a set of bits is none, by its bits -/
theorem m15_z {v : Int32} (h : m15 v) : v = 0 ↔ ∀ c, c < 15 → bt v c = false := by
  constructor
  · intro e c _
    rw [e, b_0]
  · intro g
    apply b_ext
    intro i hi
    rw [b_0]
    by_cases hc : i < 15
    · exact g i hc
    · exact m15_bt h (by omega)
theorem nI_p0 (a : Int32) : a + 0 = a := by simp
theorem p_bits {v : Int32} (y : St) : f_X10_bits y v = some (nI (pc v), y) := by
  unfold f_X10_bits
  have := loop_fu (fun fuel j => f_X10_bits_4 fuel y v (nI (sm j (fun c => bN (bt v c)))) (nI j)) 15 (some (nI (pc v), y)) (by decide) (fun fuel => ?_) (fun fuel j hj => ?_)
  · exact this
  · show f_X10_bits_4 (fuel + 1) _ _ _ _ = _
    rw [f_X10_bits_4, if_pos (by decide)]
    rfl
  · right
    show f_X10_bits_4 (fuel + 1) _ _ _ _ = f_X10_bits_4 fuel _ _ _ _
    rw [f_X10_bits_4, if_neg (show ¬ (15 : Int32) ≤ nI j from by rw [show (15 : Int32) = nI 15 from by decide]; exact nI_ge hj (by decide)), ul_eq, ul_eq, b_test _ (by omega), nI_1, sm_s]
    by_cases g : bt v j = true
    · rw [if_pos g, bN_t g, nI_1]
    · rw [if_neg g, nI_p0, bN_f (by simpa using g)]
      rfl
