theorem b_ext {x y : Int32} (h : ∀ i, i < 32 → bt x i = bt y i) : x = y := Int32.toBitVec_inj.mp (BitVec.eq_of_getLsbD_eq (fun i hi => h i hi))
theorem b_big {x : Int32} {i : Nat} (h : 32 ≤ i) : bt x i = false := BitVec.getLsbD_of_ge _ _ h
theorem b_m1 : ∀ i, i < 32 → bt (-1) i = true := by decide +kernel
theorem b_0 (i : Nat) : bt 0 i = false := BitVec.getLsbD_zero
theorem s_l : ∀ n, n < 32 → ((nI n &&& 31).toBitVec.smod 32).toNat = n := by decide +kernel
theorem b_sshr (n : Nat) (hn : n < 32) (x : Int32) {i : Nat} (hi : i < 32) : bt (x >>> (nI n &&& 31)) i = if n + i < 32 then bt x (n + i) else bt x 31 := by
  unfold bt
  rw [Int32.toBitVec_shiftRight]
  show (x.toBitVec.sshiftRight ((nI n &&& 31).toBitVec.smod 32).toNat).getLsbD i = _
  rw [s_l n hn, BitVec.getLsbD_sshiftRight, BitVec.msb_eq_getLsbD_last]
  simp [hi]
theorem b_1 : ∀ i, i < 32 → bt 1 i = decide (i = 0) := by decide +kernel
/-- one bit of a set, asked for -/
theorem b_test (m : Int32) {c : Nat} (hc : c < 32) : ((m >>> (nI c &&& 31)) &&& 1) = (if bt m c = true then 1 else 0) := by
  apply b_ext
  intro i hi
  rw [b_and, b_1 i hi]
  by_cases e : i = 0
  · subst e
    rw [b_sshr c hc m hi, if_pos (by omega)]
    by_cases g : bt m c = true
    · simp [g, b_1 0 (by omega)]
    · simp only [Bool.not_eq_true] at g
      simp [g, b_0]
  · by_cases g : bt m c = true
    · simp [g, e, b_1 i hi]
    · simp [g, e, b_0]
theorem m15_bt {v : Int32} (h : m15 v) {i : Nat} (hi : 15 ≤ i) : bt v i = false := by
  obtain ⟨k, hk, rfl⟩ := h
  unfold bt
  show (BitVec.ofNat 32 k).getLsbD i = false
  rw [BitVec.getLsbD_ofNat]
  have : k.testBit i = false := Nat.testBit_lt_two_pow (Nat.lt_of_lt_of_le hk (by
    have : 2 ^ 15 ≤ 2 ^ i := Nat.pow_le_pow_right (by omega) hi
    omega))
  simp [this]
