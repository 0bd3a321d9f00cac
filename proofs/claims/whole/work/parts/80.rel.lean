/-! ===== THE RELATION between the numbers of the class (x) and of the reference (y) ===== -/
def bt (x : Int32) (i : Nat) : Bool := x.toBitVec.getLsbD i
/-- only bits 0 .. 14 -/
def m15 (v : Int32) : Prop := ∃ k : Nat, k < 32768 ∧ v = nI k
def byt (v : Int32) : Prop := v.toInt8.toInt32 = v
def RA (x y : St) : Prop := x 0 12 = y 0 0 ∧ x 0 13 = y 0 2 ∧ ∀ f, f < 6 → x 98 f = y 1 f
def RB (x y : St) : Prop := ∀ c, c < 26 → x 9 c = y 2 c ∧ m15 (x 9 c)
def RC (x y : St) : Prop := ∀ s, s < 4 → ((x 3 s = -1 ∧ y 3 s = -9) ∨ ∃ n, n ≤ 10 ∧ x 3 s = nI n ∧ y 3 s = nI n) ∧ ∀ j, j < 10 → x (4 + s) j = y 4 (10 * s + j) ∧ byt (x (4 + s) j)
def yrs (x : St) (w : Nat) : Prop := (1 ≤ (x 14 w).toInt ∧ (x 14 w).toInt ≤ 200) ∧ 1700 ≤ (x 15 w).toInt ∧ (x 15 w).toInt ≤ (x 16 w).toInt ∧ (x 16 w).toInt ≤ 2100
def kindOK (x : St) (w : Nat) : Prop := (x 12 w = 0 ∧ x 13 w = -9) ∨ (x 12 w = 1 ∧ x 13 w = -9 ∧ yrs x w) ∨ ((x 12 w = 2 ∨ x 12 w = 3) ∧ yrs x w ∧ ∃ v, v < w ∧ x 13 w = nI v ∧ (x 12 v = 1 ∨ x 12 v = 2))
def wordOK (x y : St) (w : Nat) : Prop := (∃ n, 1 ≤ n ∧ n ≤ 8 ∧ x 11 w = nI n ∧ y 7 w = nI n ∧ ∀ i, i < n → ∃ t, t < 26 ∧ y 8 (8 * w + i) = nI t ∧ x (18 + w) i = nI (97 + t)) ∧ x 12 w = y 6 w ∧ x 13 w = y 13 w ∧ x 14 w = y 10 w ∧ x 15 w = y 11 w ∧ x 16 w = y 12 w ∧ kindOK x w
def RD (W : Nat) (x y : St) : Prop := W ≤ 16 ∧ x 8 9 = nI W ∧ y 0 7 = nI W ∧ (∀ w, w < W → wordOK x y w) ∧ (∀ w, w < 16 → x 17 w = y 9 w ∧ (x 17 w = 0 ∨ x 17 w = 1)) ∧ ∀ w, W ≤ w → w < 16 → x 17 w = 0
def RE (x y : St) : Prop := ∀ l, l < 4 → ∀ s, s < 10 → (∀ u, u < 4 → m15 (x (35 + 9 * l + 2 + u) s)) ∧ ∀ c, c < 15 → ∃ v, v ≤ 4 ∧ y 14 (150 * l + 15 * s + c) = nI v ∧ ∀ u, u < 4 → bt (x (35 + 9 * l + 2 + u) s) c = decide (u = v)
def RF (W : Nat) (x y : St) : Prop := ∀ l, l < 4 → ∃ n, n ≤ 3 ∧ x (35 + 9 * l) 4 = nI n ∧ y 16 l = nI n ∧ (∀ i, i < n → x (35 + 9 * l + 6) i = y 17 (3 * l + i) ∧ x (35 + 9 * l + 7) i = y 18 (3 * l + i) ∧ x (35 + 9 * l + 8) i = y 19 (3 * l + i) ∧ (∃ w, w < W ∧ x (35 + 9 * l + 6) i = nI w ∧ ∃ n9 t, x 11 w = nI n9 ∧ x (35 + 9 * l + 7) i = nI t ∧ t + n9 ≤ 10) ∧ ∃ c, 1 ≤ c ∧ c ≤ 3 ∧ x (35 + 9 * l + 8) i = nI c) ∧ ∀ i j, i < n → j < n → x (35 + 9 * l + 8) i = x (35 + 9 * l + 8) j → i = j
def RG (x y : St) : Prop := (∃ t, t ≤ 8 ∧ x 71 3 = nI t ∧ y 0 26 = nI t ∧ ∀ i, i < t → x 72 i = y 22 i ∧ x 73 i = y 23 i ∧ x 74 i = y 24 i ∧ (1700 ≤ (x 72 i).toInt ∧ (x 72 i).toInt ≤ 2100) ∧ (1 ≤ (x 73 i).toInt ∧ (x 73 i).toInt ≤ 3) ∧ (-100 ≤ (x 74 i).toInt ∧ (x 74 i).toInt ≤ 100)) ∧ x 71 4 = y 0 30 ∧ x 71 5 = y 0 31 ∧ (1 ≤ (x 71 4).toInt ∧ (x 71 4).toInt ≤ 200) ∧ (1700 ≤ (x 71 5).toInt ∧ (x 71 5).toInt ≤ 2100)
def RH (x y : St) : Prop := ∃ n, n ≤ 30 ∧ x 75 4 = nI n ∧ y 0 32 = nI n ∧ ∀ i, i < n → x 76 i = y 25 i ∧ x 77 i = y 26 i ∧ x 78 i = y 27 i ∧ x 79 i = y 28 i ∧ m15 (x 79 i) ∧ ∃ t, t < 10 ∧ x 78 i = nI t
def RI (W : Nat) (x y : St) : Prop := ∃ n, n ≤ 12 ∧ x 80 2 = nI n ∧ y 0 37 = nI n ∧ ∀ i, i < n → x 81 i = y 29 i ∧ x 82 i = y 30 i ∧ ∃ w, w < W ∧ x 82 i = nI w
def RJ (x y : St) : Prop := ∃ n, n ≤ 12 ∧ x 83 3 = nI n ∧ y 0 40 = nI n ∧ (∀ i, i < n → x 84 i = y 31 i ∧ x 85 i = y 32 i ∧ (0 ≤ (x 84 i).toInt ∧ (x 84 i).toInt ≤ 1000) ∧ (1 ≤ (x 85 i).toInt ∧ (x 85 i).toInt ≤ 1000) ∧ (y 33 i = 0 ∨ y 33 i = 1) ∧ bt (x 83 2) i = decide (y 33 i = 1)) ∧ ∀ i, n ≤ i → bt (x 83 2) i = false
def Rel (x y : St) : Prop := RA x y ∧ RB x y ∧ RC x y ∧ RE x y ∧ RG x y ∧ RH x y ∧ RJ x y ∧ ∃ W, RD W x y ∧ RF W x y ∧ RI W x y
