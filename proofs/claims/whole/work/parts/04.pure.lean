theorem nA {x y : Int32} {a b : Nat} (h1 : x = nI a) (h2 : y = nI b) : x + y = nI (a + b) := by rw [h1, h2, nI_add]
theorem nM {x y : Int32} {a b : Nat} (h1 : x = nI a) (h2 : y = nI b) : x * y = nI (a * b) := by rw [h1, h2, pk_mul]
theorem fz01 {v : Int32} (h : v = 0 ∨ v = 1) : fits .boolean (.int v) = true := by rcases h with rfl | rfl <;> rfl
theorem sw_split (x : Int32) (lo : Int) (m : Nat) : (x.toInt < lo ∨ lo + m < x.toInt) ∨ ∃ j : Nat, j ≤ m ∧ x = Int32.ofInt (lo + j) := by
  by_cases h : x.toInt < lo ∨ lo + m < x.toInt
  · exact Or.inl h
  · refine Or.inr ⟨(x.toInt - lo).toNat, by omega, ?_⟩
    rw [show lo + ((x.toInt - lo).toNat : Int) = x.toInt by omega]
    simp
/-! ===== the words of the promises, over a row of 346 numbers ===== -/
def MISS : Int32 := -1000000000
def far (a b : Int32) : Int32 := if a < b then b - a else a - b
def dn (u l : Int64) : Int64 := if u < u / l * l then u / l - 1 else u / l
def rdc (r : Nat → Int32) (e : Nat) (t : Int32) : Int32 := t + r (6 + 4 * e + 2) + (dn ((r (6 + 4 * e + 3)).toInt64 * t.toInt64) 10000).toInt32
def toldAs (c : Int32) : Int64 := -9223372036854775808 - c.toInt64
/-- the sum of what f gives below n -/
def sumN (f : Nat → Int32) : Nat → Int32
  | 0 => 0
  | k + 1 => sumN f k + f k
