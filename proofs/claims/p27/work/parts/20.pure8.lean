/-! ===== bounds ===== -/
theorem i32a {x y : Int32} (h1 : -2147483648 ≤ x.toInt + y.toInt) (h2 : x.toInt + y.toInt ≤ 2147483647) : (x + y).toInt = x.toInt + y.toInt := by
  rw [Int32.toInt_add]; apply Int.bmod_eq_of_le <;> omega
theorem i32s {x y : Int32} (h1 : -2147483648 ≤ x.toInt - y.toInt) (h2 : x.toInt - y.toInt ≤ 2147483647) : (x - y).toInt = x.toInt - y.toInt := by
  rw [Int32.toInt_sub]; apply Int.bmod_eq_of_le <;> omega
theorem i32m {x y : Int32} (h1 : -2147483648 ≤ x.toInt * y.toInt) (h2 : x.toInt * y.toInt ≤ 2147483647) : (x * y).toInt = x.toInt * y.toInt := by
  rw [Int32.toInt_mul]; apply Int.bmod_eq_of_le <;> omega
theorem i64a {x y : Int64} (h1 : -9223372036854775808 ≤ x.toInt + y.toInt) (h2 : x.toInt + y.toInt ≤ 9223372036854775807) : (x + y).toInt = x.toInt + y.toInt := by
  rw [Int64.toInt_add]; apply Int.bmod_eq_of_le <;> omega
theorem i64s {x y : Int64} (h1 : -9223372036854775808 ≤ x.toInt - y.toInt) (h2 : x.toInt - y.toInt ≤ 9223372036854775807) : (x - y).toInt = x.toInt - y.toInt := by
  rw [Int64.toInt_sub]; apply Int.bmod_eq_of_le <;> omega
theorem i64m {x y : Int64} (h1 : -9223372036854775808 ≤ x.toInt * y.toInt) (h2 : x.toInt * y.toInt ≤ 9223372036854775807) : (x * y).toInt = x.toInt * y.toInt := by
  rw [Int64.toInt_mul]; apply Int.bmod_eq_of_le <;> omega
theorem i64r (x : Int64) : -9223372036854775808 ≤ x.toInt ∧ x.toInt ≤ 9223372036854775807 := by
  have h1 := Int64.le_toInt x
  have h2 := Int64.toInt_lt x
  constructor <;> omega
theorem i32r (x : Int32) : -2147483648 ≤ x.toInt ∧ x.toInt ≤ 2147483647 := by
  have h1 := Int32.le_toInt x
  have h2 := Int32.toInt_lt x
  constructor <;> omega
theorem ediv_bd {a b A : Int} (hb : 0 < b) (hA : 0 ≤ A) (h1 : -A ≤ a) (h2 : a ≤ A) : -A ≤ a / b ∧ a / b ≤ A := by
  have h : A * 1 ≤ A * b := Int.mul_le_mul_of_nonneg_left (by omega) hA
  constructor
  · rw [Int.le_ediv_iff_mul_le hb]
    have e : -A * b = -(A * b) := Int.neg_mul _ _
    omega
  · exact Int.ediv_le_of_le_mul hb (by omega)
theorem mul_bd {a b A B : Int} (h1 : -A ≤ a) (h2 : a ≤ A) (h3 : -B ≤ b) (h4 : b ≤ B) : -(A * B) ≤ a * b ∧ a * b ≤ A * B := by
  have hA : 0 ≤ A := by omega
  have hB : 0 ≤ B := by omega
  have e := Int.natAbs_mul a b
  have ha : (a.natAbs : Int) ≤ A := by omega
  have hb : (b.natAbs : Int) ≤ B := by omega
  have : ((a.natAbs * b.natAbs : Nat) : Int) ≤ A * B := by
    rw [Int.natCast_mul]
    exact Int.mul_le_mul ha hb (by omega) hA
  constructor <;> omega
theorem dn_toInt {u l : Int64} (h : 0 < l.toInt) : (dn u l).toInt = u.toInt / l.toInt := by
  have hu := i64r u
  have hl := i64r l
  have hd := Int.mul_tdiv_add_tmod u.toInt l.toInt
  have hm := tmod_bounds (a := u.toInt) h
  have hq : (u / l).toInt = u.toInt.tdiv l.toInt := by
    rw [Int64.toInt_div]
    have hb : -9223372036854775808 ≤ u.toInt.tdiv l.toInt ∧ u.toInt.tdiv l.toInt ≤ 9223372036854775807 := by
      rcases Int.le_total 0 u.toInt with h0 | h0
      · rw [Int.tdiv_eq_ediv_of_nonneg h0]
        have := ediv_bd (a := u.toInt) (A := u.toInt) h h0 (by omega) (by omega)
        omega
      · have e : u.toInt.tdiv l.toInt = -((-u.toInt) / l.toInt) := by
          rw [← Int.tdiv_eq_ediv_of_nonneg (by omega), Int.neg_tdiv, Int.neg_neg]
        rw [e]
        have := ediv_bd (a := -u.toInt) (A := -u.toInt) h (by omega) (by omega) (by omega)
        have h3 : -u.toInt / l.toInt = 9223372036854775808 → l.toInt = 1 ∨ -u.toInt / l.toInt ≤ 9223372036854775807 := by
          intro _
          by_cases h1 : l.toInt = 1
          · exact Or.inl h1
          · right
            apply Int.ediv_le_of_le_mul h
            omega
        have h4 : l.toInt = 1 → -u.toInt / l.toInt = -u.toInt := fun h1 => by rw [h1, Int.ediv_one]
        by_cases h1 : l.toInt = 1
        · rw [h4 h1]; omega
        · have h2 : (-u.toInt) / l.toInt ≤ 9223372036854775807 := by
            apply Int.ediv_le_of_le_mul h
            omega
          have key : ∀ z : Int, 0 ≤ z → z ≤ 9223372036854775807 → -9223372036854775808 ≤ -z ∧ -z ≤ 9223372036854775807 := fun z _ _ => ⟨by omega, by omega⟩
          exact key _ (Int.ediv_nonneg (by omega) (by omega)) h2
    apply Int.bmod_eq_of_le <;> omega
  generalize hqd : u.toInt.tdiv l.toInt = q at *
  generalize hrd : u.toInt.tmod l.toInt = t at *
  have hsg : (0 ≤ u.toInt → 0 ≤ t) ∧ (u.toInt ≤ 0 → t ≤ 0) := by
    rw [← hrd]
    constructor
    · intro h0; exact Int.tmod_nonneg _ h0
    · intro h0
      have : 0 ≤ (-u.toInt).tmod l.toInt := Int.tmod_nonneg _ (by omega)
      rw [Int.neg_tmod] at this
      omega
  have hlq : l.toInt * q = u.toInt - t := by omega
  have hmul : (u / l * l).toInt = u.toInt - t := by
    have e : (u / l).toInt * l.toInt = u.toInt - t := by rw [hq, Int.mul_comm]; exact hlq
    rw [i64m (by rw [e]; omega) (by rw [e]; omega), e]
  have hq0 : (u / l).toInt = q := hq
  unfold dn
  by_cases hc : u < u / l * l
  · rw [if_pos hc]
    rw [Int64.lt_iff_toInt_lt, hmul] at hc
    have hqb : -9223372036854775807 ≤ q := by
      apply Int.not_lt.mp
      intro hlt
      have h5 : q * l.toInt ≤ q * 1 := Int.mul_le_mul_of_nonpos_left (by omega) (by omega)
      rw [Int.mul_comm] at h5
      omega
    have hqr := i64r (u / l)
    have e1 : (1 : Int64).toInt = 1 := by decide
    rw [i64s (by rw [e1, hq0]; omega) (by rw [e1, hq0]; omega), e1, hq0]
    have := (Int.ediv_emod_unique (a := u.toInt) (b := l.toInt) (q := q - 1) (r := t + l.toInt) h).mpr ⟨by rw [Int.mul_sub]; omega, by omega, by omega⟩
    omega
  · rw [if_neg hc]
    rw [Int64.lt_iff_toInt_lt, hmul] at hc
    have := (Int.ediv_emod_unique (a := u.toInt) (b := l.toInt) (q := q) (r := t) h).mpr ⟨by omega, by omega, by omega⟩
    omega
