/-! ===== a State stands for a row ===== -/
def Rd (x y : Int32) : Prop := (x = SIL ∧ y = MISS) ∨ (x = y ∧ -2000 ≤ y.toInt ∧ y.toInt ≤ 130000)
theorem Rd.s {x y : Int32} (h : Rd x y) (hx : x = SIL) : y = MISS := by
  rcases h with h | ⟨rfl, h1, h2⟩
  · exact h.2
  · subst hx; exact absurd h1 (by decide)
theorem Rd.n {x y : Int32} (h : Rd x y) (hx : ¬ x = SIL) : x = y ∧ ¬ y = MISS ∧ -2000 ≤ y.toInt ∧ y.toInt ≤ 130000 := by
  rcases h with h | ⟨rfl, h1, h2⟩
  · exact absurd h.1 hx
  · refine ⟨rfl, fun e => ?_, h1, h2⟩
    rw [e] at h1; exact absurd h1 (by decide)
/-- the numbers v of a State stand for the row r -/
def Can (v : Nat → Nat → Int32) (r : Nat → Int32) (ne nt nk : Nat) : Prop :=
  Inv r ne nt nk ∧ (v 0 0 = nI ne ∧ v 6 0 = nI nt ∧ v 21 0 = nI nk ∧ v 0 1 = r 3 ∧ v 0 2 = r 4 ∧ v 0 3 = r 5) ∧
  (∀ e, e < ne → v 1 e = r (6 + 4 * e + 0) ∧ v 4 e = r (6 + 4 * e + 1) ∧ v 2 e = r (6 + 4 * e + 2) ∧ v 3 e = r (6 + 4 * e + 3)) ∧
  (∀ e, ne ≤ e → e < 10 → v 2 e = 0 ∧ v 3 e = 0 ∧ v 4 e = 0) ∧
  (∀ m, m < nt → v 7 m = r (46 + 50 * 0 + 5 * m + 0) ∧ v 8 m = r (46 + 50 * 0 + 5 * m + 1) ∧ v 9 m = r (46 + 50 * 0 + 5 * m + 3) ∧ v 5 m = r (46 + 50 * 0 + 5 * m + 4) ∧ ∀ e, e < 10 → Rd (v (11 + m) e) (r (146 + 100 * 0 + 10 * m + e))) ∧
  (∀ m, nt ≤ m → m < 10 → v 5 m = 0) ∧
  (∀ m, m < nk → v 22 m = r (46 + 50 * 1 + 5 * m + 0) ∧ v 23 m = r (46 + 50 * 1 + 5 * m + 1) ∧ v 24 m = r (46 + 50 * 1 + 5 * m + 3) ∧ ∀ e, e < 10 → Rd (v (26 + m) e) (r (146 + 100 * 1 + 10 * m + e)))
section CanS
variable {v : Nat → Nat → Int32} {r : Nat → Int32} {ne nt nk : Nat}
theorem Can.i (h : Can v r ne nt nk) : Inv r ne nt nk := h.1
theorem Can.n0 (h : Can v r ne nt nk) : v 0 0 = nI ne := h.2.1.1
theorem Can.n1 (h : Can v r ne nt nk) : v 6 0 = nI nt := h.2.1.2.1
theorem Can.n2 (h : Can v r ne nt nk) : v 21 0 = nI nk := h.2.1.2.2.1
theorem Can.r3 (h : Can v r ne nt nk) : v 0 1 = r 3 := h.2.1.2.2.2.1
theorem Can.r4 (h : Can v r ne nt nk) : v 0 2 = r 4 := h.2.1.2.2.2.2.1
theorem Can.r5 (h : Can v r ne nt nk) : v 0 3 = r 5 := h.2.1.2.2.2.2.2
theorem Can.ear (h : Can v r ne nt nk) {e : Nat} (he : e < ne) : v 1 e = r (6 + 4 * e + 0) ∧ v 4 e = r (6 + 4 * e + 1) ∧ v 2 e = r (6 + 4 * e + 2) ∧ v 3 e = r (6 + 4 * e + 3) := h.2.2.1 e he
theorem Can.bey (h : Can v r ne nt nk) {e : Nat} (he : ne ≤ e) (h1 : e < 10) : v 2 e = 0 ∧ v 3 e = 0 ∧ v 4 e = 0 := h.2.2.2.1 e he h1
theorem Can.th (h : Can v r ne nt nk) {m : Nat} (hm : m < nt) : v 7 m = r (46 + 50 * 0 + 5 * m + 0) ∧ v 8 m = r (46 + 50 * 0 + 5 * m + 1) ∧ v 9 m = r (46 + 50 * 0 + 5 * m + 3) ∧ v 5 m = r (46 + 50 * 0 + 5 * m + 4) ∧ ∀ e, e < 10 → Rd (v (11 + m) e) (r (146 + 100 * 0 + 10 * m + e)) := h.2.2.2.2.1 m hm
theorem Can.beyT (h : Can v r ne nt nk) {m : Nat} (hm : nt ≤ m) (h1 : m < 10) : v 5 m = 0 := h.2.2.2.2.2.1 m hm h1
theorem Can.kn (h : Can v r ne nt nk) {m : Nat} (hm : m < nk) : v 22 m = r (46 + 50 * 1 + 5 * m + 0) ∧ v 23 m = r (46 + 50 * 1 + 5 * m + 1) ∧ v 24 m = r (46 + 50 * 1 + 5 * m + 3) ∧ ∀ e, e < 10 → Rd (v (26 + m) e) (r (146 + 100 * 1 + 10 * m + e)) := h.2.2.2.2.2.2 m hm
theorem Can.bz4 (h : Can v r ne nt nk) : Bz (v 4) := by
  intro e he
  by_cases q : e < ne
  · rw [(h.ear q).2.1]; exact (h.i.2.2.2.2.2.2.1 e q).2.1
  · exact Or.inl (h.bey (by omega) he).2.2
theorem Can.bz5 (h : Can v r ne nt nk) : Bz (v 5) := by
  intro m hm
  by_cases q : m < nt
  · rw [(h.th q).2.2.2.1]; exact (h.i.2.2.2.2.2.2.2 0 m (by omega) q).2.2.2.1
  · exact Or.inl (h.beyT (by omega) hm)
end CanS
/-- the way, as the class reckons it -/
theorem wy_far {p q : Int32} (hp : 0 ≤ p.toInt ∧ p.toInt ≤ 1000) (hq : 0 ≤ q.toInt ∧ q.toInt ≤ 1000) : (if 0 ≤ p - q then p - q else 0 - (p - q)) = far p q := by
  have e1 : (p - q).toInt = p.toInt - q.toInt := i32s (by omega) (by omega)
  have e2 : (q - p).toInt = q.toInt - p.toInt := i32s (by omega) (by omega)
  have e0 : (0 : Int32).toInt = 0 := by decide
  unfold far
  by_cases h : p < q
  · rw [if_pos h]
    rw [Int32.lt_iff_toInt_lt] at h
    rw [if_neg (by rw [Int32.le_iff_toInt_le]; omega)]
    rw [← Int32.toInt_inj, i32s (by omega) (by omega)]
    omega
  · rw [if_neg h]
    rw [Int32.lt_iff_toInt_lt] at h
    rw [if_pos (by rw [Int32.le_iff_toInt_le]; omega)]
theorem far_c {p q : Int32} (hp : 0 ≤ p.toInt ∧ p.toInt ≤ 1000) (hq : 0 ≤ q.toInt ∧ q.toInt ≤ 1000) : far p q = far q p := by
  have e1 : (p - q).toInt = p.toInt - q.toInt := i32s (by omega) (by omega)
  have e2 : (q - p).toInt = q.toInt - p.toInt := i32s (by omega) (by omega)
  unfold far
  by_cases h : p < q
  · rw [if_pos h, if_neg]
    rw [Int32.lt_iff_toInt_lt] at h ⊢; omega
  · rw [if_neg h]
    by_cases h2 : q < p
    · rw [if_pos h2]
    · rw [if_neg h2]
      rw [Int32.lt_iff_toInt_lt] at h h2
      rw [← Int32.toInt_inj]; omega
theorem mG_of {r : Nat → Int32} {e t : Nat} {rd er th : Nat → Int32} {x : Int32} (hH : mH r e t rd er th) (hx : x = r (146 + 100 * 0 + 10 * t + e)) : (mC r e t = 0 ∨ rd (mC r e t - 1) < x) ↔ (mC r e t = 0 ∨ mRd r e t (mC r e t - 1) < r (146 + 100 * 0 + 10 * t + e)) := by
  subst hx
  by_cases c0 : mC r e t = 0
  · simp [c0]
  · rw [(hH _ (by omega)).1]
theorem mE_of {v : Nat → Nat → Int32} {r : Nat → Int32} {ne nt nk e t : Nat} (h : Can v r ne nt nk) (he : e < ne) (ht : t < nt) (hR : v (11 + t) e = r (146 + 100 * 0 + 10 * t + e)) : v (11 + t) e - (v 8 t + v 9 t * (if 0 ≤ v 7 t - v 1 e then v 7 t - v 1 e else 0 - (v 7 t - v 1 e))) = mE r e t := by
  obtain ⟨q7, q8, q9, q5, -⟩ := h.th ht
  unfold mE
  rw [hR, q8, q9, q7, (h.ear he).1, wy_far (h.i.come (k := 0) (by omega) ht).1 (h.i.pl he)]
theorem i64_of {x : Int64} : 0 < x.toInt → ¬ x = 0 := fun h e => by subst e; exact absurd h (by decide)
theorem dm64 {u l : Int64} (h : 0 < l.toInt) : ∃ t, (u / l * l).toInt = u.toInt - t ∧ (0 ≤ u.toInt → 0 ≤ t) ∧ (u.toInt ≤ 0 → t ≤ 0) := by
  have hu := i64r u
  have hl := i64r l
  have hd := Int.mul_tdiv_add_tmod u.toInt l.toInt
  have hm := tmod_bounds (a := u.toInt) h
  have hq : (u / l).toInt = u.toInt.tdiv l.toInt := by
    rw [Int64.toInt_div]
    have hb : -9223372036854775808 ≤ u.toInt.tdiv l.toInt ∧ u.toInt.tdiv l.toInt ≤ 9223372036854775807 := by
      rcases Int.le_total 0 u.toInt with h0 | h0
      · rw [Int.tdiv_eq_ediv_of_nonneg h0]
        have := ediv_bd (a := u.toInt) (A := u.toInt) h h0 (by omega) (by omega)
        omega
      · have e : u.toInt.tdiv l.toInt = -((-u.toInt) / l.toInt) := by
          rw [← Int.tdiv_eq_ediv_of_nonneg (by omega), Int.neg_tdiv, Int.neg_neg]
        rw [e]
        have := ediv_bd (a := -u.toInt) (A := -u.toInt) h (by omega) (by omega) (by omega)
        have h3 : -u.toInt / l.toInt = 9223372036854775808 → l.toInt = 1 ∨ -u.toInt / l.toInt ≤ 9223372036854775807 := by
          intro _
          by_cases h1 : l.toInt = 1
          · exact Or.inl h1
          · right
            apply Int.ediv_le_of_le_mul h
            omega
        have h4 : l.toInt = 1 → -u.toInt / l.toInt = -u.toInt := fun h1 => by rw [h1, Int.ediv_one]
        by_cases h1 : l.toInt = 1
        · rw [h4 h1]; omega
        · have h2 : (-u.toInt) / l.toInt ≤ 9223372036854775807 := by
            apply Int.ediv_le_of_le_mul h
            omega
          have key : ∀ z : Int, 0 ≤ z → z ≤ 9223372036854775807 → -9223372036854775808 ≤ -z ∧ -z ≤ 9223372036854775807 := fun z _ _ => ⟨by omega, by omega⟩
          exact key _ (Int.ediv_nonneg (by omega) (by omega)) h2
    apply Int.bmod_eq_of_le <;> omega
  generalize hqd : u.toInt.tdiv l.toInt = q at *
  generalize hrd : u.toInt.tmod l.toInt = t at *
  have hsg : (0 ≤ u.toInt → 0 ≤ t) ∧ (u.toInt ≤ 0 → t ≤ 0) := by
    rw [← hrd]
    constructor
    · intro h0; exact Int.tmod_nonneg _ h0
    · intro h0
      have : 0 ≤ (-u.toInt).tmod l.toInt := Int.tmod_nonneg _ (by omega)
      rw [Int.neg_tmod] at this
      omega
  have hlq : l.toInt * q = u.toInt - t := by omega
  have hmul : (u / l * l).toInt = u.toInt - t := by
    have e : (u / l).toInt * l.toInt = u.toInt - t := by rw [hq, Int.mul_comm]; exact hlq
    rw [i64m (by rw [e]; omega) (by rw [e]; omega), e]
  have hq0 : (u / l).toInt = q := hq
  exact ⟨t, hmul, hsg⟩
/-- the JDK's floorDiv with a positive divisor -/
theorem fdl_dn {u l : Int64} (h : 0 < l.toInt) : fdl u l = dn u l := by
  have e0 : (0 : Int64).toInt = 0 := by decide
  have hx : (u ^^^ l < 0) ↔ u < 0 := by
    rw [Int64.lt_iff_toInt_lt, Int64.lt_iff_toInt_lt]
    have hmm : ∀ x : BitVec 64, x.toInt < 0 ↔ x.msb = true := fun x => by rw [BitVec.msb_eq_toInt]; simp
    rw [e0, ← Int64.toInt_toBitVec, ← Int64.toInt_toBitVec, Int64.toBitVec_xor, hmm, hmm, BitVec.msb_xor]
    have hl : l.toBitVec.msb = false := by
      rw [Bool.eq_false_iff]
      intro hm
      rw [BitVec.msb_eq_toInt, Int64.toInt_toBitVec] at hm
      have := of_decide_eq_true hm
      omega
    rw [hl]; simp
  obtain ⟨t, h1, h2, h3⟩ := dm64 (u := u) h
  unfold fdl dn
  have hc : (u ^^^ l < 0 ∧ ¬ u / l * l = u) ↔ u < u / l * l := by
    rw [hx, Int64.lt_iff_toInt_lt, Int64.lt_iff_toInt_lt, ← Int64.toInt_inj, h1, e0]
    omega
  by_cases q : u < u / l * l
  · rw [if_pos q, if_pos (hc.mpr q)]
  · rw [if_neg q, if_neg (fun z => q (hc.mp z))]
