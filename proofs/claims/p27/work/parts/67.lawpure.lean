/-! ===== the law's own reckoning ===== -/
def lowN (v : Int32) (N : Nat) : Nat := (v &&& 2147483647).toNatClampNeg % N
theorem lowN_lt {v : Int32} {N : Nat} (h : 0 < N) : lowN v N < N := Nat.mod_lt _ h
theorem and_nn (v : Int32) : ¬ (v &&& 2147483647) < 0 := by
  have e0 : (0 : Int32).toInt = 0 := by decide
  have hmm : ∀ x : BitVec 32, x.toInt < 0 ↔ x.msb = true := fun x => by rw [BitVec.msb_eq_toInt]; simp
  rw [Int32.lt_iff_toInt_lt, e0, ← Int32.toInt_toBitVec, Int32.toBitVec_and, hmm, BitVec.msb_and]
  have hl : (2147483647 : Int32).toBitVec.msb = false := by decide
  rw [hl]; simp
theorem nI_div {a b : Nat} (ha : a < 2 ^ 31) (hb : b < 2 ^ 31) : nI a / nI b = nI (a / b) := by
  have h1 : a / b ≤ a := Nat.div_le_self a b
  rw [← Int32.toInt_inj, Int32.toInt_div, nI_toInt ha, nI_toInt hb, nI_toInt (by omega), Int.tdiv_eq_ediv_of_nonneg (by omega)]
  have e : (a : Int) / (b : Int) = ((a / b : Nat) : Int) := by norm_cast
  rw [e]
  generalize a / b = q at h1
  apply Int.bmod_eq_of_le <;> omega
theorem nI_sub {a b : Nat} (h : b ≤ a) : nI a - nI b = nI (a - b) := by
  have e : nI a = nI (a - b) + nI b := by rw [nI_add, Nat.sub_add_cancel h]
  rw [e, Int32.add_sub_cancel]
theorem nI_rem {a b : Nat} (ha : a < 2 ^ 31) (hb : b < 2 ^ 31) : nI a - nI a / nI b * nI b = nI (a % b) := by
  rw [nI_div ha hb, pk_mul, nI_sub (Nat.div_mul_le_self a b)]
  have := Nat.div_add_mod a b
  rw [Nat.mul_comm] at this
  congr 1
  omega
theorem low_eq {v : Int32} {N : Nat} (hN : N < 2 ^ 31) : (v &&& 2147483647) - (v &&& 2147483647) / nI N * nI N = nI (lowN v N) := by
  obtain ⟨k, hk, e⟩ := nI_of (and_nn v)
  unfold lowN
  rw [e, nI_clamp hk, nI_rem hk hN]
/-- what stands in the law's two arrays -/
def DD (d r : Nat → Int32) (nt : Nat) : Prop := ∀ m, m < nt → d (4 * m) = r (46 + 50 * 0 + 5 * m + 0) ∧ d (4 * m + 1) = r (46 + 50 * 0 + 5 * m + 1) ∧ d (4 * m + 2) = r (46 + 50 * 0 + 5 * m + 3) ∧ d (4 * m + 3) = r (46 + 50 * 0 + 5 * m + 4)
def PP (p r : Nat → Int32) (nk : Nat) : Prop := ∀ m, m < nk → p m = r (46 + 50 * 1 + 5 * m + 3)
/-- ears that lie not yet heard nothing -/
def Bey (r : Nat → Int32) (ne nk : Nat) : Prop := ∀ m e, m < nk → ne ≤ e → e < 10 → r (146 + 100 * 1 + 10 * m + e) = MISS
def hdF (r : Nat → Int32) (k m e : Nat) : Int32 := if r (146 + 100 * k + 10 * m + e) = MISS then -5 else r (146 + 100 * k + 10 * m + e) + 10000
theorem ten : (10000 : Int32).toInt = 10000 := by decide
theorem rb_hd {r : Nat → Int32} {k m e : Nat} (h : Rb (r (146 + 100 * k + 10 * m + e))) : (r (146 + 100 * k + 10 * m + e) = MISS ∧ hdF r k m e = -5) ∨ (¬ r (146 + 100 * k + 10 * m + e) = MISS ∧ ¬ hdF r k m e = -5 ∧ hdF r k m e = r (146 + 100 * k + 10 * m + e) + 10000 ∧ (-2000 ≤ (r (146 + 100 * k + 10 * m + e)).toInt ∧ (r (146 + 100 * k + 10 * m + e)).toInt ≤ 130000)) := by
  unfold hdF
  by_cases q : r (146 + 100 * k + 10 * m + e) = MISS
  · exact Or.inl ⟨q, if_pos q⟩
  · have hb := h.resolve_left q
    have e5 : (-5 : Int32).toInt = -5 := by decide
    refine Or.inr ⟨q, ?_, if_neg q, hb⟩
    rw [if_neg q]
    intro h5
    have h6 := congrArg Int32.toInt h5
    rw [i32a (by rw [ten]; omega) (by rw [ten]; omega), ten, e5] at h6
    omega
theorem hd_le {r : Nat → Int32} {k m e : Nat} {y : Int32} (h : -2000 ≤ (r (146 + 100 * k + 10 * m + e)).toInt ∧ (r (146 + 100 * k + 10 * m + e)).toInt ≤ 130000) (hy : -2000 ≤ y.toInt ∧ y.toInt ≤ 130000) : y + 10000 < r (146 + 100 * k + 10 * m + e) + 10000 ↔ y < r (146 + 100 * k + 10 * m + e) := by
  rw [Int32.lt_iff_toInt_lt, Int32.lt_iff_toInt_lt, i32a (by rw [ten]; omega) (by rw [ten]; omega), i32a (by rw [ten]; omega) (by rw [ten]; omega), ten]
  omega
/-- marks that count go on counting -/
theorem mF_st {r : Nat → Int32} {e k : Nat} : mC r e k ≤ mC r e (k + 1) ∧ ∀ j, j < mC r e k → mRd r e (k + 1) j = mRd r e k j ∧ mEr r e (k + 1) j = mEr r e k j ∧ mTh r e (k + 1) j = mTh r e k j := by
  by_cases g : mG r e k (mC r e k) (mRd r e k)
  · refine ⟨by rw [mC_t g]; omega, fun j hj => ?_⟩
    have q : j ≠ mC r e k := by omega
    have e1 : mRd r e (k + 1) = upd (mRd r e k) (mC r e k) (r (146 + 100 * 0 + 10 * k + e)) := by show (mF r e (k + 1)).2.1 = _; rw [mF_t g]
    have e2 : mEr r e (k + 1) = upd (mEr r e k) (mC r e k) (mE r e k) := by show (mF r e (k + 1)).2.2.1 = _; rw [mF_t g]
    have e3 : mTh r e (k + 1) = upd (mTh r e k) (mC r e k) (nI k) := by show (mF r e (k + 1)).2.2.2 = _; rw [mF_t g]
    rw [e1, e2, e3, upd_n q, upd_n q, upd_n q]
    exact ⟨rfl, rfl, rfl⟩
  · have e1 : mRd r e (k + 1) = mRd r e k := by show (mF r e (k + 1)).2.1 = _; rw [mF_f g]; rfl
    have e2 : mEr r e (k + 1) = mEr r e k := by show (mF r e (k + 1)).2.2.1 = _; rw [mF_f g]; rfl
    have e3 : mTh r e (k + 1) = mTh r e k := by show (mF r e (k + 1)).2.2.2 = _; rw [mF_f g]; rfl
    refine ⟨by rw [mC_f g]; exact Nat.le_refl _, fun j hj => ?_⟩
    rw [e1, e2, e3]
    exact ⟨rfl, rfl, rfl⟩
theorem mF_up {r : Nat → Int32} {e k : Nat} : ∀ m, mC r e k ≤ mC r e (k + m) ∧ ∀ j, j < mC r e k → mRd r e (k + m) j = mRd r e k j ∧ mEr r e (k + m) j = mEr r e k j ∧ mTh r e (k + m) j = mTh r e k j
  | 0 => ⟨Nat.le_refl _, fun _ _ => ⟨rfl, rfl, rfl⟩⟩
  | m + 1 => by
    have h := mF_up (r := r) (e := e) (k := k) m
    have g := mF_st (r := r) (e := e) (k := k + m)
    refine ⟨Nat.le_trans h.1 g.1, fun j hj => ?_⟩
    have h2 := h.2 j hj
    have g2 := g.2 j (by omega)
    exact ⟨g2.1.trans h2.1, g2.2.1.trans h2.2.1, g2.2.2.trans h2.2.2⟩
theorem mk_at {r : Nat → Int32} {e k nt : Nat} (g : mG r e k (mC r e k) (mRd r e k)) (hk : k < nt) : mC r e k < mC r e nt ∧ mRd r e nt (mC r e k) = r (146 + 100 * 0 + 10 * k + e) ∧ mEr r e nt (mC r e k) = mE r e k ∧ mTh r e nt (mC r e k) = nI k := by
  have h := mF_up (r := r) (e := e) (k := k + 1) (nt - (k + 1))
  rw [show k + 1 + (nt - (k + 1)) = nt by omega, mC_t g] at h
  have h2 := h.2 (mC r e k) (by omega)
  have e1 : mRd r e (k + 1) = upd (mRd r e k) (mC r e k) (r (146 + 100 * 0 + 10 * k + e)) := by show (mF r e (k + 1)).2.1 = _; rw [mF_t g]
  have e2 : mEr r e (k + 1) = upd (mEr r e k) (mC r e k) (mE r e k) := by show (mF r e (k + 1)).2.2.1 = _; rw [mF_t g]
  have e3 : mTh r e (k + 1) = upd (mTh r e k) (mC r e k) (nI k) := by show (mF r e (k + 1)).2.2.2 = _; rw [mF_t g]
  rw [e1, e2, e3, upd_s, upd_s, upd_s] at h2
  exact ⟨by omega, h2.1, h2.2.1, h2.2.2⟩
theorem mRd_l {r : Nat → Int32} {e k : Nat} (g : mG r e k (mC r e k) (mRd r e k)) : mRd r e (k + 1) (mC r e (k + 1) - 1) = r (146 + 100 * 0 + 10 * k + e) := by
  rw [mC_t g, Nat.add_sub_cancel]
  show (mF r e (k + 1)).2.1 _ = _
  rw [mF_t g]
  exact upd_s
theorem mRd_f {r : Nat → Int32} {e k : Nat} (g : ¬ mG r e k (mC r e k) (mRd r e k)) : mC r e (k + 1) = mC r e k ∧ mRd r e (k + 1) = mRd r e k := by
  refine ⟨mC_f g, ?_⟩
  show (mF r e (k + 1)).2.1 = _
  rw [mF_f g]; rfl
theorem mTh_in {r : Nat → Int32} {e : Nat} : ∀ k j, j < mC r e k → ∃ m, m < k ∧ mTh r e k j = nI m
  | 0, j, h => absurd h (Nat.not_lt_zero j)
  | k + 1, j, h => by
    by_cases g : mG r e k (mC r e k) (mRd r e k)
    · have e3 : mTh r e (k + 1) = upd (mTh r e k) (mC r e k) (nI k) := by show (mF r e (k + 1)).2.2.2 = _; rw [mF_t g]
      rw [mC_t g] at h
      rw [e3]
      by_cases q : j = mC r e k
      · subst q
        exact ⟨k, by omega, upd_s⟩
      · obtain ⟨m, h1, h2⟩ := mTh_in (r := r) (e := e) k j (by omega)
        exact ⟨m, by omega, by rw [upd_n q]; exact h2⟩
    · have e3 : mTh r e (k + 1) = mTh r e k := by show (mF r e (k + 1)).2.2.2 = _; rw [mF_f g]; rfl
      rw [mC_f g] at h
      rw [e3]
      obtain ⟨m, h1, h2⟩ := mTh_in k j h
      exact ⟨m, by omega, h2⟩
theorem lth_lt {r : Nat → Int32} {nt e : Nat} (h : nt ≤ 10) : lth r nt e < 10 ∧ lth r nt e < 99 := by
  unfold lth
  split
  · decide
  · obtain ⟨m, h1, h2⟩ := mTh_in (r := r) (e := e) nt (mC r e nt - 1) (by omega)
    rw [h2]
    exact ⟨nI_lt (a := m) (b := 10) (by omega) (by omega), nI_lt (a := m) (b := 99) (by omega) (by omega)⟩
theorem mE_d {r d : Nat → Int32} {nt e k : Nat} (hD : DD d r nt) (hk : k < nt) {x : Int32} (hx : x = r (146 + 100 * 0 + 10 * k + e) + 10000) : x - 10000 - d (4 * k + 1) - d (4 * k + 2) * far (d (4 * k)) (r (6 + 4 * e + 0)) = mE r e k := by
  obtain ⟨h0, h1, h2, -⟩ := hD k hk
  rw [hx, h0, h1, h2, Int32.add_sub_cancel]
  unfold mE
  rw [Int32.sub_sub]
/-- the error at a reading by the last mark that is not behind it -/
def ltQ (R : Nat → Int32) (c : Int32) (k : Nat) (lt : Int32) : Prop := (lt = -1 ∧ ∀ j, j < k → ¬ R j ≤ c) ∨ ∃ m, m < k ∧ lt = nI m ∧ R m ≤ c ∧ ∀ j, m < j → j < k → ¬ R j ≤ c
theorem ltQ_0 {R : Nat → Int32} {c : Int32} : ltQ R c 0 (-1) := Or.inl ⟨rfl, fun j hj => absurd hj (Nat.not_lt_zero _)⟩
theorem ltQ_t {R : Nat → Int32} {c : Int32} {k : Nat} (h : R k ≤ c) : ltQ R c (k + 1) (nI k) := Or.inr ⟨k, by omega, rfl, h, fun j h1 h2 => absurd h1 (by omega)⟩
theorem ltQ_f {R : Nat → Int32} {c : Int32} {k : Nat} {lt : Int32} (h : ¬ R k ≤ c) (q : ltQ R c k lt) : ltQ R c (k + 1) lt := by
  rcases q with ⟨h1, h2⟩ | ⟨m, h1, h2, h3, h4⟩
  · refine Or.inl ⟨h1, fun j hj => ?_⟩
    by_cases e : j = k
    · subst e; exact h
    · exact h2 j (by omega)
  · refine Or.inr ⟨m, by omega, h2, h3, fun j h5 h6 => ?_⟩
    by_cases e : j = k
    · subst e; exact h
    · exact h4 j h5 (by omega)
theorem nI_neg {m : Nat} (h : m < 2 ^ 31) : ¬ nI m = -1 := by
  intro e
  have e2 := congrArg Int32.toInt e
  rw [nI_toInt h, show (-1 : Int32).toInt = -1 by decide] at e2
  omega
theorem ltQ_a {R : Nat → Int32} {c : Int32} {n : Nat} {lt : Int32} (hn : 2 ≤ n) (h10 : n ≤ 10) (hm : ∀ j, j + 1 < n → R j < R (j + 1)) (q : ltQ R c n lt) (h : lt < 0) : fI R c (n - 2) = 0 := by
  rcases q with ⟨h1, h2⟩ | ⟨m, h1, h2, h3, h4⟩
  · refine fI_ex hm (n - 2) (by omega) (by omega) (Or.inl rfl) (Or.inr (Int32.not_le.mp (h2 1 (by omega))))
  · exact absurd (h2 ▸ h) (nI_pos (by omega))
theorem ltQ_b {R : Nat → Int32} {c : Int32} {n : Nat} {lt : Int32} (hn : 2 ≤ n) (h10 : n ≤ 10) (hm : ∀ j, j + 1 < n → R j < R (j + 1)) (q : ltQ R c n lt) (h : lt = nI n - 1) : fI R c (n - 2) = n - 2 := by
  rw [nI_sub1 (by omega)] at h
  rcases q with ⟨h1, h2⟩ | ⟨m, h1, h2, h3, h4⟩
  · exact absurd (h.symm.trans h1) (nI_neg (by omega))
  · have e : m = n - 1 := (nI_eq (by omega) (by omega)).mp (h2.symm.trans h)
    subst e
    have h5 := hm (n - 2) (by omega)
    rw [show n - 2 + 1 = n - 1 by omega] at h5
    exact fI_ex hm (n - 2) (by omega) (Nat.le_refl _) (Or.inr (Int32.le_of_lt (Int32.lt_of_lt_of_le h5 h3))) (Or.inl rfl)
theorem ltQ_c {R : Nat → Int32} {c : Int32} {n : Nat} {lt : Int32} (hn : 2 ≤ n) (h10 : n ≤ 10) (hm : ∀ j, j + 1 < n → R j < R (j + 1)) (q : ltQ R c n lt) (h0 : ¬ lt < 0) (h : ¬ lt = nI n - 1) : ∃ o, o + 1 < n ∧ lt = nI o ∧ fI R c (n - 2) = o := by
  rw [nI_sub1 (by omega)] at h
  rcases q with ⟨h1, h2⟩ | ⟨m, h1, h2, h3, h4⟩
  · exact absurd (by rw [h1]; decide) h0
  · have e : m ≠ n - 1 := fun e => h (by rw [h2, e])
    exact ⟨m, by omega, h2, fI_ex hm (n - 2) (by omega) (by omega) (Or.inr h3) (Or.inr (Int32.not_le.mp (h4 (m + 1) (by omega) (by omega))))⟩
theorem l64s {x y : Int32} (hx : -200000 ≤ x.toInt ∧ x.toInt ≤ 200000) (hy : -200000 ≤ y.toInt ∧ y.toInt ≤ 200000) : x.toInt64 - y.toInt64 = (x - y).toInt64 := by
  rw [← Int64.toInt_inj, i64s (by rw [Int32.toInt_toInt64, Int32.toInt_toInt64]; omega) (by rw [Int32.toInt_toInt64, Int32.toInt_toInt64]; omega), Int32.toInt_toInt64, Int32.toInt_toInt64, Int32.toInt_toInt64, i32s (by omega) (by omega)]
theorem errR_2 {r : Nat → Int32} {e nt o : Nat} {c : Int32} (hn : ¬ mC r e nt < 2) (ho : fI (mRd r e nt) c (mC r e nt - 2) = o) : 1000 * (mEr r e nt o).toInt64 + dn (1000 * (mEr r e nt (o + 1) - mEr r e nt o).toInt64 * (c - mRd r e nt o).toInt64) ((mRd r e nt (o + 1) - mRd r e nt o).toInt64) = errR r e nt c := by
  unfold errR eA
  rw [if_neg hn, ho]
theorem errR_0 {r : Nat → Int32} {e nt : Nat} {c : Int32} (h : mC r e nt = 0) : errR r e nt c = 0 := by
  unfold errR eA
  rw [if_pos (by omega), if_pos h]
theorem errR_1 {r : Nat → Int32} {e nt : Nat} {c : Int32} (h : mC r e nt = 1) : errR r e nt c = 1000 * (mEr r e nt 0).toInt64 := by
  unfold errR eA
  rw [if_pos (by omega), if_neg (by omega)]
theorem low_c {j : Nat} (h : j < 40000) : -10000 ≤ nI j - 2000 ∧ nI j - 2000 ≤ 300000 := by
  have e1 : (2000 : Int32).toInt = 2000 := by decide
  have e2 : (nI j - 2000).toInt = (j : Int) - 2000 := by rw [i32s (by rw [nI_toInt (by omega), e1]; omega) (by rw [nI_toInt (by omega), e1]; omega), nI_toInt (by omega), e1]
  rw [Int32.le_iff_toInt_le, Int32.le_iff_toInt_le, e2, show (-10000 : Int32).toInt = -10000 by decide, show (300000 : Int32).toInt = 300000 by decide]
  omega
/-! from where a knock came -/
theorem bsF_min {w : Nat → Int64} : ∀ n x, x ≤ n → ¬ w x < (bsF w n).2 ∧ (x < (bsF w n).1 → (bsF w n).2 < w x)
  | 0, x, h => by
    obtain rfl : x = 0 := by omega
    exact ⟨Int64.lt_irrefl, fun h => absurd h (Nat.not_lt_zero _)⟩
  | n + 1, x, h => by
    unfold bsF
    by_cases c : w (n + 1) < (bsF w n).2
    · rw [if_pos c]
      by_cases e : x = n + 1
      · subst e
        exact ⟨Int64.lt_irrefl, fun h => absurd h (Nat.lt_irrefl _)⟩
      · have := bsF_min (w := w) n x (by omega)
        have h2 : w (n + 1) < w x := Int64.lt_of_lt_of_le c (Int64.not_lt.mp this.1)
        exact ⟨fun h3 => Int64.lt_irrefl (Int64.lt_trans h2 h3), fun _ => h2⟩
    · rw [if_neg c]
      by_cases e : x = n + 1
      · subst e
        exact ⟨c, fun h => absurd (Nat.lt_of_lt_of_le h (bsF_le n).1) (by omega)⟩
      · exact bsF_min n x (by omega)
theorem spW_minN {r : Nat → Int32} {ne nt kn x N : Nat} (hx : x ≤ N) : ¬ spW r ne nt kn (nI x) < spW r ne nt kn (nI (plcN r ne nt kn N)) ∧ (spW r ne nt kn (nI x) = spW r ne nt kn (nI (plcN r ne nt kn N)) → ¬ x < plcN r ne nt kn N) := by
  have h := bsF_min (w := fun x => spW r ne nt kn (nI x)) N x hx
  have e := (bsF_le (w := fun x => spW r ne nt kn (nI x)) N).2
  have e2 : (bsF (fun x => spW r ne nt kn (nI x)) N).2 = spW r ne nt kn (nI (plcN r ne nt kn N)) := e
  rw [e2] at h
  exact ⟨h.1, fun q1 q2 => by
    have h3 := h.2 q2
    have h4 : spW r ne nt kn (nI (plcN r ne nt kn N)) < spW r ne nt kn (nI x) := h3
    rw [q1] at h4
    exact absurd h4 Int64.lt_irrefl⟩
theorem spW_min {r : Nat → Int32} {ne nt kn x : Nat} (hx : x ≤ 1000) : ¬ spW r ne nt kn (nI x) < spW r ne nt kn (nI (plc r ne nt kn)) ∧ (spW r ne nt kn (nI x) = spW r ne nt kn (nI (plc r ne nt kn)) → ¬ x < plc r ne nt kn) := by
  obtain ⟨N, hN⟩ : ∃ N : Nat, N = 1000 := ⟨_, rfl⟩
  rw [plc_at hN]
  exact spW_minN (by omega)
/-- the least and the greatest beginning, while they are sought -/
def lmQ (r : Nat → Int32) (nt kn i : Nat) (x : Int32) (lo mo : Int64) : Prop := (hC r kn i = 0 ∧ lo = 9223372036854775807 ∧ mo = -9223372036854775807) ∨ (0 < hC r kn i ∧ lo = lsB r nt kn x i ∧ mo = msB r nt kn x i)
theorem lmQ_0 {r : Nat → Int32} {nt kn : Nat} {x : Int32} : lmQ r nt kn 0 x 9223372036854775807 (-9223372036854775807) := Or.inl ⟨rfl, rfl, rfl⟩
theorem lmQ_f {r : Nat → Int32} {nt kn i : Nat} {x : Int32} {lo mo : Int64} (h : r (146 + 100 * 1 + 10 * kn + i) = MISS) (q : lmQ r nt kn i x lo mo) : lmQ r nt kn (i + 1) x lo mo := by
  unfold lmQ
  rw [(hF_f h).1, (lsB_f h).1, (lsB_f h).2]
  exact q
theorem lmQ_t {r : Nat → Int32} {nt kn i : Nat} {x : Int32} {lo mo lo2 mo2 : Int64} (h : ¬ r (146 + 100 * 1 + 10 * kn + i) = MISS) (hb : -400000000000000 ≤ (bg r nt kn x i).toInt ∧ (bg r nt kn x i).toInt ≤ 400000000000000) (q : lmQ r nt kn i x lo mo)
    (h1 : lo2 = if bg r nt kn x i < lo then bg r nt kn x i else lo) (h2 : mo2 = if mo < bg r nt kn x i then bg r nt kn x i else mo) : lmQ r nt kn (i + 1) x lo2 mo2 := by
  refine Or.inr ⟨by rw [(hF_t h).1]; omega, ?_, ?_⟩
  · rcases q with ⟨h0, rfl, rfl⟩ | ⟨h0, rfl, rfl⟩
    · rw [(lsB_0 h h0).1, h1, if_pos]
      rw [Int64.lt_iff_toInt_lt, show (9223372036854775807 : Int64).toInt = 9223372036854775807 by decide]
      omega
    · rw [(lsB_t h h0).1, h1]
  · rcases q with ⟨h0, rfl, rfl⟩ | ⟨h0, rfl, rfl⟩
    · rw [(lsB_0 h h0).2, h2, if_pos]
      rw [Int64.lt_iff_toInt_lt, show (-9223372036854775807 : Int64).toInt = -9223372036854775807 by decide]
      omega
    · rw [(lsB_t h h0).2, h2]
/-- the ear that fits least, while it is sought -/
def wsQ (r : Nat → Int32) (nt kn i : Nat) (x : Int32) (t : Int64) (wv : Int32) (fv : Int64) : Prop := (hC r kn i = 0 ∧ fv = -1) ∨ (0 < hC r kn i ∧ wv = nI (hI r kn i (wsA r nt kn x t i).1) ∧ fv = (wsA r nt kn x t i).2)
theorem wsQ_f {r : Nat → Int32} {nt kn i : Nat} {x : Int32} {t fv : Int64} {wv : Int32} (h : r (146 + 100 * 1 + 10 * kn + i) = MISS) (q : wsQ r nt kn i x t wv fv) : wsQ r nt kn (i + 1) x t wv fv := by
  unfold wsQ
  rw [(hF_f h).1, (hF_f h).2, wsA_f h]
  exact q
theorem wsQ_t {r : Nat → Int32} {nt kn i : Nat} {x : Int32} {t fv fv2 : Int64} {wv wv2 : Int32} (h : ¬ r (146 + 100 * 1 + 10 * kn + i) = MISS) (hv : -1 < ab64 (bg r nt kn x i - t)) (q : wsQ r nt kn i x t wv fv)
    (h1 : wv2 = if fv < ab64 (bg r nt kn x i - t) then nI i else wv) (h2 : fv2 = if fv < ab64 (bg r nt kn x i - t) then ab64 (bg r nt kn x i - t) else fv) : wsQ r nt kn (i + 1) x t wv2 fv2 := by
  refine Or.inr ⟨by rw [(hF_t h).1]; omega, ?_⟩
  rcases q with ⟨h0, rfl⟩ | ⟨h0, rfl, rfl⟩
  · rw [if_pos hv] at h1 h2
    have e := wsA_0 (nt := nt) (x := x) (t := t) h h0
    rw [e.1, e.2]
    exact ⟨h1, h2⟩
  · have e := wsA_t (nt := nt) (x := x) (t := t) h h0
    by_cases c : (wsA r nt kn x t i).2 < ab64 (bg r nt kn x i - t)
    · rw [if_pos c] at h1 h2
      rw [e.1, if_pos c]
      exact ⟨h1.trans (by rw [e.2.1]), h2⟩
    · rw [if_neg c] at h1 h2
      rw [e.1, if_neg c]
      exact ⟨h1.trans (by rw [e.2.2]), h2⟩
theorem xr (g : Int32) (k : Nat) : True := trivial
/-! acts -/
theorem sumN_up {f : Nat → Int32} {i : Nat} {x : Int32} : ∀ n, i < n → sumN (upd f i x) n = sumN f n + (x - f i)
  | 0, h => absurd h (Nat.not_lt_zero _)
  | n + 1, h => by
    show sumN (upd f i x) n + upd f i x n = sumN f n + f n + (x - f i)
    by_cases e : i = n
    · subst e
      rw [upd_s, sumN_cg i (fun j hj => upd_n (by omega)), Int32.add_assoc, Int32.add_comm (f i) (x - f i), Int32.sub_add_cancel]
    · rw [sumN_up n (by omega), upd_n (by omega), Int32.add_assoc, Int32.add_assoc, Int32.add_comm (x - f i) (f n)]
