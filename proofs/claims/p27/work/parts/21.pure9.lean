theorem far_b {a b : Int32} (ha : 0 ≤ a.toInt ∧ a.toInt ≤ 1000) (hb : 0 ≤ b.toInt ∧ b.toInt ≤ 1000) : 0 ≤ (far a b).toInt ∧ (far a b).toInt ≤ 1000 := by
  unfold far
  split
  · rename_i h
    rw [Int32.lt_iff_toInt_lt] at h
    rw [i32s (by omega) (by omega)]
    omega
  · rename_i h
    rw [Int32.lt_iff_toInt_lt] at h
    rw [i32s (by omega) (by omega)]
    omega
theorem Inv.pl {r : Nat → Int32} {ne nt nk : Nat} (h : Inv r ne nt nk) {e : Nat} (he : e < ne) : 0 ≤ (r (6 + 4 * e + 0)).toInt ∧ (r (6 + 4 * e + 0)).toInt ≤ 1000 := (h.2.2.2.2.2.2.1 e he).1
theorem Inv.come {r : Nat → Int32} {ne nt nk : Nat} (h : Inv r ne nt nk) {k m : Nat} (hk : k < 2) (hm : m < (if k = 0 then nt else nk)) : (0 ≤ (r (46 + 50 * k + 5 * m + 0)).toInt ∧ (r (46 + 50 * k + 5 * m + 0)).toInt ≤ 1000) ∧ (0 ≤ (r (46 + 50 * k + 5 * m + 1)).toInt ∧ (r (46 + 50 * k + 5 * m + 1)).toInt ≤ 100000) ∧ (1 ≤ (r (46 + 50 * k + 5 * m + 3)).toInt ∧ (r (46 + 50 * k + 5 * m + 3)).toInt ≤ 20) :=
  have q := h.2.2.2.2.2.2.2 k m hk hm
  ⟨q.1, q.2.1, q.2.2.1⟩
theorem mE_b {r : Nat → Int32} {ne nt nk e m : Nat} (hI : Inv r ne nt nk) (he : e < ne) (hm : m < nt) (hh : ¬ r (146 + 100 * 0 + 10 * m + e) = MISS) : -200000 ≤ (mE r e m).toInt ∧ (mE r e m).toInt ≤ 200000 := by
  have hne := hI.e0
  have hr := (hI.rb hm (by omega : e < 10)).resolve_left hh
  obtain ⟨c0, c1, c3⟩ := hI.come (k := 0) (by omega) hm
  have hf := far_b c0 (hI.pl he)
  have hp := mul_bd (a := (r (46 + 50 * 0 + 5 * m + 3)).toInt) (b := (far (r (46 + 50 * 0 + 5 * m + 0)) (r (6 + 4 * e + 0))).toInt) (A := 20) (B := 1000) (by omega) (by omega) (by omega) (by omega)
  unfold mE
  have e1 := i32m (x := r (46 + 50 * 0 + 5 * m + 3)) (y := far (r (46 + 50 * 0 + 5 * m + 0)) (r (6 + 4 * e + 0))) (by omega) (by omega)
  have e2 := i32a (x := r (46 + 50 * 0 + 5 * m + 1)) (y := r (46 + 50 * 0 + 5 * m + 3) * far (r (46 + 50 * 0 + 5 * m + 0)) (r (6 + 4 * e + 0))) (by rw [e1]; omega) (by rw [e1]; omega)
  rw [i32s (by rw [e2, e1]; omega) (by rw [e2, e1]; omega), e2, e1]
  omega
theorem mEr_b {r : Nat → Int32} {ne nt nk e j : Nat} (hI : Inv r ne nt nk) (he : e < ne) (hj : j < mC r e nt) : -200000 ≤ (mEr r e nt j).toInt ∧ (mEr r e nt j).toInt ≤ 200000 := by
  obtain ⟨m, h1, h2, h3, h4⟩ := mRd_in nt j hj
  rw [h4]
  exact mE_b hI he h1 h3
theorem lit1000 : (1000 : Int64).toInt = 1000 := by decide
theorem k1000 {x : Int32} {A : Int} (h1 : -A ≤ x.toInt) (h2 : x.toInt ≤ A) (hA : A ≤ 2147483648) : (1000 * x.toInt64).toInt = 1000 * x.toInt := by
  have e := Int32.toInt_toInt64 x
  rw [i64m (by rw [lit1000, e]; omega) (by rw [lit1000, e]; omega), lit1000, e]
theorem errR_b {r : Nat → Int32} {ne nt nk e : Nat} {c : Int32} (hI : Inv r ne nt nk) (he : e < ne) (hc : -10000 ≤ c.toInt ∧ c.toInt ≤ 300000) : -200000000000000 ≤ (errR r e nt c).toInt ∧ (errR r e nt c).toInt ≤ 200000000000000 := by
  have hne := hI.e0
  unfold errR eA
  by_cases h2 : mC r e nt < 2
  · rw [if_pos h2]
    by_cases h0 : mC r e nt = 0
    · rw [if_pos h0]
      decide
    · rw [if_neg h0]
      have hb := mEr_b hI he (j := 0) (by omega)
      rw [k1000 (A := 200000) (by omega) (by omega) (by omega)]
      omega
  · rw [if_neg h2]
    have hk := fI_le (R := mRd r e nt) (c := c) (mC r e nt - 2)
    generalize fI (mRd r e nt) c (mC r e nt - 2) = k at hk ⊢
    have b0 := mEr_b hI he (j := k) (by omega)
    have b1 := mEr_b hI he (j := k + 1) (by omega)
    have d0 := mRd_b hI (by omega : e < 10) (j := k) (by omega)
    have d1 := mRd_b hI (by omega : e < 10) (j := k + 1) (by omega)
    have hm := mRd_mono nt k (by omega : k + 1 < mC r e nt)
    have hw := df_nz d0 d1 hm
    rw [Int32.lt_iff_toInt_lt] at hm
    have e1 : (mEr r e nt (k + 1) - mEr r e nt k).toInt = (mEr r e nt (k + 1)).toInt - (mEr r e nt k).toInt := i32s (by omega) (by omega)
    have e2 : (c - mRd r e nt k).toInt = c.toInt - (mRd r e nt k).toInt := i32s (by omega) (by omega)
    have e3 : (1000 * (mEr r e nt (k + 1) - mEr r e nt k).toInt64).toInt = 1000 * ((mEr r e nt (k + 1)).toInt - (mEr r e nt k).toInt) := by
      rw [k1000 (A := 400000) (by rw [e1]; omega) (by rw [e1]; omega) (by omega), e1]
    have hp := mul_bd (a := 1000 * ((mEr r e nt (k + 1)).toInt - (mEr r e nt k).toInt)) (b := c.toInt - (mRd r e nt k).toInt) (A := 400000000) (B := 450000) (by omega) (by omega) (by omega) (by omega)
    have e4 : (1000 * (mEr r e nt (k + 1) - mEr r e nt k).toInt64 * (c - mRd r e nt k).toInt64).toInt = 1000 * ((mEr r e nt (k + 1)).toInt - (mEr r e nt k).toInt) * (c.toInt - (mRd r e nt k).toInt) := by
      rw [i64m (by rw [e3, Int32.toInt_toInt64, e2]; omega) (by rw [e3, Int32.toInt_toInt64, e2]; omega), e3, Int32.toInt_toInt64, e2]
    have e5 : (mRd r e nt (k + 1) - mRd r e nt k).toInt64.toInt = (mRd r e nt (k + 1)).toInt - (mRd r e nt k).toInt := by rw [Int32.toInt_toInt64, hw.1]
    have e6 := dn_toInt (u := 1000 * (mEr r e nt (k + 1) - mEr r e nt k).toInt64 * (c - mRd r e nt k).toInt64) (l := (mRd r e nt (k + 1) - mRd r e nt k).toInt64) (by rw [e5]; omega)
    have hq := ediv_bd (a := (1000 * (mEr r e nt (k + 1) - mEr r e nt k).toInt64 * (c - mRd r e nt k).toInt64).toInt) (b := (mRd r e nt (k + 1) - mRd r e nt k).toInt64.toInt) (A := 180000000000000) (by rw [e5]; omega) (by omega) (by rw [e4]; omega) (by rw [e4]; omega)
    rw [← e6] at hq
    have e7 := k1000 (x := mEr r e nt k) (A := 200000) (by omega) (by omega) (by omega)
    rw [i64a (by rw [e7]; omega) (by rw [e7]; omega), e7]
    omega
theorem rgt_b {r : Nat → Int32} {ne nt nk kn e : Nat} (hI : Inv r ne nt nk) (he : e < ne) (hk : kn < nk) (hh : ¬ r (146 + 100 * 1 + 10 * kn + e) = MISS) : -300000000000000 ≤ (rgt r nt kn e).toInt ∧ (rgt r nt kn e).toInt ≤ 300000000000000 := by
  have hne := hI.e0
  have hr := (hI.rb1 hk (by omega : e < 10)).resolve_left hh
  have hb := errR_b hI he (c := r (146 + 100 * 1 + 10 * kn + e)) (by omega)
  have e7 := k1000 (x := r (146 + 100 * 1 + 10 * kn + e)) (A := 130000) (by omega) (by omega) (by omega)
  unfold rgt
  rw [i64s (by rw [e7]; omega) (by rw [e7]; omega), e7]
  omega
theorem bg_b {r : Nat → Int32} {ne nt nk kn e : Nat} {x : Int32} (hI : Inv r ne nt nk) (he : e < ne) (hk : kn < nk) (hh : ¬ r (146 + 100 * 1 + 10 * kn + e) = MISS) (hx : 0 ≤ x.toInt ∧ x.toInt ≤ 1000) : -400000000000000 ≤ (bg r nt kn x e).toInt ∧ (bg r nt kn x e).toInt ≤ 400000000000000 := by
  have hb := rgt_b hI he hk hh
  obtain ⟨c0, c1, c3⟩ := hI.come (k := 1) (m := kn) (by omega) hk
  have hf := far_b hx (hI.pl he)
  have e1 := k1000 (x := r (46 + 50 * 1 + 5 * kn + 3)) (A := 20) (by omega) (by omega) (by omega)
  have hp := mul_bd (a := 1000 * (r (46 + 50 * 1 + 5 * kn + 3)).toInt) (b := (far x (r (6 + 4 * e + 0))).toInt) (A := 20000) (B := 1000) (by omega) (by omega) (by omega) (by omega)
  have e2 : (1000 * (r (46 + 50 * 1 + 5 * kn + 3)).toInt64 * (far x (r (6 + 4 * e + 0))).toInt64).toInt = 1000 * (r (46 + 50 * 1 + 5 * kn + 3)).toInt * (far x (r (6 + 4 * e + 0))).toInt := by
    rw [i64m (by rw [e1, Int32.toInt_toInt64]; omega) (by rw [e1, Int32.toInt_toInt64]; omega), e1, Int32.toInt_toInt64]
  unfold bg
  rw [i64s (by rw [e2]; omega) (by rw [e2]; omega), e2]
  omega
theorem mnF_in {b : Nat → Int64} : ∀ n, ∃ j, j ≤ n ∧ mnF b n = b j
  | 0 => ⟨0, Nat.le_refl _, rfl⟩
  | n + 1 => by
    unfold mnF
    split
    · exact ⟨n + 1, Nat.le_refl _, rfl⟩
    · obtain ⟨j, h1, h2⟩ := mnF_in (b := b) n
      exact ⟨j, by omega, h2⟩
theorem mxF_in {b : Nat → Int64} : ∀ n, ∃ j, j ≤ n ∧ mxF b n = b j
  | 0 => ⟨0, Nat.le_refl _, rfl⟩
  | n + 1 => by
    unfold mxF
    split
    · exact ⟨n + 1, Nat.le_refl _, rfl⟩
    · obtain ⟨j, h1, h2⟩ := mxF_in (b := b) n
      exact ⟨j, by omega, h2⟩
theorem lsB_b {r : Nat → Int32} {ne nt nk kn : Nat} {x : Int32} (hV : Inv r ne nt nk) (hk : kn < nk) (hc : 0 < hC r kn ne) (hx : 0 ≤ x.toInt ∧ x.toInt ≤ 1000) : (-400000000000000 ≤ (lsB r nt kn x ne).toInt ∧ (lsB r nt kn x ne).toInt ≤ 400000000000000) ∧ (-400000000000000 ≤ (msB r nt kn x ne).toInt ∧ (msB r nt kn x ne).toInt ≤ 400000000000000) := by
  constructor
  · obtain ⟨j, h1, h2⟩ := mnF_in (b := fun i => bg r nt kn x (hI r kn ne i)) (hC r kn ne - 1)
    unfold lsB
    rw [h2]
    have := hI_in ne j (by omega : j < hC r kn ne)
    exact bg_b hV this.1 hk this.2 hx
  · obtain ⟨j, h1, h2⟩ := mxF_in (b := fun i => bg r nt kn x (hI r kn ne i)) (hC r kn ne - 1)
    unfold msB
    rw [h2]
    have := hI_in ne j (by omega : j < hC r kn ne)
    exact bg_b hV this.1 hk this.2 hx
theorem tmK_b {r : Nat → Int32} {ne nt nk kn : Nat} {x : Int32} (hV : Inv r ne nt nk) (hk : kn < nk) (hc : 0 < hC r kn ne) (hx : 0 ≤ x.toInt ∧ x.toInt ≤ 1000) : -800000000000000 ≤ (tmK r ne nt kn x).toInt ∧ (tmK r ne nt kn x).toInt ≤ 800000000000000 := by
  have hb := lsB_b hV hk hc hx
  have e1 : (lsB r nt kn x ne + msB r nt kn x ne).toInt = (lsB r nt kn x ne).toInt + (msB r nt kn x ne).toInt := i64a (by omega) (by omega)
  have l2 : (2 : Int64).toInt = 2 := by decide
  unfold tmK
  rw [dn_toInt (by rw [l2]; omega), l2, e1]
  omega
theorem ab_nn {r : Nat → Int32} {ne nt nk kn e : Nat} {x : Int32} (hV : Inv r ne nt nk) (hk : kn < nk) (hc : 0 < hC r kn ne) (hx : 0 ≤ x.toInt ∧ x.toInt ≤ 1000) (he : e < ne) (hh : ¬ r (146 + 100 * 1 + 10 * kn + e) = MISS) : -1 < ab64 (bg r nt kn x e - tmK r ne nt kn x) := by
  have h1 := tmK_b hV hk hc hx
  have h2 := bg_b hV he hk hh hx
  have e1 : (bg r nt kn x e - tmK r ne nt kn x).toInt = (bg r nt kn x e).toInt - (tmK r ne nt kn x).toInt := i64s (by omega) (by omega)
  have l0 : (0 : Int64).toInt = 0 := by decide
  have l1 : (-1 : Int64).toInt = -1 := by decide
  rw [Int64.lt_iff_toInt_lt, l1]
  unfold ab64
  split
  · rename_i h
    rw [Int64.lt_iff_toInt_lt, l0, e1] at h
    have e2 : (-(bg r nt kn x e - tmK r ne nt kn x)).toInt = -((bg r nt kn x e).toInt - (tmK r ne nt kn x).toInt) := by
      rw [Int64.toInt_neg, e1]
      apply Int.bmod_eq_of_le <;> omega
    rw [e2]
    omega
  · rename_i h
    rw [Int64.lt_iff_toInt_lt, l0] at h
    omega
theorem plcN_le {r : Nat → Int32} {ne nt kn : Nat} (n : Nat) : plcN r ne nt kn n ≤ n := (bsF_le n).1
theorem plc_b {r : Nat → Int32} {ne nt kn : Nat} : plc r ne nt kn ≤ 1000 := plcN_le 1000
theorem plc_i {r : Nat → Int32} {ne nt kn : Nat} : 0 ≤ (nI (plc r ne nt kn)).toInt ∧ (nI (plc r ne nt kn)).toInt ≤ 1000 := by
  have := plc_b (r := r) (ne := ne) (nt := nt) (kn := kn)
  rw [nI_toInt (by omega)]
  omega
theorem wrE_b {r : Nat → Int32} {ne nt kn : Nat} {x : Int32} {t : Int64} (hc : 0 < hC r kn ne) : wrE r ne nt kn x t < ne := by
  have h := wsF_le (a := fun i => ab64 (bg r nt kn x (hI r kn ne i) - t)) (hC r kn ne - 1)
  unfold wrE
  refine (hI_in ne _ ?_).1
  show (wsF _ _).1 < _
  omega
