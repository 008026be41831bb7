/-! ===== marks ===== -/
def Rb (x : Int32) : Prop := x = MISS ∨ (-2000 ≤ x.toInt ∧ x.toInt ≤ 130000)
/-- what holds of a row: counts and bounds -/
def Inv (r : Nat → Int32) (ne nt nk : Nat) : Prop :=
  (r 0 = nI ne ∧ ne ≤ 10) ∧ (r 1 = nI nt ∧ nt ≤ 10) ∧ (r 2 = nI nk ∧ nk ≤ 10) ∧ (1 ≤ (r 3).toInt ∧ (r 3).toInt ≤ 20) ∧ (0 ≤ (r 4).toInt ∧ (r 4).toInt ≤ 500) ∧ (0 ≤ (r 5).toInt ∧ (r 5).toInt ≤ 100000) ∧
  (∀ e, e < ne → (0 ≤ (r (6 + 4 * e + 0)).toInt ∧ (r (6 + 4 * e + 0)).toInt ≤ 1000) ∧ (r (6 + 4 * e + 1) = 0 ∨ r (6 + 4 * e + 1) = 1) ∧ (-500 ≤ (r (6 + 4 * e + 2)).toInt ∧ (r (6 + 4 * e + 2)).toInt ≤ 500) ∧ (-50 ≤ (r (6 + 4 * e + 3)).toInt ∧ (r (6 + 4 * e + 3)).toInt ≤ 50)) ∧
  (∀ k m, k < 2 → m < (if k = 0 then nt else nk) → (0 ≤ (r (46 + 50 * k + 5 * m + 0)).toInt ∧ (r (46 + 50 * k + 5 * m + 0)).toInt ≤ 1000) ∧ (0 ≤ (r (46 + 50 * k + 5 * m + 1)).toInt ∧ (r (46 + 50 * k + 5 * m + 1)).toInt ≤ 100000) ∧ (1 ≤ (r (46 + 50 * k + 5 * m + 3)).toInt ∧ (r (46 + 50 * k + 5 * m + 3)).toInt ≤ 20) ∧ (r (46 + 50 * k + 5 * m + 4) = 0 ∨ r (46 + 50 * k + 5 * m + 4) = 1) ∧ ∀ e, e < 10 → Rb (r (146 + 100 * k + 10 * m + e)))
theorem Inv.h0 {r : Nat → Int32} {ne nt nk : Nat} (h : Inv r ne nt nk) : r 0 = nI ne := h.1.1
theorem Inv.e0 {r : Nat → Int32} {ne nt nk : Nat} (h : Inv r ne nt nk) : ne ≤ 10 := h.1.2
theorem Inv.h1 {r : Nat → Int32} {ne nt nk : Nat} (h : Inv r ne nt nk) : r 1 = nI nt := h.2.1.1
theorem Inv.e1 {r : Nat → Int32} {ne nt nk : Nat} (h : Inv r ne nt nk) : nt ≤ 10 := h.2.1.2
theorem Inv.h2 {r : Nat → Int32} {ne nt nk : Nat} (h : Inv r ne nt nk) : r 2 = nI nk := h.2.2.1.1
theorem Inv.e2 {r : Nat → Int32} {ne nt nk : Nat} (h : Inv r ne nt nk) : nk ≤ 10 := h.2.2.1.2
theorem Inv.rb {r : Nat → Int32} {ne nt nk : Nat} (h : Inv r ne nt nk) {m e : Nat} (hm : m < nt) (he : e < 10) : Rb (r (146 + 100 * 0 + 10 * m + e)) := (h.2.2.2.2.2.2.2 0 m (by omega) hm).2.2.2.2 e he
theorem Inv.rb1 {r : Nat → Int32} {ne nt nk : Nat} (h : Inv r ne nt nk) {m e : Nat} (hm : m < nk) (he : e < 10) : Rb (r (146 + 100 * 1 + 10 * m + e)) := (h.2.2.2.2.2.2.2 1 m (by omega) hm).2.2.2.2 e he
/-- does thump k give the ear e a mark that counts, behind c marks with the readings R -/
def mG (r : Nat → Int32) (e k c : Nat) (R : Nat → Int32) : Prop := ¬ r (146 + 100 * 0 + 10 * k + e) = MISS ∧ r (46 + 50 * 0 + 5 * k + 4) = 0 ∧ (c = 0 ∨ R (c - 1) < r (146 + 100 * 0 + 10 * k + e))
def mE (r : Nat → Int32) (e k : Nat) : Int32 := r (146 + 100 * 0 + 10 * k + e) - (r (46 + 50 * 0 + 5 * k + 1) + r (46 + 50 * 0 + 5 * k + 3) * far (r (46 + 50 * 0 + 5 * k + 0)) (r (6 + 4 * e + 0)))
def mF (r : Nat → Int32) (e : Nat) : Nat → Nat × (Nat → Int32) × (Nat → Int32) × (Nat → Int32)
  | 0 => (0, fun _ => 0, fun _ => 0, fun _ => 0)
  | k + 1 => if ¬ r (146 + 100 * 0 + 10 * k + e) = MISS ∧ r (46 + 50 * 0 + 5 * k + 4) = 0 ∧ ((mF r e k).1 = 0 ∨ (mF r e k).2.1 ((mF r e k).1 - 1) < r (146 + 100 * 0 + 10 * k + e)) then ((mF r e k).1 + 1, upd (mF r e k).2.1 (mF r e k).1 (r (146 + 100 * 0 + 10 * k + e)), upd (mF r e k).2.2.1 (mF r e k).1 (mE r e k), upd (mF r e k).2.2.2 (mF r e k).1 (nI k)) else mF r e k
def mC (r : Nat → Int32) (e k : Nat) : Nat := (mF r e k).1
def mRd (r : Nat → Int32) (e k : Nat) : Nat → Int32 := (mF r e k).2.1
def mEr (r : Nat → Int32) (e k : Nat) : Nat → Int32 := (mF r e k).2.2.1
def mTh (r : Nat → Int32) (e k : Nat) : Nat → Int32 := (mF r e k).2.2.2
def mH (r : Nat → Int32) (e k : Nat) (rd er th : Nat → Int32) : Prop := ∀ j, j < mC r e k → rd j = mRd r e k j ∧ er j = mEr r e k j ∧ th j = mTh r e k j
theorem mF_t {r : Nat → Int32} {e k : Nat} (h : mG r e k (mC r e k) (mRd r e k)) : mF r e (k + 1) = (mC r e k + 1, upd (mRd r e k) (mC r e k) (r (146 + 100 * 0 + 10 * k + e)), upd (mEr r e k) (mC r e k) (mE r e k), upd (mTh r e k) (mC r e k) (nI k)) := by
  conv => lhs; unfold mF
  exact if_pos h
theorem mF_f {r : Nat → Int32} {e k : Nat} (h : ¬ mG r e k (mC r e k) (mRd r e k)) : mF r e (k + 1) = mF r e k := by
  conv => lhs; unfold mF
  exact if_neg h
theorem mC_t {r : Nat → Int32} {e k : Nat} (h : mG r e k (mC r e k) (mRd r e k)) : mC r e (k + 1) = mC r e k + 1 := by
  show (mF r e (k + 1)).1 = _
  rw [mF_t h]
theorem mC_f {r : Nat → Int32} {e k : Nat} (h : ¬ mG r e k (mC r e k) (mRd r e k)) : mC r e (k + 1) = mC r e k := by
  show (mF r e (k + 1)).1 = _
  rw [mF_f h]; rfl
theorem mC_le {r : Nat → Int32} {e : Nat} : ∀ k, mC r e k ≤ k
  | 0 => Nat.le_refl _
  | k + 1 => by
    have := mC_le (r := r) (e := e) k
    by_cases h : mG r e k (mC r e k) (mRd r e k)
    · rw [mC_t h]; omega
    · rw [mC_f h]; omega
theorem mH_0 {r : Nat → Int32} {e : Nat} {rd er th : Nat → Int32} : mH r e 0 rd er th := fun j hj => absurd hj (Nat.not_lt_zero j)
theorem mH_f {r : Nat → Int32} {e k : Nat} {rd er th : Nat → Int32} (h : ¬ mG r e k (mC r e k) (mRd r e k)) (hH : mH r e k rd er th) : mH r e (k + 1) rd er th := by
  intro j hj
  rw [mC_f h] at hj
  unfold mRd mEr mTh
  rw [mF_f h]
  exact hH j hj
theorem mH_t {r : Nat → Int32} {e k : Nat} {rd er th : Nat → Int32} {x y : Int32} (h : mG r e k (mC r e k) (mRd r e k)) (hH : mH r e k rd er th) (hx : x = r (146 + 100 * 0 + 10 * k + e)) (hy : y = mE r e k) : mH r e (k + 1) (upd rd (mC r e k) x) (upd er (mC r e k) y) (upd th (mC r e k) (nI k)) := by
  intro j hj
  rw [mC_t h] at hj
  unfold mRd mEr mTh
  rw [mF_t h]
  by_cases q : j = mC r e k
  · subst q
    simp only [upd_s]
    exact ⟨hx, hy, trivial⟩
  · have := hH j (by omega)
    simp only [upd_n q]
    exact this
/-- the readings of marks grow; they are readings that were heard -/
theorem mRd_in {r : Nat → Int32} {e : Nat} : ∀ k j, j < mC r e k → ∃ m, m < k ∧ mRd r e k j = r (146 + 100 * 0 + 10 * m + e) ∧ ¬ r (146 + 100 * 0 + 10 * m + e) = MISS ∧ mEr r e k j = mE r e m
  | 0, j, h => absurd h (Nat.not_lt_zero j)
  | k + 1, j, h => by
    by_cases g : mG r e k (mC r e k) (mRd r e k)
    · rw [mC_t g] at h
      unfold mRd mEr
      rw [mF_t g]
      by_cases q : j = mC r e k
      · subst q
        exact ⟨k, by omega, by simp only [upd_s], g.1, by simp only [upd_s]⟩
      · obtain ⟨m, h1, h2, h3, h4⟩ := mRd_in (r := r) (e := e) k j (by omega)
        exact ⟨m, by omega, by simp only [upd_n q]; exact h2, h3, by simp only [upd_n q]; exact h4⟩
    · rw [mC_f g] at h
      unfold mRd mEr
      rw [mF_f g]
      obtain ⟨m, h1, h2, h3, h4⟩ := mRd_in k j h
      exact ⟨m, by omega, h2, h3, h4⟩
theorem mRd_mono {r : Nat → Int32} {e : Nat} : ∀ k j, j + 1 < mC r e k → mRd r e k j < mRd r e k (j + 1)
  | 0, j, h => absurd h (Nat.not_lt_zero _)
  | k + 1, j, h => by
    by_cases g : mG r e k (mC r e k) (mRd r e k)
    · rw [mC_t g] at h
      unfold mRd
      rw [mF_t g]
      by_cases q : j + 1 = mC r e k
      · have q2 : j ≠ mC r e k := by omega
        simp only [← q, upd_s]
        rw [upd_n (by omega)]
        have := g.2.2
        rcases this with h0 | h0
        · omega
        · rw [← q] at h0; exact h0
      · simp only [upd_n q]
        rw [upd_n (by omega)]
        exact mRd_mono k j (by omega)
    · rw [mC_f g] at h
      unfold mRd
      rw [mF_f g]
      exact mRd_mono k j h
/-- of the readings 1 .. m the last that is not greater than c, or 0 -/
def fI (R : Nat → Int32) (c : Int32) : Nat → Nat
  | 0 => 0
  | m + 1 => if R (m + 1) ≤ c then m + 1 else fI R c m
theorem fI_le {R : Nat → Int32} {c : Int32} : ∀ m, fI R c m ≤ m
  | 0 => Nat.le_refl _
  | m + 1 => by
    unfold fI
    split
    · exact Nat.le_refl _
    · exact Nat.le_trans (fI_le m) (by omega)
theorem mono_lt {R : Nat → Int32} {n : Nat} (hm : ∀ j, j + 1 < n → R j < R (j + 1)) : ∀ d i, i + d + 1 < n → R i < R (i + d + 1)
  | 0, i, h => hm i h
  | d + 1, i, h => Int32.lt_trans (mono_lt hm d i (by omega)) (hm (i + d + 1) (by omega))
theorem fI_ex {R : Nat → Int32} {c : Int32} {n k : Nat} (hm : ∀ j, j + 1 < n → R j < R (j + 1)) : ∀ m, m + 1 < n → k ≤ m → (k = 0 ∨ R k ≤ c) → (k = m ∨ c < R (k + 1)) → fI R c m = k
  | 0, h1, h2, h3, h4 => by
    unfold fI; omega
  | m + 1, h1, h2, h3, h4 => by
    unfold fI
    by_cases e : k = m + 1
    · subst e
      rw [if_pos (h3.elim (fun h => absurd h (by omega)) id)]
    · have hgt : c < R (k + 1) := h4.elim (fun h => absurd h e) id
      have hgt2 : c < R (m + 1) := by
        by_cases e2 : k = m
        · subst e2; exact hgt
        · have := mono_lt hm (m - k - 1) (k + 1) (by omega)
          rw [show k + 1 + (m - k - 1) + 1 = m + 1 by omega] at this
          exact Int32.lt_trans hgt this
      rw [if_neg (Int32.not_le.mpr hgt2)]
      exact fI_ex hm m (by omega) (by omega) h3 (by right; exact hgt)
def eA (n : Nat) (R Er : Nat → Int32) (c : Int32) : Int64 :=
  if n < 2 then (if n = 0 then 0 else 1000 * (Er 0).toInt64) else 1000 * (Er (fI R c (n - 2))).toInt64 + dn (1000 * (Er (fI R c (n - 2) + 1) - Er (fI R c (n - 2))).toInt64 * (c - R (fI R c (n - 2))).toInt64) ((R (fI R c (n - 2) + 1) - R (fI R c (n - 2))).toInt64)
/-- two readings apart: their difference is no 0 as a long -/
theorem df_nz {x y : Int32} (hx : -2000 ≤ x.toInt ∧ x.toInt ≤ 130000) (hy : -2000 ≤ y.toInt ∧ y.toInt ≤ 130000) (h : x < y) : (y - x).toInt = y.toInt - x.toInt ∧ ¬ (y - x).toInt64 = 0 := by
  rw [Int32.lt_iff_toInt_lt] at h
  have e : (y - x).toInt = y.toInt - x.toInt := by
    rw [Int32.toInt_sub]
    apply Int.bmod_eq_of_le <;> omega
  refine ⟨e, fun h0 => ?_⟩
  have h1 := congrArg Int64.toInt h0
  rw [Int32.toInt_toInt64, e] at h1
  have : (0 : Int64).toInt = 0 := by decide
  omega
theorem mRd_b {r : Nat → Int32} {ne nt nk e j : Nat} (hI : Inv r ne nt nk) (he : e < 10) (hj : j < mC r e nt) : -2000 ≤ (mRd r e nt j).toInt ∧ (mRd r e nt j).toInt ≤ 130000 := by
  obtain ⟨m, h1, h2, h3, -⟩ := mRd_in nt j hj
  rw [h2]
  rcases hI.rb h1 he with h | h
  · exact absurd h h3
  · exact h
