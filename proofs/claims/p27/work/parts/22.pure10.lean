theorem wsJ_f {r : Nat → Int32} {nt kn i : Nat} {xx : Int32} {t fv av : Int64} {wv : Int32} (hw : (hC r kn i = 0 ∧ wv = -5 ∧ fv = -1) ∨ (0 < hC r kn i ∧ wv = nI (hI r kn i (wsA r nt kn xx t i).1) ∧ fv = (wsA r nt kn xx t i).2)) (h : ¬ r (146 + 100 * 1 + 10 * kn + i) = MISS) (hv : -1 < av) (ha : av = ab64 (bg r nt kn xx i - t)) (hc : av ≤ fv) :
    (hC r kn (i + 1) = 0 ∧ wv = -5 ∧ fv = -1) ∨ (0 < hC r kn (i + 1) ∧ wv = nI (hI r kn (i + 1) (wsA r nt kn xx t (i + 1)).1) ∧ fv = (wsA r nt kn xx t (i + 1)).2) := by
  rcases hw with ⟨-, -, h3⟩ | ⟨h1, h2, h3⟩
  · rw [h3] at hc
    exact absurd hv (Int64.not_lt.mpr hc)
  · right
    obtain ⟨w1, w2, w3⟩ := wsA_t (t := t) (x := xx) (nt := nt) h h1
    rw [h3, ha] at hc
    rw [if_neg (Int64.not_lt.mpr hc)] at w1
    rw [w1, w3, (hF_t h).1]
    exact ⟨by omega, h2, h3⟩
theorem wsJ_t {r : Nat → Int32} {nt kn i : Nat} {xx : Int32} {t fv av : Int64} {wv : Int32} (hw : (hC r kn i = 0 ∧ wv = -5 ∧ fv = -1) ∨ (0 < hC r kn i ∧ wv = nI (hI r kn i (wsA r nt kn xx t i).1) ∧ fv = (wsA r nt kn xx t i).2)) (h : ¬ r (146 + 100 * 1 + 10 * kn + i) = MISS) (_ : -1 < av) (ha : av = ab64 (bg r nt kn xx i - t)) (hc : ¬ av ≤ fv) :
    (hC r kn (i + 1) = 0 ∧ nI i = -5 ∧ av = -1) ∨ (0 < hC r kn (i + 1) ∧ nI i = nI (hI r kn (i + 1) (wsA r nt kn xx t (i + 1)).1) ∧ av = (wsA r nt kn xx t (i + 1)).2) := by
  right
  rw [(hF_t h).1]
  rcases hw with ⟨h1, -, -⟩ | ⟨h1, h2, h3⟩
  · obtain ⟨w1, w2⟩ := wsA_0 (t := t) (x := xx) (nt := nt) h h1
    rw [w1]
    exact ⟨by omega, by rw [w2], ha⟩
  · obtain ⟨w1, w2, w3⟩ := wsA_t (t := t) (x := xx) (nt := nt) h h1
    rw [h3, ha] at hc
    rw [if_pos (Int64.not_le.mp hc)] at w1
    rw [w1]
    exact ⟨by omega, by rw [w2], ha⟩
