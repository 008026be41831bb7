theorem mkS_ok {r : Nat → Int32} {ne k m : Nat} {p t c : Int32} (hk : k < 2) (h : ¬ (mkS r ne k m p t c).1 < 0) : (mkS r ne k m p t c).2 = mkR r ne k m p t c ∧ ¬ m = 10 := by
  unfold mkS at h ⊢
  by_cases h1 : (0 ≤ p ∧ p ≤ 1000) ∧ (0 ≤ t ∧ t ≤ 100000) ∧ (1 ≤ c ∧ c ≤ 1000)
  · rw [if_pos h1] at h ⊢
    by_cases h2 : t < r 5
    · rw [if_pos h2] at h
      exact absurd (show (-4 : Int32) < 0 by decide) h
    · rw [if_neg h2] at h ⊢
      by_cases h3 : m = 10
      · rw [if_pos h3] at h
        exact absurd (show (-4 : Int32) < 0 by decide) h
      · rw [if_neg h3]
        exact ⟨rfl, h3⟩
  · rw [if_neg h1] at h
    exact absurd (show (-2 : Int32) < 0 by decide) h
theorem mkR_0 {r : Nat → Int32} {ne k m : Nat} {p t c : Int32} : mkR r ne k m p t c 0 = r 0 := by
  unfold mkR; rw [upd_n (by omega), upd_n (by omega)]; exact stg_lo (by omega) _
theorem mkR_s {r : Nat → Int32} {ne k m : Nat} {p t c : Int32} (hk : k < 2) : mkR r ne k m p t c (1 + k) = nI (m + 1) := by
  unfold mkR; rw [upd_n (by omega), upd_s]
theorem mkR_o {r : Nat → Int32} {ne k m j : Nat} {p t c : Int32} (hj : j < 46) (h1 : j ≠ 1 + k) (h2 : j ≠ 5) : mkR r ne k m p t c j = r j := by
  unfold mkR; rw [upd_n h2, upd_n h1]; exact stg_lo hj _
/-- the counts behind an order that was done -/
theorem mkS_cnt {r : Nat → Int32} {ne k nt nk : Nat} {p t c : Int32} (hk : k < 2) (h : ¬ (mkS r ne k (if k = 0 then nt else nk) p t c).1 < 0) (h0 : r 0 = nI ne) (h1 : r 1 = nI nt) (h2 : r 2 = nI nk) (hnt : nt ≤ 10) (hnk : nk ≤ 10) :
    (mkS r ne k (if k = 0 then nt else nk) p t c).2 0 = nI ne ∧ (mkS r ne k (if k = 0 then nt else nk) p t c).2 1 = nI (if k = 0 then nt + 1 else nt) ∧ (mkS r ne k (if k = 0 then nt else nk) p t c).2 2 = nI (if k = 0 then nk else nk + 1) ∧ (if k = 0 then nt + 1 else nt) ≤ 10 ∧ (if k = 0 then nk else nk + 1) ≤ 10 := by
  obtain ⟨e, hm⟩ := mkS_ok hk h
  rw [e]
  rcases (show k = 0 ∨ k = 1 by omega) with rfl | rfl
  · simp only [if_pos] at hm ⊢
    exact ⟨mkR_0.trans h0, mkR_s (by omega), (mkR_o (by omega) (by omega) (by omega)).trans h2, by omega, hnk⟩
  · simp only [show ¬ (1 = 0) by omega, if_false] at hm ⊢
    exact ⟨mkR_0.trans h0, (mkR_o (by omega) (by omega) (by omega)).trans h1, mkR_s (by omega), hnt, by omega⟩
theorem rl_neg {ne k nt nk : Nat} {p t c : Int32} {os : List Ord} {r : Nat → Int32} (h : (mkS r ne k (if k = 0 then nt else nk) p t c).1 < 0) : rl ne ((k, p, t, c) :: os) r nt nk = mkS r ne k (if k = 0 then nt else nk) p t c := by
  unfold rl; rw [if_pos h]
theorem rl_pos {ne k nt nk : Nat} {p t c : Int32} {os : List Ord} {r : Nat → Int32} (h : ¬ (mkS r ne k (if k = 0 then nt else nk) p t c).1 < 0) : rl ne ((k, p, t, c) :: os) r nt nk = rl ne os (mkS r ne k (if k = 0 then nt else nk) p t c).2 (if k = 0 then nt + 1 else nt) (if k = 0 then nk else nk + 1) := by
  conv => lhs; unfold rl
  rw [if_neg h]
theorem rl_nil {ne nt nk : Nat} {r : Nat → Int32} : rl ne [] r nt nk = (0, r) := rfl
theorem prs_ne {tx : Nat → Int32} {ln f p q : Nat} {o : Ord} (h : ordP tx ln p = (q, some o)) : ∃ os, (prs tx ln (f + 1) p).1 = o :: os := by
  by_cases h2 : q < ln ∧ tx q = 59
  · exact ⟨_, by rw [prs_c h h2]⟩
  · exact ⟨_, by rw [prs_e h h2]⟩
