theorem in02 {x : Int32} (h : 0 ≤ x ∧ x ≤ 2) : x = 0 ∨ x = 1 ∨ x = 2 := by
  obtain ⟨h1, h2⟩ := h
  rw [Int32.le_iff_toInt_le] at h1 h2
  have e0 : (0 : Int32).toInt = 0 := by decide
  have e1 : (1 : Int32).toInt = 1 := by decide
  have e2 : (2 : Int32).toInt = 2 := by decide
  rw [← Int32.toInt_inj, ← Int32.toInt_inj, ← Int32.toInt_inj, e0, e1, e2]
  omega
theorem sFound_4 {r : Nat → Int32} {ne nt nk k : Nat} (hk : k < nk) (hnk : nk ≤ 10) (h2 : ¬ hC r k ne < 2) : sFound r ne nt nk (nI k) 4 = (if spW r ne nt k (nI (plc r ne nt k)) ≤ 1000 * (r 4).toInt64 then 1 else 0) := by
  unfold sFound
  rw [if_neg (ixN hk (by omega)), nI_c (by omega), if_neg (by decide), if_neg (by decide), if_neg h2, if_neg (by decide), if_neg (by decide), if_neg (by decide), if_pos rfl]
theorem fitN_t {r : Nat → Int32} {ne nt nk k : Nat} (hk : k < nk) (hnk : nk ≤ 10) (h2 : ¬ hC r k ne ≤ 1) (h : sFound r ne nt nk (nI k) 4 = 1) : nI (fitN r ne nt k) + 1 = nI (fitN r ne nt (k + 1)) := by
  rw [sFound_4 hk hnk (by omega)] at h
  have hs : spW r ne nt k (nI (plc r ne nt k)) ≤ 1000 * (r 4).toInt64 := by
    by_cases q : spW r ne nt k (nI (plc r ne nt k)) ≤ 1000 * (r 4).toInt64
    · exact q
    · rw [if_neg q] at h; exact absurd h (by decide)
  show _ = nI (fitN r ne nt k + _)
  rw [if_pos ⟨by omega, hs⟩, nI_1]
theorem fitN_f {r : Nat → Int32} {ne nt nk k : Nat} (hk : k < nk) (hnk : nk ≤ 10) (h : hC r k ne ≤ 1 ∨ ¬ sFound r ne nt nk (nI k) 4 = 1) : nI (fitN r ne nt k) + 0 = nI (fitN r ne nt (k + 1)) := by
  show _ = nI (fitN r ne nt k + _)
  rw [if_neg]
  · simp
  · intro hh
    rcases h with h | h
    · omega
    · apply h
      rw [sFound_4 hk hnk hh.1, if_pos hh.2]
theorem fitN_le {r : Nat → Int32} {ne nt : Nat} : ∀ k, fitN r ne nt k ≤ k
  | 0 => Nat.le_refl _
  | k + 1 => by
    have := fitN_le (r := r) (ne := ne) (nt := nt) k
    unfold fitN
    split <;> omega
