theorem ordQ_a {tx : Nat → Int32} {ln k p : Nat} (h : numV tx ln p < 0) : ordQ tx ln k p = (numP tx ln p, none) := by
  have h := numV_lt h
  unfold ordQ
  rw [if_neg h, numP_no h]
theorem ordQ_b {tx : Nat → Int32} {ln k p : Nat} (h : ¬ numV tx ln p < 0) (h2 : ¬ (numP tx ln p < ln ∧ tx (numP tx ln p) = 64)) : ordQ tx ln k p = (numP tx ln p, none) := by
  unfold ordQ
  rw [if_pos (numV_ge h), if_neg h2]
theorem ordQ_c {tx : Nat → Int32} {ln k p : Nat} (h : ¬ numV tx ln p < 0) (h2 : numP tx ln p < ln ∧ tx (numP tx ln p) = 64) (h3 : numV tx ln (numP tx ln p + 1) < 0) : ordQ tx ln k p = (numP tx ln (numP tx ln p + 1), none) := by
  unfold ordQ
  have h3 := numV_lt h3
  rw [if_pos (numV_ge h), if_pos h2, if_neg h3, numP_no h3]
theorem ordQ_d {tx : Nat → Int32} {ln k p : Nat} (h : ¬ numV tx ln p < 0) (h2 : numP tx ln p < ln ∧ tx (numP tx ln p) = 64) (h3 : ¬ numV tx ln (numP tx ln p + 1) < 0) (h4 : ¬ (numP tx ln (numP tx ln p + 1) < ln ∧ tx (numP tx ln (numP tx ln p + 1)) = 42)) : ordQ tx ln k p = (numP tx ln (numP tx ln p + 1), some (k, numV tx ln p, numV tx ln (numP tx ln p + 1), 1000)) := by
  unfold ordQ
  rw [if_pos (numV_ge h), if_pos h2, if_pos (numV_ge h3), if_neg h4]
theorem ordQ_e {tx : Nat → Int32} {ln k p : Nat} (h : ¬ numV tx ln p < 0) (h2 : numP tx ln p < ln ∧ tx (numP tx ln p) = 64) (h3 : ¬ numV tx ln (numP tx ln p + 1) < 0) (h4 : numP tx ln (numP tx ln p + 1) < ln ∧ tx (numP tx ln (numP tx ln p + 1)) = 42) (h5 : numV tx ln (numP tx ln (numP tx ln p + 1) + 1) < 0) : ordQ tx ln k p = (numP tx ln (numP tx ln (numP tx ln p + 1) + 1), none) := by
  unfold ordQ
  have h5 := numV_lt h5
  rw [if_pos (numV_ge h), if_pos h2, if_pos (numV_ge h3), if_pos h4, if_neg h5, numP_no h5]
theorem ordQ_f {tx : Nat → Int32} {ln k p : Nat} (h : ¬ numV tx ln p < 0) (h2 : numP tx ln p < ln ∧ tx (numP tx ln p) = 64) (h3 : ¬ numV tx ln (numP tx ln p + 1) < 0) (h4 : numP tx ln (numP tx ln p + 1) < ln ∧ tx (numP tx ln (numP tx ln p + 1)) = 42) (h5 : ¬ numV tx ln (numP tx ln (numP tx ln p + 1) + 1) < 0) : ordQ tx ln k p = (numP tx ln (numP tx ln (numP tx ln p + 1) + 1), some (k, numV tx ln p, numV tx ln (numP tx ln p + 1), numV tx ln (numP tx ln (numP tx ln p + 1) + 1))) := by
  unfold ordQ
  rw [if_pos (numV_ge h), if_pos h2, if_pos (numV_ge h3), if_pos h4, if_pos (numV_ge h5)]
theorem sees1 {ch x : Int32} : (ch ≤ x ∧ x ≤ ch) ↔ x = ch := ⟨fun h => Int32.le_antisymm h.2 h.1, fun h => by rw [h]; exact ⟨Int32.le_refl _, Int32.le_refl _⟩⟩
theorem ordP_t {tx : Nat → Int32} {ln p : Nat} (h : p < ln ∧ 116 ≤ tx p ∧ tx p ≤ 116) : ordP tx ln p = ordQ tx ln 0 (p + 1) := by
  unfold ordP
  rw [if_pos ⟨h.1, sees1.mp h.2⟩]
theorem ordP_k {tx : Nat → Int32} {ln p : Nat} (h : ¬ (p < ln ∧ 116 ≤ tx p ∧ tx p ≤ 116)) (h2 : p < ln ∧ 107 ≤ tx p ∧ tx p ≤ 107) : ordP tx ln p = ordQ tx ln 1 (p + 1) := by
  unfold ordP
  rw [if_neg (fun q => h ⟨q.1, sees1.mpr q.2⟩), if_pos ⟨h2.1, sees1.mp h2.2⟩]
theorem ordP_n {tx : Nat → Int32} {ln p : Nat} (h : ¬ (p < ln ∧ 116 ≤ tx p ∧ tx p ≤ 116)) (h2 : ¬ (p < ln ∧ 107 ≤ tx p ∧ tx p ≤ 107)) : ordP tx ln p = (p, none) := by
  unfold ordP
  rw [if_neg (fun q => h ⟨q.1, sees1.mpr q.2⟩), if_neg (fun q => h2 ⟨q.1, sees1.mpr q.2⟩)]
/-- what an order that is there has: a kind below 2, and how far it goes -/
theorem ordQ_s {tx : Nat → Int32} {ln k p q : Nat} {o : Ord} (hp : p ≤ ln) (h : ordQ tx ln k p = (q, some o)) : o.1 = k ∧ p < q ∧ q ≤ ln := by
  unfold ordQ at h
  repeat' split at h
  all_goals first | (cases h; done) | skip
  · rename_i h1 h2 h3 h4 h5
    obtain ⟨rfl, h⟩ := Prod.mk.injEq _ _ _ _ ▸ h
    cases h
    have a1 := numP_gt h1
    have a2 := numP_gt h3
    have a3 := numP_gt h5
    exact ⟨rfl, by omega, numP_le (by omega)⟩
  · rename_i h1 h2 h3 h4
    obtain ⟨rfl, h⟩ := Prod.mk.injEq _ _ _ _ ▸ h
    cases h
    have a1 := numP_gt h1
    have a2 := numP_gt h3
    exact ⟨rfl, by omega, numP_le (by omega)⟩
theorem ordP_s {tx : Nat → Int32} {ln p q : Nat} {o : Ord} (h : ordP tx ln p = (q, some o)) : o.1 < 2 ∧ p < q ∧ q ≤ ln := by
  unfold ordP at h
  split at h
  · rename_i h1
    have := ordQ_s (by omega) h
    omega
  · split at h
    · have := ordQ_s (by omega) h
      omega
    · cases h
theorem ordQ_n {tx : Nat → Int32} {ln k p q : Nat} (hp : p ≤ ln) (h : ordQ tx ln k p = (q, none)) : q ≤ ln := by
  unfold ordQ at h
  repeat' split at h
  all_goals first | (cases h; done) | skip
  · rename_i h1 h2 h3 h4 h5
    cases h
    omega
  · cases h
    omega
  · cases h
    exact numP_le (by omega)
  · cases h
    exact hp
theorem ordP_nl {tx : Nat → Int32} {ln p q : Nat} (hp : p ≤ ln) (h : ordP tx ln p = (q, none)) : q ≤ ln := by
  unfold ordP at h
  split at h
  · exact ordQ_n (by omega) h
  · split at h
    · exact ordQ_n (by omega) h
    · cases h; exact hp
theorem prs_n {tx : Nat → Int32} {ln f p q : Nat} (h : ordP tx ln p = (q, none)) : prs tx ln (f + 1) p = ([], some q) := by
  unfold prs; rw [h]
theorem prs_c {tx : Nat → Int32} {ln f p q : Nat} {o : Ord} (h : ordP tx ln p = (q, some o)) (h2 : q < ln ∧ tx q = 59) : prs tx ln (f + 1) p = (o :: (prs tx ln f (q + 1)).1, (prs tx ln f (q + 1)).2) := by
  conv => lhs; unfold prs
  rw [h]; exact if_pos h2
theorem prs_e {tx : Nat → Int32} {ln f p q : Nat} {o : Ord} (h : ordP tx ln p = (q, some o)) (h2 : ¬ (q < ln ∧ tx q = 59)) : prs tx ln (f + 1) p = ([o], if q < ln then some q else none) := by
  conv => lhs; unfold prs
  rw [h]; exact if_neg h2
