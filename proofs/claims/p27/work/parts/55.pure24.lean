/-! ===== orders, looked at and done ===== -/
def rfL : List Ord → Nat → Nat → Int32 → Int32
  | [], _, _, _ => 0
  | (k, p, t, c) :: os, nt, nk, l => if rfS p t c l (if k = 0 then nt else nk) = 0 then rfL os (if k = 0 then nt + 1 else nt) (if k = 0 then nk else nk + 1) t else rfS p t c l (if k = 0 then nt else nk)
theorem rfS_m {p t c l : Int32} {n : Nat} (h : rfS p t c l n = 0) : n < 10 := (rfS_0 h).2.2
theorem rfL_t {k nt nk : Nat} {p t c l : Int32} {os : List Ord} (h : rfS p t c l (if k = 0 then nt else nk) = 0) : rfL ((k, p, t, c) :: os) nt nk l = rfL os (if k = 0 then nt + 1 else nt) (if k = 0 then nk else nk + 1) t := by
  conv => lhs; unfold rfL
  rw [if_pos h]
theorem rfL_f {k nt nk : Nat} {p t c l : Int32} {os : List Ord} (h : ¬ rfS p t c l (if k = 0 then nt else nk) = 0) : rfL ((k, p, t, c) :: os) nt nk l = rfS p t c l (if k = 0 then nt else nk) := by
  conv => lhs; unfold rfL
  rw [if_neg h]
theorem cntO {k nt nk : Nat} (h : (if k = 0 then nt else nk) < 10) (h1 : nt ≤ 10) (h2 : nk ≤ 10) : (if k = 0 then nt + 1 else nt) ≤ 10 ∧ (if k = 0 then nk else nk + 1) ≤ 10 := by
  by_cases q : k = 0
  · simp only [if_pos q] at h ⊢; omega
  · simp only [if_neg q] at h ⊢; omega
theorem cntL {k nt nk : Nat} (h1 : nt ≤ 10) (h2 : nk ≤ 10) : (if k = 0 then nt else nk) ≤ 10 := by split <;> omega
theorem rl_t {ne k nt nk : Nat} {p t c : Int32} {os : List Ord} {r : Nat → Int32} (h1 : nt ≤ 10) (h2 : nk ≤ 10) (h : rfS p t c (r 5) (if k = 0 then nt else nk) = 0) : rl ne ((k, p, t, c) :: os) r nt nk = rl ne os (mkR r ne k (if k = 0 then nt else nk) p t c) (if k = 0 then nt + 1 else nt) (if k = 0 then nk else nk + 1) := by
  have e := mkS_rf (r := r) (ne := ne) (k := k) (p := p) (t := t) (c := c) (cntL (k := k) h1 h2)
  rw [if_pos h] at e
  rw [rl_pos (by rw [e]; exact hcnt_nn r ne p c), e]
/-- orders of which one is refused -/
theorem rl_n {ne : Nat} : ∀ (os : List Ord) (r : Nat → Int32) (nt nk : Nat), nt ≤ 10 → nk ≤ 10 → ¬ rfL os nt nk (r 5) = 0 → (rl ne os r nt nk).1 = rfL os nt nk (r 5) ∧ rfL os nt nk (r 5) < 0
  | [], r, nt, nk, _, _, h => absurd rfl h
  | (k, p, t, c) :: os, r, nt, nk, h1, h2, h => by
    by_cases q : rfS p t c (r 5) (if k = 0 then nt else nk) = 0
    · rw [rfL_t q] at h ⊢
      rw [rl_t h1 h2 q]
      have hc := cntO (rfS_m q) h1 h2
      have := rl_n (ne := ne) os (mkR r ne k (if k = 0 then nt else nk) p t c) _ _ hc.1 hc.2 (by rw [mkR_5]; exact h)
      rw [mkR_5] at this
      exact this
    · rw [rfL_f q] at h ⊢
      have e := mkS_rf (r := r) (ne := ne) (k := k) (p := p) (t := t) (c := c) (cntL (k := k) h1 h2)
      rw [if_neg q] at e
      have hlt := (rfS_c p t c (r 5) (if k = 0 then nt else nk)).resolve_left q
      rw [rl_neg (by rw [e]; exact hlt), e]
      exact ⟨rfl, hlt⟩
theorem prs_k {tx : Nat → Int32} {ln : Nat} : ∀ f p o, o ∈ (prs tx ln f p).1 → o.1 < 2
  | 0, p, o, h => by unfold prs at h; simp at h
  | f + 1, p, o, h => by
    rcases ho : ordP tx ln p with ⟨q, _ | o2⟩
    · rw [prs_n ho] at h; simp at h
    · have h2 := (ordP_s ho).1
      by_cases hc : q < ln ∧ tx q = 59
      · rw [prs_c ho hc] at h
        rcases List.mem_cons.mp h with h | h
        · rw [h]; exact h2
        · exact prs_k f _ o h
      · rw [prs_e ho hc] at h
        simp at h
        rw [h]; exact h2
/-- the order i of the arrays -/
theorem ord_at {os os2 : List Ord} {ar pla ti re : Nat → Int32} {i n : Nat} (hO : oH os ar pla ti re) (hl : os.length = n) (hi : i < n) (hd : os.drop i = os2) : ∃ k os3, os2 = (k, pla i, ti i, re i) :: os3 ∧ os.drop (i + 1) = os3 ∧ ar i = (if k = 0 then 1 else 0) ∧ (k, pla i, ti i, re i) ∈ os := by
  subst hl
  subst hd
  have hg : os[i]? = some os[i] := List.getElem?_eq_getElem hi
  have h := hO i os[i] hg
  rcases ho : os[i] with ⟨k, p, t, c⟩
  rw [ho] at h
  simp only at h
  refine ⟨k, os.drop (i + 1), ?_, rfl, h.1, ?_⟩
  · rw [List.drop_eq_getElem_cons hi, ho, h.2.1, h.2.2.1, h.2.2.2]
  · rw [h.2.1, h.2.2.1, h.2.2.2, ← ho]; exact List.getElem_mem hi
theorem ord_end {os os2 : List Ord} {i n : Nat} (hl : os.length = n) (hi : n ≤ i) (hd : os.drop i = os2) : os2 = [] := by
  subst hl
  rw [← hd]
  exact List.drop_eq_nil_of_le hi
theorem sRead_q {r : Nat → Int32} {ne nt nk : Nat} {tx : Nat → Int32} {ln q : Nat} (h : (prs tx ln 61 0).2 = some q) : sRead r ne nt nk tx ln = (-100 - nI q, none) := by
  unfold sRead; rw [h]
theorem sRead_n {r : Nat → Int32} {ne nt nk : Nat} {tx : Nat → Int32} {ln : Nat} {os : List Ord} (hos : (prs tx ln 61 0).1 = os) (h : (prs tx ln 61 0).2 = none) (h1 : nt ≤ 10) (h2 : nk ≤ 10) (hr : ¬ rfL os nt nk (r 5) = 0) : sRead r ne nt nk tx ln = (rfL os nt nk (r 5), none) := by
  unfold sRead
  rw [h, hos]
  have := rl_n (ne := ne) os r nt nk h1 h2 hr
  show (if (rl ne os r nt nk).1 < 0 then _ else _) = _
  rw [this.1, if_pos this.2]
theorem sRead_s {r r2 : Nat → Int32} {ne nt nk : Nat} {tx : Nat → Int32} {ln : Nat} {os : List Ord} (hos : (prs tx ln 61 0).1 = os) (h : (prs tx ln 61 0).2 = none) (hr : rl ne os r nt nk = (0, r2)) : sRead r ne nt nk tx ln = (nI os.length, some r2) := by
  unfold sRead
  rw [h, hos]
  show (if (rl ne os r nt nk).1 < 0 then _ else _) = _
  rw [hr]
  exact if_neg (show ¬ (0 : Int32) < 0 by decide)
theorem nI_m1 {n : Nat} (h : n ≤ 60) : ¬ nI n = -1 := by
  intro e
  have e2 := congrArg Int32.toInt e
  rw [nI_toInt (by omega), show (-1 : Int32).toInt = -1 by decide] at e2
  omega
theorem rfL_z {k nt nk : Nat} {p t c l : Int32} {os : List Ord} (h : rfL ((k, p, t, c) :: os) nt nk l = 0) : rfS p t c l (if k = 0 then nt else nk) = 0 ∧ rfL os (if k = 0 then nt + 1 else nt) (if k = 0 then nk else nk + 1) t = 0 := by
  by_cases q : rfS p t c l (if k = 0 then nt else nk) = 0
  · rw [rfL_t q] at h; exact ⟨q, h⟩
  · rw [rfL_f q] at h; exact absurd h q
