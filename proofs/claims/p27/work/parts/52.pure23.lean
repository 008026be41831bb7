theorem vb01 {x : Int32} (h : x = 0 ∨ x = 1) : vp_nar .boolean x = x := by rcases h with rfl | rfl <;> rfl
theorem Bz.upd {f : Nat → Int32} {i : Nat} {x : Int32} (h : Bz f) (hx : x = 0 ∨ x = 1) : Bz (upd f i x) := by
  intro j hj
  by_cases q : j = i
  · subst q; rw [upd_s]; exact hx
  · rw [upd_n q]; exact h j hj
def fMute (r : Nat → Int32) (ne e : Nat) (b : Int32) : Int32 × Option (Nat → Int32) := if r (6 + 4 * e + 1) = b then (-5, none) else (sumN (fun i => (upd r (6 + 4 * e + 1) b) (6 + 4 * i + 1)) ne, some (upd r (6 + 4 * e + 1) b))
def fLeave (r : Nat → Int32) (nt m : Nat) (b : Int32) : Int32 × Option (Nat → Int32) := if r (46 + 5 * m + 4) = b then (-5, none) else (sumN (fun i => (upd r (46 + 5 * m + 4) b) (46 + 5 * i + 4)) nt, some (upd r (46 + 5 * m + 4) b))
theorem flg01 {b : Int32} (h : b = 0 ∨ b = 1) : flg b = b := by rcases h with rfl | rfl <;> decide
theorem sMute_f {r : Nat → Int32} {ne e : Nat} {b : Int32} (he : e < ne) (hne : ne ≤ 10) (hb : b = 0 ∨ b = 1) : sMute r ne (nI e) b = fMute r ne e b := by
  unfold sMute fMute
  rw [if_neg (ixN he (by omega)), nI_c (by omega), flg01 hb]
theorem sLeave_f {r : Nat → Int32} {nt m : Nat} {b : Int32} (hm : m < nt) (hnt : nt ≤ 10) (hb : b = 0 ∨ b = 1) : sLeave r nt (nI m) b = fLeave r nt m b := by
  unfold sLeave fLeave
  rw [if_neg (ixN hm (by omega)), nI_c (by omega), flg01 hb]
/-- why a sound is refused, 0 where it isn't -/
def rfS (p t c l : Int32) (n : Nat) : Int32 := if (0 ≤ p ∧ p ≤ 1000) ∧ (0 ≤ t ∧ t ≤ 100000) ∧ (1 ≤ c ∧ c ≤ 1000) then (if t < l then -4 else if 10 ≤ n then -3 else 0) else -2
theorem rfS_c (p t c l : Int32) (n : Nat) : rfS p t c l n = 0 ∨ rfS p t c l n < 0 := by
  unfold rfS
  split
  · split
    · right; decide
    · split
      · right; decide
      · left; rfl
  · right; decide
theorem mkS_rf {r : Nat → Int32} {ne k m : Nat} {p t c : Int32} (hm : m ≤ 10) : mkS r ne k m p t c = if rfS p t c (r 5) m = 0 then (hcnt r ne p c 10, mkR r ne k m p t c) else (rfS p t c (r 5) m, r) := by
  unfold mkS rfS
  by_cases h1 : (0 ≤ p ∧ p ≤ 1000) ∧ (0 ≤ t ∧ t ≤ 100000) ∧ (1 ≤ c ∧ c ≤ 1000)
  · simp only [if_pos h1]
    by_cases h2 : t < r 5
    · simp only [if_pos h2]; rw [if_neg (by decide)]
    · simp only [if_neg h2]
      by_cases h3 : m = 10
      · rw [if_pos h3, if_pos (show 10 ≤ m by omega), if_neg (by decide)]
      · rw [if_neg h3, if_neg (show ¬ 10 ≤ m by omega), if_pos rfl]
  · simp only [if_neg h1]; rw [if_neg (by decide)]
theorem rfS_0 {p t c l : Int32} {n : Nat} (h : rfS p t c l n = 0) : (0 ≤ p.toInt ∧ p.toInt ≤ 1000) ∧ (0 ≤ t.toInt ∧ t.toInt ≤ 100000) ∧ n < 10 := by
  unfold rfS at h
  by_cases h1 : (0 ≤ p ∧ p ≤ 1000) ∧ (0 ≤ t ∧ t ≤ 100000) ∧ (1 ≤ c ∧ c ≤ 1000)
  · rw [if_pos h1] at h
    by_cases h2 : t < l
    · rw [if_pos h2] at h; exact absurd h (by decide)
    · rw [if_neg h2] at h
      by_cases h3 : 10 ≤ n
      · rw [if_pos h3] at h; exact absurd h (by decide)
      · exact ⟨i32le (by decide) (by decide) h1.1, i32le (by decide) (by decide) h1.2.1, by omega⟩
  · rw [if_neg h1] at h; exact absurd h (by decide)
theorem sAct_n {r : Nat → Int32} {ne k m : Nat} {p t c : Int32} (hm : m ≤ 10) (h : ¬ rfS p t c (r 5) m = 0) : sAct r ne k m p t c = (rfS p t c (r 5) m, none) := by
  unfold sAct
  rw [mkS_rf hm, if_neg h, if_pos ((rfS_c p t c (r 5) m).resolve_left h)]
theorem sAct_s {r : Nat → Int32} {ne k m : Nat} {p t c : Int32} (hm : m ≤ 10) (h : rfS p t c (r 5) m = 0) : sAct r ne k m p t c = (hcnt r ne p c 10, some (mkR r ne k m p t c)) := by
  unfold sAct
  rw [mkS_rf hm, if_pos h, if_neg (hcnt_nn r ne p c)]
theorem Cn.bz {v : Nat → Nat → Int32} {r : Nat → Int32} (h : Cn v r) : Bz (v 4) ∧ Bz (v 5) := by
  obtain ⟨a, b, c, h⟩ := h
  exact ⟨h.bz4, h.bz5⟩
def sRes (s1 : Int32) (asd : Nat → Int32) : Int32 × Option (Nat → Int32) := if s1 = 0 then (-5, none) else (asd 1 + asd 2, some asd)
