section AA2
variable {r r2 : Nat → Int32} {ne nt nk k m e ea th : Nat} {p t c b off dr v : Int32}
theorem Inv.mu (h : Inv r ne nt nk) (he : e < ne) : r (6 + 4 * e + 1) = 0 ∨ r (6 + 4 * e + 1) = 1 := (h.2.2.2.2.2.2.1 e he).2.1
theorem low2 (v : Int32) : nI (lowN v 2) = 0 ∨ nI (lowN v 2) = 1 := by
  have h := lowN_lt (v := v) (N := 2) (by omega)
  rcases (show lowN v 2 = 0 ∨ lowN v 2 = 1 by omega) with e | e
  · rw [e]; exact Or.inl rfl
  · rw [e]; exact Or.inr rfl
theorem nI_ne2 {a b : Nat} (ha : a < 2 ^ 31) (hb : b < 2 ^ 31) (h : ¬ a = b) : ¬ nI a = nI b := fun e => h ((nI_eq ha hb).mp e)
theorem low_o {j : Nat} (h : j < 1001) : -500 ≤ nI j - 500 ∧ nI j - 500 ≤ 500 := by
  have e1 : (500 : Int32).toInt = 500 := by decide
  have e2 : (nI j - 500).toInt = (j : Int) - 500 := by rw [i32s (by rw [nI_toInt (by omega), e1]; omega) (by rw [nI_toInt (by omega), e1]; omega), nI_toInt (by omega), e1]
  rw [Int32.le_iff_toInt_le, Int32.le_iff_toInt_le, e2, show (-500 : Int32).toInt = -500 by decide, e1]
  omega
theorem low_d {j : Nat} (h : j < 101) : -50 ≤ nI j - 50 ∧ nI j - 50 ≤ 50 := by
  have e1 : (50 : Int32).toInt = 50 := by decide
  have e2 : (nI j - 50).toInt = (j : Int) - 50 := by rw [i32s (by rw [nI_toInt (by omega), e1]; omega) (by rw [nI_toInt (by omega), e1]; omega), nI_toInt (by omega), e1]
  rw [Int32.le_iff_toInt_le, Int32.le_iff_toInt_le, e2, show (-50 : Int32).toInt = -50 by decide, e1]
  omega
theorem add_inj {x y c : Int32} (h : x + c = y + c) : x = y := by
  have := congrArg (fun z => z - c) h
  simp only [Int32.add_sub_cancel] at this
  exact this
/-! the numbers of thumps and knocks stay -/
theorem DD_c {d : Nat → Int32} (hf : ∀ j, 46 ≤ j → r2 j = r j) (hD : DD d r nt) : DD d r2 nt := by
  intro m h
  rw [hf (46 + 50 * 0 + 5 * m + 0) (by omega), hf (46 + 50 * 0 + 5 * m + 1) (by omega), hf (46 + 50 * 0 + 5 * m + 3) (by omega), hf (46 + 50 * 0 + 5 * m + 4) (by omega)]
  exact hD m h
theorem PP_c {d : Nat → Int32} (hf : ∀ j, 96 ≤ j → r2 j = r j) (hD : PP d r nk) : PP d r2 nk := by
  intro m h
  rw [hf _ (by omega)]
  exact hD m h
theorem Bey_c (hf : ∀ j, 96 ≤ j → r2 j = r j) (hB : Bey r ne nk) : Bey r2 ne nk := by
  intro m e h1 h2 h3
  rw [hf _ (by omega)]
  exact hB m e h1 h2 h3
theorem Bey_b (hf : ∀ j, 96 ≤ j → r2 j = r j) (hB : Bey r ne nk) : Bey r2 (ne + 1) nk := by
  intro m e h1 h2 h3
  rw [hf _ (by omega)]
  exact hB m e h1 (by omega) h3
theorem DD_l {d : Nat → Int32} (hD : DD d r nt) (hn : nt ≤ 10) (hth : th < nt) : DD (upd d (4 * th + 3) b) (upd r (46 + 5 * th + 4) b) nt := by
  intro m h
  obtain ⟨v0, v1, v3, v4⟩ := hD m h
  refine ⟨?_, ?_, ?_, ?_⟩
  · rw [upd_n (by omega), upd_n (by omega)]; exact v0
  · rw [upd_n (by omega), upd_n (by omega)]; exact v1
  · rw [upd_n (by omega), upd_n (by omega)]; exact v3
  · by_cases q : m = th
    · subst q
      rw [upd_s, show 46 + 50 * 0 + 5 * m + 4 = 46 + 5 * m + 4 by omega, upd_s]
    · rw [upd_n (by omega), upd_n (by omega)]; exact v4
theorem DD_ls {d : Nat → Int32} (hD : DD d r nt) (hw : r (46 + 50 * 0 + 5 * th + 4) = b) : DD (upd d (4 * th + 3) b) r nt := by
  intro m h
  obtain ⟨v0, v1, v3, v4⟩ := hD m h
  refine ⟨?_, ?_, ?_, ?_⟩
  · rw [upd_n (by omega)]; exact v0
  · rw [upd_n (by omega)]; exact v1
  · rw [upd_n (by omega)]; exact v3
  · by_cases q : m = th
    · subst q
      rw [upd_s]; exact hw.symm
    · rw [upd_n (by omega)]; exact v4
/-! bury -/
theorem sB_full (hp : 0 ≤ p ∧ p ≤ 1000) (h : ne = 10) : sBury r ne p = (-3, none) := by unfold sBury; rw [if_pos hp, if_pos h]
theorem sB_bad (hp : ¬ (0 ≤ p ∧ p ≤ 1000)) : sBury r ne p = (-2, none) := by unfold sBury; rw [if_neg hp]
def NewB (r r2 : Nat → Int32) (ne : Nat) (p : Int32) : Prop := r2 0 = nI (ne + 1) ∧ r2 (6 + 4 * ne + 0) = p ∧ ∀ j, j ≠ 0 → (j < 6 + 4 * ne ∨ 6 + 4 * ne + 4 ≤ j) → r2 j = r j
theorem sB_ok (hp : 0 ≤ p ∧ p ≤ 1000) (h : ¬ ne = 10) : ∃ r2, sBury r ne p = (nI ne, some r2) ∧ NewB r r2 ne p := by
  refine ⟨_, by unfold sBury; rw [if_pos hp, if_neg h], ?_, ?_, fun j h1 h2 => ?_⟩
  · rw [upd_s]
  · rw [upd_n (by omega), upd_n (by omega), upd_n (by omega), upd_n (by omega)]
    exact upd_s
  · rw [upd_n (by omega), upd_n (by omega), upd_n (by omega), upd_n (by omega), upd_n (by omega)]
theorem kC_0 (h : ∀ m, m < nk → r (146 + 100 * 1 + 10 * m + e) = MISS) : ∀ k, k ≤ nk → kC r e k = 0
  | 0, _ => rfl
  | k + 1, hk => by
    unfold kC
    rw [if_pos (h k (by omega))]
    exact kC_0 h k (by omega)
theorem kC_z (hB : Bey r ne nk) (he : ne < 10) : nI (kC r ne nk) = 0 := by
  rw [kC_0 (nk := nk) (fun m hm => hB m ne hm (Nat.le_refl _) he) nk (Nat.le_refl _)]
  rfl
/-! clocks -/
theorem sK_un (h : ne ≤ ea) (hea : ea ≤ 10) : sClock r ne (nI ea) off dr = (-1, none) := by unfold sClock; exact if_pos (Or.inr (by rw [nI_c (by omega)]; exact h))
theorem sK_same (hn : ne ≤ 10) (he : ea < ne) (ho : -500 ≤ off ∧ off ≤ 500) (hd : -50 ≤ dr ∧ dr ≤ 50) (h1 : r (6 + 4 * ea + 2) = off) (h2 : r (6 + 4 * ea + 3) = dr) : sClock r ne (nI ea) off dr = (-5, none) := by
  unfold sClock
  rw [if_neg (ixN he (by omega)), if_neg (fun q => q ⟨ho, hd⟩), nI_c (by omega), if_pos ⟨h1, h2⟩]
theorem sK_ok (hn : ne ≤ 10) (he : ea < ne) (ho : -500 ≤ off ∧ off ≤ 500) (hd : -50 ≤ dr ∧ dr ≤ 50) (h : ¬ (r (6 + 4 * ea + 2) = off ∧ r (6 + 4 * ea + 3) = dr)) : ∃ r2, sClock r ne (nI ea) off dr = (1, some r2) ∧ ∀ j, (j < 6 ∨ 46 ≤ j) → r2 j = r j := by
  refine ⟨_, by unfold sClock; rw [if_neg (ixN he (by omega)), if_neg (fun q => q ⟨ho, hd⟩), nI_c (by omega), if_neg h], fun j hj => ?_⟩
  rw [upd_n (by omega), upd_n (by omega)]
/-! mute -/
theorem sumN_s {f : Nat → Nat} {i : Nat} {n : Nat} (hf : ∀ j, j < n → f j = f i → j = i) (hi : i < n) : sumN (fun j => (upd r (f i) b) (f j)) n = sumN (fun j => r (f j)) n + (b - r (f i)) := by
  rw [← sumN_up (f := fun j => r (f j)) (i := i) (x := b) n hi]
  apply sumN_cg
  intro j hj
  by_cases q : j = i
  · subst q
    rw [upd_s, upd_s]
  · rw [upd_n q, upd_n (fun e => q (hf j hj e))]
theorem p10 (x : Int32) : x + (1 - 0) = x + 1 := by rw [show (1 : Int32) - 0 = 1 by decide]
theorem p01 (x : Int32) : x + (0 - 1) = x - 1 := by rw [show (0 : Int32) - 1 = -1 by decide, Int32.sub_eq_add_neg]
theorem sM_un (h : ne ≤ ea) (hea : ea ≤ 10) : sMute r ne (nI ea) b = (-1, none) := by unfold sMute; exact if_pos (Or.inr (by rw [nI_c (by omega)]; exact h))
theorem sM_same (hn : ne ≤ 10) (he : ea < ne) (hb : b = 0 ∨ b = 1) (h : r (6 + 4 * ea + 1) = b) : sMute r ne (nI ea) b = (-5, none) := by
  rw [sMute_f he hn hb]; exact if_pos h
theorem sM_on (hn : ne ≤ 10) (he : ea < ne) (h : r (6 + 4 * ea + 1) = 0) : ∃ r2, sMute r ne (nI ea) 1 = (sumN (fun ee => r (6 + 4 * ee + 1)) ne + 1, some r2) ∧ ∀ j, (j < 6 ∨ 46 ≤ j) → r2 j = r j := by
  refine ⟨upd r (6 + 4 * ea + 1) 1, ?_, fun j hj => upd_n (by omega)⟩
  rw [sMute_f he hn (Or.inr rfl)]
  unfold fMute
  rw [if_neg (by rw [h]; decide), sumN_s (r := r) (f := fun i => 6 + 4 * i + 1) (i := ea) (b := 1) (fun j _ q => by have q : 6 + 4 * j + 1 = 6 + 4 * ea + 1 := q; omega) he]
  show (_ + (1 - r (6 + 4 * ea + 1)), _) = _
  rw [h, p10]
theorem sM_off (hn : ne ≤ 10) (he : ea < ne) (h : r (6 + 4 * ea + 1) = 1) : ∃ r2, sMute r ne (nI ea) 0 = (sumN (fun ee => r (6 + 4 * ee + 1)) ne - 1, some r2) ∧ ∀ j, (j < 6 ∨ 46 ≤ j) → r2 j = r j := by
  refine ⟨upd r (6 + 4 * ea + 1) 0, ?_, fun j hj => upd_n (by omega)⟩
  rw [sMute_f he hn (Or.inl rfl)]
  unfold fMute
  rw [if_neg (by rw [h]; decide), sumN_s (r := r) (f := fun i => 6 + 4 * i + 1) (i := ea) (b := 0) (fun j _ q => by have q : 6 + 4 * j + 1 = 6 + 4 * ea + 1 := q; omega) he]
  show (_ + (0 - r (6 + 4 * ea + 1)), _) = _
  rw [h, p01]
/-! set -/
theorem sS0_same (hb : 1 ≤ v ∧ v ≤ 20) (h : r 3 = v) : sSet r 0 v = (-5, none) := by unfold sSet; rw [if_pos rfl, if_pos hb, if_pos h]
theorem sS0_ok (hb : 1 ≤ v ∧ v ≤ 20) (h : ¬ r 3 = v) : ∃ r2, sSet r 0 v = (r 3, some r2) ∧ ∀ j, (j < 3 ∨ 6 ≤ j) → r2 j = r j := ⟨_, by unfold sSet; rw [if_pos rfl, if_pos hb, if_neg h], fun j hj => upd_n (by omega)⟩
theorem sS1_same (hb : 0 ≤ v ∧ v ≤ 500) (h : r 4 = v) : sSet r 1 v = (-5, none) := by unfold sSet; rw [if_neg (show ¬ (1 : Int32) = 0 by decide), if_pos rfl, if_pos hb, if_pos h]
theorem sS1_ok (hb : 0 ≤ v ∧ v ≤ 500) (h : ¬ r 4 = v) : ∃ r2, sSet r 1 v = (r 4, some r2) ∧ ∀ j, (j < 3 ∨ 6 ≤ j) → r2 j = r j := ⟨_, by unfold sSet; rw [if_neg (show ¬ (1 : Int32) = 0 by decide), if_pos rfl, if_pos hb, if_neg h], fun j hj => upd_n (by omega)⟩
/-! leaveOut -/
theorem sL_un (h : nt ≤ th) (hea : th ≤ 10) : sLeave r nt (nI th) b = (-1, none) := by unfold sLeave; exact if_pos (Or.inr (by rw [nI_c (by omega)]; exact h))
theorem sL_same (hn : nt ≤ 10) (he : th < nt) (hb : b = 0 ∨ b = 1) (h : r (46 + 50 * 0 + 5 * th + 4) = b) : sLeave r nt (nI th) b = (-5, none) := by
  rw [sLeave_f he hn hb]; exact if_pos h
theorem sL_on (hn : nt ≤ 10) (he : th < nt) (h : r (46 + 50 * 0 + 5 * th + 4) = 0) : sLeave r nt (nI th) 1 = (sumN (fun ee => r (46 + 5 * ee + 4)) nt + 1, some (upd r (46 + 5 * th + 4) 1)) := by
  have h : r (46 + 5 * th + 4) = 0 := h
  rw [sLeave_f he hn (Or.inr rfl)]
  unfold fLeave
  rw [if_neg (by rw [h]; decide), sumN_s (r := r) (f := fun i => 46 + 5 * i + 4) (i := th) (b := 1) (fun j _ q => by have q : 46 + 5 * j + 4 = 46 + 5 * th + 4 := q; omega) he]
  show (_ + (1 - r (46 + 5 * th + 4)), _) = _
  rw [h, p10]
theorem sL_off (hn : nt ≤ 10) (he : th < nt) (h : r (46 + 50 * 0 + 5 * th + 4) = 1) : sLeave r nt (nI th) 0 = (sumN (fun ee => r (46 + 5 * ee + 4)) nt - 1, some (upd r (46 + 5 * th + 4) 0)) := by
  have h : r (46 + 5 * th + 4) = 1 := h
  rw [sLeave_f he hn (Or.inl rfl)]
  unfold fLeave
  rw [if_neg (by rw [h]; decide), sumN_s (r := r) (f := fun i => 46 + 5 * i + 4) (i := th) (b := 0) (fun j _ q => by have q : 46 + 5 * j + 4 = 46 + 5 * th + 4 := q; omega) he]
  show (_ + (0 - r (46 + 5 * th + 4)), _) = _
  rw [h, p01]
theorem upd_f {i : Nat} (hi : 6 ≤ i) : (∀ j, j < 6 → upd r i b j = r j) ∧ (i < 96 → ∀ j, 96 ≤ j → upd r i b j = r j) := ⟨fun j hj => upd_n (by omega), fun h j hj => upd_n (by omega)⟩
/-! texts of orders -/
theorem rd_0 {tx : Nat → Int32} : sRead r ne nt nk tx 0 = (-100, none) := by
  rw [sRead_q (q := 0) (by rw [prs_n (q := 0) (by unfold ordP; rw [if_neg (fun q => absurd q.1 (by omega)), if_neg (fun q => absurd q.1 (by omega))])])]
  rfl
theorem ifT {α : Type} {P : Prop} [Decidable P] {a b : α} (h : P) : (if P then a else b) = a := if_pos h
theorem rd_t {tx : Nat → Int32} (a : tx 0 = 116) (b : tx 1 = 48) (c : tx 2 = 53) : sRead r ne nt nk tx 3 = (-102, none) := by
  have hn : numP tx 3 1 = 2 := by
    unfold numP
    rw [if_pos (by rw [b]; decide), b]
    unfold numL
    rw [if_neg (fun q => absurd q.1 (by decide))]
  have ho : ordP tx 3 0 = (2, none) := by
    unfold ordP
    rw [if_pos ⟨by omega, a⟩]
    unfold ordQ
    rw [if_pos (by rw [show 0 + 1 = 1 by omega, b]; decide), show 0 + 1 = 1 by omega, hn, if_neg (fun q => absurd (c.symm.trans q.2) (by decide))]
  rw [sRead_q (q := 2) (by rw [prs_n ho])]
  rfl
theorem rd_k {tx : Nat → Int32} (a : tx 0 = 107) (b : tx 1 = 53) (c : tx 2 = 64) : sRead r ne nt nk tx 3 = (-103, none) := by
  have hn : numP tx 3 1 = 2 := by
    unfold numP
    rw [if_pos (by rw [b]; decide), b]
    unfold numL
    rw [if_neg (fun q => absurd q.2.2.2 (by rw [show 1 + 1 = 2 by omega, c]; decide))]
  have ho : ordP tx 3 0 = (3, none) := by
    unfold ordP
    rw [if_neg (fun q => absurd (a.symm.trans q.2) (by decide)), if_pos ⟨by omega, a⟩]
    unfold ordQ
    rw [if_pos (by rw [show 0 + 1 = 1 by omega, b]; decide), show 0 + 1 = 1 by omega, hn, if_pos ⟨by omega, c⟩, if_neg (fun q => absurd q.1 (by omega))]
  rw [sRead_q (q := 3) (by rw [prs_n ho])]
  rfl
end AA2
