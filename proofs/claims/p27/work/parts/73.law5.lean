/-- what the law keeps of a run -/
def LI (cA : Nat → ClassId) (ad : Nat → Nat) (E : Nat → va_E) : Prop :=
  ∃ (r : Nat → Int32) (ne nt nk nh ln : Nat) (txt d ps : Nat → Int32), LQ cA ad E r ne nt nk nh ln txt d ps ∧ DD d r nt ∧ PP ps r nk ∧ Bey r ne nk
theorem CQ.eq {l : Launch} {D : va_G} {cA : Nat → ClassId} {y : MethodName} {bytes : ByteArray} {maxL : Nat} {ret : FieldType} {rm : Room} {ad : Nat → Nat} {E : Nat → va_E} {av : List Value} {v v' : Int32} {P : (Nat → va_E) → Prop} (h : CQ l D cA y bytes maxL ret rm ad E av v P) (e : v = v') : CQ l D cA y bytes maxL ret rm ad E av v' P := e ▸ h
theorem low_ex {v : Int32} {N : Nat} (h : 0 < N) : ∃ j, j < N ∧ nI (lowN v N) = nI j := ⟨_, lowN_lt h, rfl⟩
theorem co_cases (t l : Int32) (m : Nat) : t < l ∨ (¬ t < l ∧ m = 10) ∨ (¬ t < l ∧ ¬ m = 10) := by
  by_cases h : t < l
  · exact Or.inl h
  · by_cases q : m = 10
    · exact Or.inr (Or.inl ⟨h, q⟩)
    · exact Or.inr (Or.inr ⟨h, q⟩)
section AC
variable {r r2 : Nat → Int32} {ne nt nk k m e : Nat} {p t c : Int32}
theorem ac_bad (h : ¬ (0 ≤ t ∧ t ≤ 100000)) : sAct r ne k m p t c = (-2, none) := by
  have e : mkS r ne k m p t c = (-2, r) := by unfold mkS; exact if_neg (fun q => h q.2.1)
  unfold sAct
  rw [e]
  exact if_pos (show (-2 : Int32) < 0 by decide)
theorem ac_old (hp : 0 ≤ p ∧ p ≤ 1000) (ht : 0 ≤ t ∧ t ≤ 100000) (hc : 1 ≤ c ∧ c ≤ 1000) (h : t < r 5) : sAct r ne k m p t c = (-4, none) := by
  have e : mkS r ne k m p t c = (-4, r) := by unfold mkS; rw [if_pos ⟨hp, ht, hc⟩, if_pos h]
  unfold sAct
  rw [e]
  exact if_pos (show (-4 : Int32) < 0 by decide)
theorem ac_full (hp : 0 ≤ p ∧ p ≤ 1000) (ht : 0 ≤ t ∧ t ≤ 100000) (hc : 1 ≤ c ∧ c ≤ 1000) (h : ¬ t < r 5) (hm : m = 10) : sAct r ne k m p t c = (-3, none) := by
  have e : mkS r ne k m p t c = (-3, r) := by unfold mkS; rw [if_pos ⟨hp, ht, hc⟩, if_neg h, if_pos hm]
  unfold sAct
  rw [e]
  exact if_pos (show (-3 : Int32) < 0 by decide)
theorem ac_ok (hp : 0 ≤ p ∧ p ≤ 1000) (ht : 0 ≤ t ∧ t ≤ 100000) (hc : 1 ≤ c ∧ c ≤ 1000) (h : ¬ t < r 5) (hm : ¬ m = 10) (hr : mkR r ne k m p t c = r2) : sAct r ne k m p t c = (hcnt r ne p c 10, some r2) := by
  have e : mkS r ne k m p t c = (hcnt r ne p c 10, mkR r ne k m p t c) := by unfold mkS; rw [if_pos ⟨hp, ht, hc⟩, if_neg h, if_neg hm]
  unfold sAct
  rw [e, ← hr]
  exact if_neg (hcnt_nn r ne p c)
/-- a row with one thump or knock more -/
def NewS (r r2 : Nat → Int32) (ne k m : Nat) (p t c : Int32) : Prop :=
  r2 (1 + k) = nI (m + 1) ∧ (∀ j, j < 46 → j ≠ 1 + k → j ≠ 5 → r2 j = r j) ∧ r2 5 = t ∧
  (r2 (46 + 50 * k + 5 * m + 0) = p ∧ r2 (46 + 50 * k + 5 * m + 1) = t ∧ r2 (46 + 50 * k + 5 * m + 3) = r 3 ∧ r2 (46 + 50 * k + 5 * m + 4) = 0) ∧ (∀ e, e < 10 → r2 (146 + 100 * k + 10 * m + e) = hv r ne p t c e) ∧
  ∀ j, 46 ≤ j → (j < 146 + 100 * k + 10 * m ∨ 146 + 100 * k + 10 * m + 10 ≤ j) → (j < 46 + 50 * k + 5 * m ∨ 46 + 50 * k + 5 * m + 5 ≤ j) → r2 j = r j
theorem newS (hk : k < 2) (hm : m < 10) : NewS r (mkR r ne k m p t c) ne k m p t c := ⟨mkR_s hk, fun _ a b c => mkR_o a b c, mkR_5, mkR_v hk hm, fun _ he => mkR_h hk hm he, fun _ a b c => mkR_n hk hm a b c⟩
theorem NewS.o (h : NewS r r2 ne k m p t c) {j : Nat} (h1 : j < 46) (h2 : j ≠ 1 + k) (h3 : j ≠ 5) : r2 j = r j := h.2.1 j h1 h2 h3
theorem hv_t (he : e < ne) (hm : r (6 + 4 * e + 1) = 0) (hw : far p (r (6 + 4 * e + 0)) ≤ c) : hv r ne p t c e = rdc r e (t + r 3 * far p (r (6 + 4 * e + 0))) := if_pos ⟨he, hm, hw⟩
theorem hv_f (h : ¬ (e < ne ∧ r (6 + 4 * e + 1) = 0 ∧ far p (r (6 + 4 * e + 0)) ≤ c)) : hv r ne p t c e = MISS := if_neg h
theorem hcnt_t (he : e < ne) (hm : r (6 + 4 * e + 1) = 0) (hw : far p (r (6 + 4 * e + 0)) ≤ c) : hcnt r ne p c e + 1 = hcnt r ne p c (e + 1) := by
  conv => rhs; unfold hcnt
  rw [if_pos (show e < ne ∧ r (6 + 4 * e + 1) = 0 ∧ far p (r (6 + 4 * e)) ≤ c from ⟨he, hm, hw⟩)]
theorem hcnt_f (h : ¬ (e < ne ∧ r (6 + 4 * e + 1) = 0 ∧ far p (r (6 + 4 * e + 0)) ≤ c)) : hcnt r ne p c e + 0 = hcnt r ne p c (e + 1) := by
  conv => rhs; unfold hcnt
  rw [if_neg (show ¬ (e < ne ∧ r (6 + 4 * e + 1) = 0 ∧ far p (r (6 + 4 * e)) ≤ c) from h)]
theorem hcnt_up : ∀ d, hcnt r ne p c (ne + d) = hcnt r ne p c ne
  | 0 => rfl
  | d + 1 => by
    have h := hcnt_f (r := r) (p := p) (c := c) (ne := ne) (e := ne + d) (fun q => absurd q.1 (by omega))
    rw [show ne + (d + 1) = ne + d + 1 by omega, ← h, hcnt_up d, Int32.add_zero]
theorem hcnt_ne (h : ne ≤ 10) : hcnt r ne p c 10 = hcnt r ne p c ne := by
  have := hcnt_up (r := r) (p := p) (c := c) (ne := ne) (10 - ne)
  rw [show ne + (10 - ne) = 10 by omega] at this
  exact this
theorem rdc_b (hV : Inv r ne nt nk) (he : e < ne) (ht : 0 ≤ t.toInt ∧ t.toInt ≤ 120000) : -2000 ≤ (rdc r e t).toInt ∧ (rdc r e t).toInt ≤ 130000 := by
  obtain ⟨b0, b1, b2, b3⟩ := hV.2.2.2.2.2.2.1 e he
  have hm2 := mul_bd (a := (r (6 + 4 * e + 3)).toInt) (b := t.toInt) (A := 50) (B := 200000) (by omega) (by omega) (by omega) (by omega)
  have l4 : (10000 : Int64).toInt = 10000 := by decide
  have e2 : ((r (6 + 4 * e + 3)).toInt64 * t.toInt64).toInt = (r (6 + 4 * e + 3)).toInt * t.toInt := by
    rw [i64m (by rw [Int32.toInt_toInt64, Int32.toInt_toInt64]; omega) (by rw [Int32.toInt_toInt64, Int32.toInt_toInt64]; omega), Int32.toInt_toInt64, Int32.toInt_toInt64]
  have hd := ediv_bd (a := (r (6 + 4 * e + 3)).toInt * t.toInt) (b := 10000) (A := 50 * 200000) (by omega) (by omega) (by omega) (by omega)
  have hd2 : -1000 ≤ (r (6 + 4 * e + 3)).toInt * t.toInt / 10000 ∧ (r (6 + 4 * e + 3)).toInt * t.toInt / 10000 ≤ 1000 := by omega
  have e4 : ((dn ((r (6 + 4 * e + 3)).toInt64 * t.toInt64) 10000).toInt32).toInt = (r (6 + 4 * e + 3)).toInt * t.toInt / 10000 := by
    rw [Int64.toInt_toInt32, dn_toInt (by rw [l4]; omega), l4, e2]
    apply Int.bmod_eq_of_le <;> omega
  have e5 : (t + r (6 + 4 * e + 2)).toInt = t.toInt + (r (6 + 4 * e + 2)).toInt := i32a (by omega) (by omega)
  unfold rdc
  rw [i32a (by rw [e4, e5]; omega) (by rw [e4, e5]; omega), e4, e5]
  omega
theorem rdc_c2 (h : ∀ j, 6 ≤ j → j < 46 → r2 j = r j) (he : e < 10) : rdc r2 e t = rdc r e t := by
  unfold rdc
  rw [h _ (by omega) (by omega), h _ (by omega) (by omega)]
theorem hd_t (hV : Inv r ne nt nk) (hN : NewS r r2 ne k m p t c) (hp : 0 ≤ p ∧ p ≤ 1000) (ht : 0 ≤ t ∧ t ≤ 100000) (he : e < ne) (hm : r (6 + 4 * e + 1) = 0) (hw : far p (r (6 + 4 * e + 0)) ≤ c) : hdF r2 k m e = rdc r e (t + r 3 * far p (r (6 + 4 * e + 0))) + 10000 := by
  have h0 := hV.e0
  have hp2 := i32le (m := 0) (n := 1000) (by decide) (by decide) hp
  have ht2 := i32le (m := 0) (n := 100000) (by decide) (by decide) ht
  have b3 := hV.2.2.2.1
  have hf := far_b hp2 (hV.pl he)
  have hmm := mul_bd (a := (r 3).toInt) (b := (far p (r (6 + 4 * e + 0))).toInt) (A := 20) (B := 1000) (by omega) (by omega) (by omega) (by omega)
  have hm0 : 0 ≤ (r 3).toInt * (far p (r (6 + 4 * e + 0))).toInt := Int.mul_nonneg (by omega) hf.1
  have e1 : (r 3 * far p (r (6 + 4 * e + 0))).toInt = (r 3).toInt * (far p (r (6 + 4 * e + 0))).toInt := i32m (by omega) (by omega)
  have e2 : (t + r 3 * far p (r (6 + 4 * e + 0))).toInt = t.toInt + (r 3).toInt * (far p (r (6 + 4 * e + 0))).toInt := by rw [i32a (by omega) (by omega), e1]
  have hb := rdc_b hV he (t := t + r 3 * far p (r (6 + 4 * e + 0))) (by rw [e2]; omega)
  have hr := hN.2.2.2.2.1 e (by omega)
  rw [hv_t he hm hw] at hr
  unfold hdF
  rw [hr, if_neg]
  intro q
  rw [q, show MISS.toInt = -1000000000 by decide] at hb
  omega
theorem hd_f (hN : NewS r r2 ne k m p t c) (he : e < 10) (h : ¬ (e < ne ∧ r (6 + 4 * e + 1) = 0 ∧ far p (r (6 + 4 * e + 0)) ≤ c)) : hdF r2 k m e = -5 := by
  have hr := hN.2.2.2.2.1 e he
  rw [hv_f h] at hr
  unfold hdF
  exact if_pos hr
theorem DD_t {d : Nat → Int32} (hN : NewS r r2 ne 0 nt p t c) (hm : nt < 10) (hD : DD d r nt) : DD (upd (upd (upd (upd d (4 * nt) p) (4 * nt + 1) t) (4 * nt + 2) (r 3)) (4 * nt + 3) 0) r2 (nt + 1) := by
  intro m h
  by_cases q : m = nt
  · subst q
    obtain ⟨v0, v1, v3, v4⟩ := hN.2.2.2.1
    rw [v0, v1, v3, v4]
    refine ⟨?_, ?_, ?_, upd_s⟩
    · rw [upd_n (by omega), upd_n (by omega), upd_n (by omega), upd_s]
    · rw [upd_n (by omega), upd_n (by omega), upd_s]
    · rw [upd_n (by omega), upd_s]
  · have f := hN.2.2.2.2.2
    obtain ⟨v0, v1, v3, v4⟩ := hD m (by omega)
    rw [f (46 + 50 * 0 + 5 * m + 0) (by omega) (by omega) (by omega), f (46 + 50 * 0 + 5 * m + 1) (by omega) (by omega) (by omega), f (46 + 50 * 0 + 5 * m + 3) (by omega) (by omega) (by omega), f (46 + 50 * 0 + 5 * m + 4) (by omega) (by omega) (by omega)]
    refine ⟨?_, ?_, ?_, ?_⟩
    all_goals rw [upd_n (by omega), upd_n (by omega), upd_n (by omega), upd_n (by omega)]
    · exact v0
    · exact v1
    · exact v3
    · exact v4
theorem PP_t {d : Nat → Int32} (hN : NewS r r2 ne 0 nt p t c) (hm : nt < 10) (hk : nk ≤ 10) (hD : PP d r nk) : PP d r2 nk := by
  intro m h
  rw [hN.2.2.2.2.2 _ (by omega) (by omega) (by omega)]
  exact hD m h
theorem Bey_t (hN : NewS r r2 ne 0 nt p t c) (hm : nt < 10) (hk : nk ≤ 10) (hB : Bey r ne nk) : Bey r2 ne nk := by
  intro m e h1 h2 h3
  rw [hN.2.2.2.2.2 _ (by omega) (by omega) (by omega)]
  exact hB m e h1 h2 h3
theorem DD_k {d : Nat → Int32} (hN : NewS r r2 ne 1 nk p t c) (hm : nk < 10) (ht : nt ≤ 10) (hD : DD d r nt) : DD d r2 nt := by
  intro m h
  have f := hN.2.2.2.2.2
  rw [f (46 + 50 * 0 + 5 * m + 0) (by omega) (by omega) (by omega), f (46 + 50 * 0 + 5 * m + 1) (by omega) (by omega) (by omega), f (46 + 50 * 0 + 5 * m + 3) (by omega) (by omega) (by omega), f (46 + 50 * 0 + 5 * m + 4) (by omega) (by omega) (by omega)]
  exact hD m h
theorem PP_k {d : Nat → Int32} (hN : NewS r r2 ne 1 nk p t c) (hm : nk < 10) (hD : PP d r nk) : PP (upd d nk (r 3)) r2 (nk + 1) := by
  intro m h
  by_cases q : m = nk
  · subst q
    rw [hN.2.2.2.1.2.2.1, upd_s]
  · rw [hN.2.2.2.2.2 _ (by omega) (by omega) (by omega), upd_n q]
    exact hD m (by omega)
theorem Bey_k (hN : NewS r r2 ne 1 nk p t c) (hm : nk < 10) (hB : Bey r ne nk) : Bey r2 ne (nk + 1) := by
  intro m e h1 h2 h3
  by_cases q : m = nk
  · subst q
    rw [hN.2.2.2.2.1 e h3]
    exact hv_f (fun q => absurd q.1 (by omega))
  · rw [hN.2.2.2.2.2 _ (by omega) (by omega) (by omega)]
    exact hB m e (by omega) h2 h3
end AC
