/-! ===== a sound more ===== -/
section Snd
variable {r : Nat → Int32} {ne k m : Nat} {p t c : Int32}
theorem stg_z {j : Nat} (hj : ∀ e, e < 10 → j ≠ 146 + 100 * k + 10 * m + e) : ∀ n, n ≤ 10 → stg r ne k m p t c n j = stg r ne k m p t c 0 j
  | 0, _ => rfl
  | n + 1, h => by
    rw [← stg_z hj n (by omega)]
    conv => lhs; unfold stg
    exact upd_n (hj n (by omega))
theorem stg_v {e : Nat} : ∀ n, n ≤ 10 → e < n → stg r ne k m p t c n (146 + 100 * k + 10 * m + e) = hv r ne p t c e
  | 0, _, h => absurd h (Nat.not_lt_zero _)
  | n + 1, hn, h => by
    conv => lhs; unfold stg
    by_cases q : e = n
    · subst q; exact upd_s
    · rw [upd_n (by omega)]
      exact stg_v n (by omega) (by omega)
theorem mkR_h {e : Nat} (hk : k < 2) (hm : m < 10) (he : e < 10) : mkR r ne k m p t c (146 + 100 * k + 10 * m + e) = hv r ne p t c e := by
  unfold mkR
  rw [upd_n (by omega), upd_n (by omega)]
  exact stg_v 10 (Nat.le_refl _) he
theorem mkR_z {j : Nat} (hk : k < 2) (hm : m < 10) (h46 : 46 ≤ j) (hj : ∀ e, e < 10 → j ≠ 146 + 100 * k + 10 * m + e) : mkR r ne k m p t c j = stg r ne k m p t c 0 j := by
  unfold mkR
  rw [upd_n (by omega), upd_n (by omega)]
  exact stg_z hj 10 (Nat.le_refl _)
theorem mkR_n {j : Nat} (hk : k < 2) (hm : m < 10) (h46 : 46 ≤ j) (hj : j < 146 + 100 * k + 10 * m ∨ 146 + 100 * k + 10 * m + 10 ≤ j) (h5 : j < 46 + 50 * k + 5 * m ∨ 46 + 50 * k + 5 * m + 5 ≤ j) : mkR r ne k m p t c j = r j := by
  rw [mkR_z hk hm h46 (fun e he => by omega)]
  unfold stg
  rw [upd_n (by omega), upd_n (by omega), upd_n (by omega), upd_n (by omega), upd_n (by omega)]
theorem mkR_v (hk : k < 2) (hm : m < 10) : mkR r ne k m p t c (46 + 50 * k + 5 * m + 0) = p ∧ mkR r ne k m p t c (46 + 50 * k + 5 * m + 1) = t ∧ mkR r ne k m p t c (46 + 50 * k + 5 * m + 3) = r 3 ∧ mkR r ne k m p t c (46 + 50 * k + 5 * m + 4) = 0 := by
  refine ⟨?_, ?_, ?_, ?_⟩
  · rw [mkR_z hk hm (by omega) (fun e he => by omega)]
    unfold stg
    rw [upd_n (by omega), upd_n (by omega), upd_n (by omega), upd_n (by omega)]
    exact upd_s
  · rw [mkR_z hk hm (by omega) (fun e he => by omega)]
    unfold stg
    rw [upd_n (by omega), upd_n (by omega), upd_n (by omega)]
    exact upd_s
  · rw [mkR_z hk hm (by omega) (fun e he => by omega)]
    unfold stg
    rw [upd_n (by omega)]
    exact upd_s
  · rw [mkR_z hk hm (by omega) (fun e he => by omega)]
    unfold stg
    exact upd_s
theorem mkR_5 : mkR r ne k m p t c 5 = t := by unfold mkR; exact upd_s
end Snd
section Snd2
variable {v : Nat → Nat → Int32} {r : Nat → Int32} {ne nt nk : Nat}
/-- what an ear writes down, told by the class and by the row -/
theorem hv_eq {p t c : Int32} {e : Nat} (h : Can v r ne nt nk) (hp : 0 ≤ p.toInt ∧ p.toInt ≤ 1000) (ht : 0 ≤ t.toInt ∧ t.toInt ≤ 100000) : ((e < ne ∧ v 4 e = 0 ∧ (if 0 ≤ p - v 1 e then p - v 1 e else 0 - (p - v 1 e)) ≤ c) ↔ (e < ne ∧ r (6 + 4 * e + 1) = 0 ∧ far p (r (6 + 4 * e)) ≤ c)) ∧ Rd (hvC ne (v 1) (v 2) (v 3) (v 4) (r 3) p t c e) (hv r ne p t c e) := by
  unfold hvC hv
  by_cases he : e < ne
  · obtain ⟨a1, a4, a2, a3⟩ := h.ear he
    have b := h.ie e he
    have hw : (if 0 ≤ p - v 1 e then p - v 1 e else 0 - (p - v 1 e)) = far p (r (6 + 4 * e)) := by rw [a1]; exact wy_far hp b.1
    rw [hw, a4]
    refine ⟨Iff.rfl, ?_⟩
    by_cases q : e < ne ∧ r (6 + 4 * e + 1) = 0 ∧ far p (r (6 + 4 * e)) ≤ c
    · rw [if_pos q, if_pos q]
      have hf : 0 ≤ (far p (r (6 + 4 * e))).toInt ∧ (far p (r (6 + 4 * e))).toInt ≤ 1000 := far_b hp b.1
      have b3 := h.b3
      have hm := mul_bd (a := (r 3).toInt) (b := (far p (r (6 + 4 * e))).toInt) (A := 20) (B := 1000) (by omega) (by omega) (by omega) (by omega)
      have hm0 : 0 ≤ (r 3).toInt * (far p (r (6 + 4 * e))).toInt := Int.mul_nonneg (by omega) hf.1
      have e1 : (r 3 * far p (r (6 + 4 * e))).toInt = (r 3).toInt * (far p (r (6 + 4 * e))).toInt := i32m (by omega) (by omega)
      have e2 : (t + r 3 * far p (r (6 + 4 * e))).toInt = t.toInt + (r 3).toInt * (far p (r (6 + 4 * e))).toInt := by rw [i32a (by omega) (by omega), e1]
      have ha : 0 ≤ (t + r 3 * far p (r (6 + 4 * e))).toInt ∧ (t + r 3 * far p (r (6 + 4 * e))).toInt ≤ 200000 := by rw [e2]; omega
      have ha2 : (t + r 3 * far p (r (6 + 4 * e))).toInt ≤ 120000 := by rw [e2]; omega
      rw [← rdc_of h he ha]
      refine Or.inr ⟨rfl, ?_⟩
      generalize t + r 3 * far p (r (6 + 4 * e)) = u at *
      rw [rdc_of h he ha, a2, a3]
      have hm2 := mul_bd (a := (r (6 + 4 * e + 3)).toInt) (b := u.toInt) (A := 50) (B := 200000) (by omega) (by omega) (by omega) (by omega)
      have e3 : (r (6 + 4 * e + 3) * u).toInt = (r (6 + 4 * e + 3)).toInt * u.toInt := i32m (by omega) (by omega)
      have e4 : (fdi (r (6 + 4 * e + 3) * u) 10000).toInt = (r (6 + 4 * e + 3)).toInt * u.toInt / 10000 := by rw [fdi_dn (by omega) (by omega), e3]
      have hd := ediv_bd (a := (r (6 + 4 * e + 3)).toInt * u.toInt) (b := 10000) (A := 50 * 200000) (by omega) (by omega) (by omega) (by omega)
      have hd2 : -1000 ≤ (r (6 + 4 * e + 3)).toInt * u.toInt / 10000 ∧ (r (6 + 4 * e + 3)).toInt * u.toInt / 10000 ≤ 1000 := by omega
      have e5 : (u + r (6 + 4 * e + 2)).toInt = u.toInt + (r (6 + 4 * e + 2)).toInt := i32a (by omega) (by omega)
      rw [i32a (by rw [e4, e5]; omega) (by rw [e4, e5]; omega), e4, e5]
      omega
    · rw [if_neg q, if_neg q]
      exact Or.inl ⟨rfl, rfl⟩
  · refine ⟨⟨fun q => absurd q.1 he, fun q => absurd q.1 he⟩, ?_⟩
    rw [if_neg (show ¬ (e < ne ∧ v 4 e = 0 ∧ (if 0 ≤ p - v 1 e then p - v 1 e else 0 - (p - v 1 e)) ≤ c) from fun q => he q.1), if_neg (show ¬ (e < ne ∧ r (6 + 4 * e + 1) = 0 ∧ far p (r (6 + 4 * e)) ≤ c) from fun q => he q.1)]
    exact Or.inl ⟨rfl, rfl⟩
theorem hc_eq {p t c : Int32} (h : Can v r ne nt nk) (hp : 0 ≤ p.toInt ∧ p.toInt ≤ 1000) (ht : 0 ≤ t.toInt ∧ t.toInt ≤ 100000) : ∀ e, hcC ne (v 1) (v 4) p c e = hcnt r ne p c e
  | 0 => rfl
  | e + 1 => by
    have q := (hv_eq (e := e) (c := c) h hp ht).1
    unfold hcC hcnt
    rw [hc_eq h hp ht e]
    by_cases z : e < ne ∧ r (6 + 4 * e + 1) = 0 ∧ far p (r (6 + 4 * e)) ≤ c
    · rw [if_pos z, if_pos (q.mpr z)]
    · rw [if_neg z, if_neg (fun y => z (q.mp y))]
theorem Rd.b {x y : Int32} (h : Rd x y) : Rb y := by
  rcases h with h | h
  · exact Or.inl h.2
  · exact Or.inr h.2
def sndV (v : Nat → Nat → Int32) (s m : Nat) (g1 g2 g3 w2 : Nat → Int32) (sz : Int32) (f : Nat → Int32) : Nat → Nat → Int32 := fun j => if j = 0 then f else if j = s then (fun _ => sz) else if j = s + 1 then g1 else if j = s + 2 then g2 else if j = s + 3 then g3 else if j = s + 5 + m then w2 else v j
theorem sndV_n {s m j : Nat} {g1 g2 g3 w2 : Nat → Int32} {sz : Int32} {f : Nat → Int32} (h : j ≠ 0 ∧ j ≠ s ∧ j ≠ s + 1 ∧ j ≠ s + 2 ∧ j ≠ s + 3 ∧ j ≠ s + 5 + m) : sndV v s m g1 g2 g3 w2 sz f j = v j := by
  unfold sndV
  rw [if_neg h.1, if_neg h.2.1, if_neg h.2.2.1, if_neg h.2.2.2.1, if_neg h.2.2.2.2.1, if_neg h.2.2.2.2.2]
theorem sndV_w {s m : Nat} {g1 g2 g3 w2 : Nat → Int32} {sz : Int32} {f : Nat → Int32} : sndV v s m g1 g2 g3 w2 sz f (s + 5 + m) = w2 := by
  unfold sndV
  rw [if_neg (by omega), if_neg (by omega), if_neg (by omega), if_neg (by omega), if_neg (by omega), if_pos rfl]
theorem StA.snd {cA : Nat → ClassId} {ad : Nat → Nat} {E E' : Nat → va_E} {b s m : Nat} (h : StA cA ad E b v) (hs : s = 6 ∨ s = 21) (hm : m < 10) {g1 g2 g3 w2 f : Nat → Int32} {sz : Int32}
    (hb : E' b = .inr (5, [.ref (ad (b + 1)), .ref (ad (b + 2)), .ref (ad (b + 3)), .ref (ad (b + 4)), .ref (ad (b + 5)), .ref (ad (b + 6)), .ref (ad (b + 21)), .int (f 0), .int (f 1), .int (f 2), .int (f 3)]))
    (hss : E' (b + s) = .inr (3, [.ref (ad (b + s + 1)), .ref (ad (b + s + 2)), .ref (ad (b + s + 3)), .ref (ad (b + s + 4)), .int sz]))
    (h1 : E' (b + s + 1) = .inl (cA 0, 10, .inl g1)) (h2 : E' (b + s + 2) = .inl (cA 0, 10, .inl g2)) (h3 : E' (b + s + 3) = .inl (cA 0, 10, .inl g3)) (hw : E' (b + s + 5 + m) = .inl (cA 0, 10, .inl w2))
    (hO : ∀ i, (i ≠ b ∧ i ≠ b + s ∧ i ≠ b + s + 1 ∧ i ≠ b + s + 2 ∧ i ≠ b + s + 3 ∧ i ≠ b + s + 5 + m) → E' i = E i) : StA cA ad E' b (sndV v s m g1 g2 g3 w2 sz f) := by
  obtain ⟨q1, q2, q3, q4, q5, q6⟩ := h
  refine ⟨hb, ?_, ?_, (hO _ (by omega)).trans q4, (hO _ (by omega)).trans q5, fun i hi => ?_⟩
  · rcases hs with rfl | rfl
    · exact hss
    · rw [sndV_n (by omega)]; exact (hO _ (by omega)).trans q2
  · rcases hs with rfl | rfl
    · rw [sndV_n (by omega)]; exact (hO _ (by omega)).trans q3
    · exact hss
  · have hz := hi
    unfold isA at hz
    by_cases e1 : i = s + 1
    · subst e1
      rw [show tgA (s + 1) = 0 from if_neg (by omega)]
      have : sndV v s m g1 g2 g3 w2 sz f (s + 1) = g1 := by
        unfold sndV; rw [if_neg (by omega), if_neg (by omega), if_pos rfl]
      rw [this]; exact h1
    · by_cases e2 : i = s + 2
      · subst e2
        rw [show tgA (s + 2) = 0 from if_neg (by omega)]
        have : sndV v s m g1 g2 g3 w2 sz f (s + 2) = g2 := by
          unfold sndV; rw [if_neg (by omega), if_neg (by omega), if_neg (by omega), if_pos rfl]
        rw [this]; exact h2
      · by_cases e3 : i = s + 3
        · subst e3
          rw [show tgA (s + 3) = 0 from if_neg (by omega)]
          have : sndV v s m g1 g2 g3 w2 sz f (s + 3) = g3 := by
            unfold sndV; rw [if_neg (by omega), if_neg (by omega), if_neg (by omega), if_neg (by omega), if_pos rfl]
          rw [this]; exact h3
        · by_cases e4 : i = s + 5 + m
          · subst e4
            rw [show tgA (s + 5 + m) = 0 from if_neg (by omega), sndV_w]
            have e : b + s + 5 + m = b + (s + 5 + m) := by omega
            rw [e] at hw; exact hw
          · rw [sndV_n (by omega)]
            exact (hO _ (by omega)).trans (q6 i hi)
theorem Can.snd0 {p t c : Int32} {w2 : Nat → Int32} (h : Can v r ne nt nk) (hn : nt < 10) (hp : 0 ≤ p.toInt ∧ p.toInt ≤ 1000) (ht : 0 ≤ t.toInt ∧ t.toInt ≤ 100000) (hw : ∀ e, e < 10 → w2 e = hvC ne (v 1) (v 2) (v 3) (v 4) (r 3) p t c e) : Can (sndV v 6 nt (upd (v 7) nt p) (upd (v 8) nt t) (upd (v 9) nt (r 3)) w2 (nI (nt + 1)) (oV (nI ne) (r 3) (r 4) t)) (mkR r ne 0 nt p t c) ne (nt + 1) nk := by
  have hne := h.i.e0
  have hnt := h.i.e1
  have hnk := h.i.e2
  have q : ∀ j, j < 46 → j ≠ 1 → j ≠ 5 → mkR r ne 0 nt p t c j = r j := fun j h0 h1 h2 => mkR_o h0 h1 h2
  have q1 : mkR r ne 0 nt p t c 1 = nI (nt + 1) := mkR_s (k := 0) (by omega)
  have q5 : mkR r ne 0 nt p t c 5 = t := mkR_5
  obtain ⟨qp, qt, q3, q4⟩ := mkR_v (r := r) (ne := ne) (k := 0) (m := nt) (p := p) (t := t) (c := c) (by omega) hn
  have qn : ∀ j, 46 ≤ j → (j < 146 + 10 * nt ∨ 146 + 10 * nt + 10 ≤ j) → (j < 46 + 5 * nt ∨ 46 + 5 * nt + 5 ≤ j) → mkR r ne 0 nt p t c j = r j := fun j h0 h1 h2 => mkR_n (by omega) hn h0 (by omega) (by omega)
  have qh : ∀ e, e < 10 → mkR r ne 0 nt p t c (146 + 100 * 0 + 10 * nt + e) = hv r ne p t c e := fun e he => mkR_h (by omega) hn he
  generalize mkR r ne 0 nt p t c = r' at *
  obtain ⟨v', hv⟩ : ∃ v', v' = (sndV v 6 nt (upd (v 7) nt p) (upd (v 8) nt t) (upd (v 9) nt (r 3)) w2 (nI (nt + 1)) (oV (nI ne) (r 3) (r 4) t)) := ⟨_, rfl⟩
  rw [← hv]
  have w : ∀ j, (j ≠ 0 ∧ j ≠ 6 ∧ j ≠ 7 ∧ j ≠ 8 ∧ j ≠ 9 ∧ j ≠ 11 + nt) → v' j = v j := fun j hj => by rw [hv]; exact sndV_n (by omega)
  have ww : v' (11 + nt) = w2 := by rw [hv]; exact sndV_w (s := 6)
  have w0 : v' 0 = oV (nI ne) (r 3) (r 4) t := by rw [hv]; rfl
  have ws : v' 6 = fun _ => nI (nt + 1) := by rw [hv]; rfl
  have wa : v' 7 = upd (v 7) nt p := by rw [hv]; rfl
  have wb : v' 8 = upd (v 8) nt t := by rw [hv]; rfl
  have wc : v' 9 = upd (v 9) nt (r 3) := by rw [hv]; rfl
  refine Can.mk ((q 0 (by omega) (by omega) (by omega)).trans h.i.h0) h.i.e0 q1 (by omega) ((q 2 (by omega) (by omega) (by omega)).trans h.i.h2) (by omega) (by rw [q 3 (by omega) (by omega) (by omega)]; exact h.b3) (by rw [q 4 (by omega) (by omega) (by omega)]; exact h.b4) (by rw [q5]; exact ht)
    (h.ie.cg h.i.e0 (fun j _ _ => q j (by omega) (by omega) (by omega))) ?_ (by rw [w0]; rfl) (by rw [ws]) (by rw [w 21 (by omega)]; exact h.n2) (by rw [q 3 (by omega) (by omega) (by omega), w0]; rfl) (by rw [q 4 (by omega) (by omega) (by omega), w0]; rfl) (by rw [q5, w0]; rfl)
    (h.ce.cg h.i.e0 (fun j _ _ => q j (by omega) (by omega) (by omega)) (w 1 (by omega)) (w 2 (by omega)) (w 3 (by omega)) (w 4 (by omega))) ⟨?_, ?_⟩ (h.ck.cg h.i.e2 (fun j hj => qn j (by omega) (by omega) (by omega)) (w 22 (by omega)) (w 23 (by omega)) (w 24 (by omega)) (fun m _ => w _ (by omega)))
  · intro k m hk hm
    by_cases z : k = 0 ∧ m = nt
    · obtain ⟨rfl, rfl⟩ := z
      rw [qp, qt, q3, q4]
      exact ⟨hp, ht, h.b3, Or.inl rfl, fun e he => by rw [qh e he]; exact (hv_eq h hp ht).2.b⟩
    · have hm2 : m < (if k = 0 then nt else nk) := by
        rcases (show k = 0 ∨ k = 1 by omega) with rfl | rfl
        · simp only [if_pos] at hm ⊢; omega
        · simp only [show ¬ (1 = 0) by omega, if_false] at hm ⊢; omega
      have hm10 : m < 10 := by split at hm2 <;> omega
      have := h.is k m hk hm2
      rw [qn (46 + 50 * k + 5 * m + 0) (by omega) (by omega) (by omega), qn (46 + 50 * k + 5 * m + 1) (by omega) (by omega) (by omega), qn (46 + 50 * k + 5 * m + 3) (by omega) (by omega) (by omega), qn (46 + 50 * k + 5 * m + 4) (by omega) (by omega) (by omega)]
      exact ⟨this.1, this.2.1, this.2.2.1, this.2.2.2.1, fun e he => by rw [qn _ (by omega) (by omega) (by omega)]; exact this.2.2.2.2 e he⟩
  · intro m hm
    by_cases z : m = nt
    · subst z
      rw [wa, wb, wc, w 5 (by omega), ww, qp, qt, q3, q4, upd_s, upd_s, upd_s]
      exact ⟨rfl, rfl, rfl, h.beyT (Nat.le_refl _) hn, fun e he => by rw [qh e he, hw e he]; exact (hv_eq h hp ht).2⟩
    · have := h.th (show m < nt by omega)
      rw [wa, wb, wc, w 5 (by omega), w (11 + m) (by omega), upd_n z, upd_n z, upd_n z, qn (46 + 50 * 0 + 5 * m + 0) (by omega) (by omega) (by omega), qn (46 + 50 * 0 + 5 * m + 1) (by omega) (by omega) (by omega), qn (46 + 50 * 0 + 5 * m + 3) (by omega) (by omega) (by omega), qn (46 + 50 * 0 + 5 * m + 4) (by omega) (by omega) (by omega)]
      exact ⟨this.1, this.2.1, this.2.2.1, this.2.2.2.1, fun e he => by rw [qn _ (by omega) (by omega) (by omega)]; exact this.2.2.2.2 e he⟩
  · intro m h1 h2
    rw [w 5 (by omega)]
    exact h.beyT (by omega) h2
theorem Can.snd1 {p t c : Int32} {w2 : Nat → Int32} (h : Can v r ne nt nk) (hn : nk < 10) (hp : 0 ≤ p.toInt ∧ p.toInt ≤ 1000) (ht : 0 ≤ t.toInt ∧ t.toInt ≤ 100000) (hw : ∀ e, e < 10 → w2 e = hvC ne (v 1) (v 2) (v 3) (v 4) (r 3) p t c e) : Can (sndV v 21 nk (upd (v 22) nk p) (upd (v 23) nk t) (upd (v 24) nk (r 3)) w2 (nI (nk + 1)) (oV (nI ne) (r 3) (r 4) t)) (mkR r ne 1 nk p t c) ne nt (nk + 1) := by
  have hne := h.i.e0
  have hnt := h.i.e1
  have hnk := h.i.e2
  have q : ∀ j, j < 46 → j ≠ 2 → j ≠ 5 → mkR r ne 1 nk p t c j = r j := fun j h0 h1 h2 => mkR_o h0 h1 h2
  have q1 : mkR r ne 1 nk p t c 2 = nI (nk + 1) := mkR_s (k := 1) (by omega)
  have q5 : mkR r ne 1 nk p t c 5 = t := mkR_5
  obtain ⟨qp, qt, q3, q4⟩ := mkR_v (r := r) (ne := ne) (k := 1) (m := nk) (p := p) (t := t) (c := c) (by omega) hn
  have qn : ∀ j, 46 ≤ j → (j < 246 + 10 * nk ∨ 246 + 10 * nk + 10 ≤ j) → (j < 96 + 5 * nk ∨ 96 + 5 * nk + 5 ≤ j) → mkR r ne 1 nk p t c j = r j := fun j h0 h1 h2 => mkR_n (by omega) hn h0 (by omega) (by omega)
  have qh : ∀ e, e < 10 → mkR r ne 1 nk p t c (146 + 100 * 1 + 10 * nk + e) = hv r ne p t c e := fun e he => mkR_h (by omega) hn he
  generalize mkR r ne 1 nk p t c = r' at *
  obtain ⟨v', hv⟩ : ∃ v', v' = (sndV v 21 nk (upd (v 22) nk p) (upd (v 23) nk t) (upd (v 24) nk (r 3)) w2 (nI (nk + 1)) (oV (nI ne) (r 3) (r 4) t)) := ⟨_, rfl⟩
  rw [← hv]
  have w : ∀ j, (j ≠ 0 ∧ j ≠ 21 ∧ j ≠ 22 ∧ j ≠ 23 ∧ j ≠ 24 ∧ j ≠ 26 + nk) → v' j = v j := fun j hj => by rw [hv]; exact sndV_n (by omega)
  have ww : v' (26 + nk) = w2 := by rw [hv]; exact sndV_w (s := 21)
  have w0 : v' 0 = oV (nI ne) (r 3) (r 4) t := by rw [hv]; rfl
  have ws : v' 21 = fun _ => nI (nk + 1) := by rw [hv]; rfl
  have wa : v' 22 = upd (v 22) nk p := by rw [hv]; rfl
  have wb : v' 23 = upd (v 23) nk t := by rw [hv]; rfl
  have wc : v' 24 = upd (v 24) nk (r 3) := by rw [hv]; rfl
  refine Can.mk ((q 0 (by omega) (by omega) (by omega)).trans h.i.h0) h.i.e0 ((q 1 (by omega) (by omega) (by omega)).trans h.i.h1) (by omega) q1 (by omega) (by rw [q 3 (by omega) (by omega) (by omega)]; exact h.b3) (by rw [q 4 (by omega) (by omega) (by omega)]; exact h.b4) (by rw [q5]; exact ht)
    (h.ie.cg h.i.e0 (fun j _ _ => q j (by omega) (by omega) (by omega))) ?_ (by rw [w0]; rfl) (by rw [w 6 (by omega)]; exact h.n1) (by rw [ws]) (by rw [q 3 (by omega) (by omega) (by omega), w0]; rfl) (by rw [q 4 (by omega) (by omega) (by omega), w0]; rfl) (by rw [q5, w0]; rfl)
    (h.ce.cg h.i.e0 (fun j _ _ => q j (by omega) (by omega) (by omega)) (w 1 (by omega)) (w 2 (by omega)) (w 3 (by omega)) (w 4 (by omega))) (h.ct.cg h.i.e1 (fun j hj => qn j (by omega) (by omega) (by omega)) (w 7 (by omega)) (w 8 (by omega)) (w 9 (by omega)) (w 5 (by omega)) (fun m _ => w _ (by omega))) ?_
  · intro k m hk hm
    by_cases z : k = 1 ∧ m = nk
    · obtain ⟨rfl, rfl⟩ := z
      rw [qp, qt, q3, q4]
      exact ⟨hp, ht, h.b3, Or.inl rfl, fun e he => by rw [qh e he]; exact (hv_eq h hp ht).2.b⟩
    · have hm2 : m < (if k = 0 then nt else nk) := by
        rcases (show k = 0 ∨ k = 1 by omega) with rfl | rfl
        · simp only [if_pos] at hm ⊢; omega
        · simp only [show ¬ (1 = 0) by omega, if_false] at hm ⊢; omega
      have hm10 : m < 10 := by split at hm2 <;> omega
      have := h.is k m hk hm2
      rw [qn (46 + 50 * k + 5 * m + 0) (by omega) (by omega) (by omega), qn (46 + 50 * k + 5 * m + 1) (by omega) (by omega) (by omega), qn (46 + 50 * k + 5 * m + 3) (by omega) (by omega) (by omega), qn (46 + 50 * k + 5 * m + 4) (by omega) (by omega) (by omega)]
      exact ⟨this.1, this.2.1, this.2.2.1, this.2.2.2.1, fun e he => by rw [qn _ (by omega) (by omega) (by omega)]; exact this.2.2.2.2 e he⟩
  · intro m hm
    by_cases z : m = nk
    · subst z
      rw [wa, wb, wc, ww, qp, qt, q3, upd_s, upd_s, upd_s]
      exact ⟨rfl, rfl, rfl, fun e he => by rw [qh e he, hw e he]; exact (hv_eq h hp ht).2⟩
    · have := h.kn (show m < nk by omega)
      rw [wa, wb, wc, w (26 + m) (by omega), upd_n z, upd_n z, upd_n z, qn (46 + 50 * 1 + 5 * m + 0) (by omega) (by omega) (by omega), qn (46 + 50 * 1 + 5 * m + 1) (by omega) (by omega) (by omega), qn (46 + 50 * 1 + 5 * m + 3) (by omega) (by omega) (by omega)]
      exact ⟨this.1, this.2.1, this.2.2.1, fun e he => by rw [qn _ (by omega) (by omega) (by omega)]; exact this.2.2.2 e he⟩
end Snd2
