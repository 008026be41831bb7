theorem Can.pace {v : Nat → Nat → Int32} {r : Nat → Int32} {ne nt nk : Nat} {x : Int32} (h : Can v r ne nt nk) (hx : 1 ≤ x.toInt ∧ x.toInt ≤ 20) : Can (vset v 0 (oV (nI ne) x (r 4) (r 5))) (upd r 3 x) ne nt nk := by
  have q : ∀ j, j ≠ 3 → upd r 3 x j = r j := fun j hj => upd_n hj
  have w : ∀ j, j ≠ 0 → vset v 0 (oV (nI ne) x (r 4) (r 5)) j = v j := fun j hj => vset_n hj
  exact Can.mk ((q 0 (by omega)).trans h.i.h0) h.i.e0 ((q 1 (by omega)).trans h.i.h1) h.i.e1 ((q 2 (by omega)).trans h.i.h2) h.i.e2 (by rw [upd_s]; exact hx) (by rw [q 4 (by omega)]; exact h.b4) (by rw [q 5 (by omega)]; exact h.b5)
    (h.ie.cg h.i.e0 (fun j _ _ => q j (by omega))) (h.is.cg h.i.e1 h.i.e2 (fun j _ _ => q j (by omega))) rfl (by rw [w 6 (by omega)]; exact h.n1) (by rw [w 21 (by omega)]; exact h.n2) (by rw [upd_s]; rfl) (by rw [q 4 (by omega)]; rfl) (by rw [q 5 (by omega)]; rfl)
    (h.ce.cg h.i.e0 (fun j _ _ => q j (by omega)) (w 1 (by omega)) (w 2 (by omega)) (w 3 (by omega)) (w 4 (by omega))) (h.ct.cg h.i.e1 (fun j hj => q j (by omega)) (w 7 (by omega)) (w 8 (by omega)) (w 9 (by omega)) (w 5 (by omega)) (fun m _ => w _ (by omega))) (h.ck.cg h.i.e2 (fun j hj => q j (by omega)) (w 22 (by omega)) (w 23 (by omega)) (w 24 (by omega)) (fun m _ => w _ (by omega)))
theorem Can.tol {v : Nat → Nat → Int32} {r : Nat → Int32} {ne nt nk : Nat} {x : Int32} (h : Can v r ne nt nk) (hx : 0 ≤ x.toInt ∧ x.toInt ≤ 500) : Can (vset v 0 (oV (nI ne) (r 3) x (r 5))) (upd r 4 x) ne nt nk := by
  have q : ∀ j, j ≠ 4 → upd r 4 x j = r j := fun j hj => upd_n hj
  have w : ∀ j, j ≠ 0 → vset v 0 (oV (nI ne) (r 3) x (r 5)) j = v j := fun j hj => vset_n hj
  exact Can.mk ((q 0 (by omega)).trans h.i.h0) h.i.e0 ((q 1 (by omega)).trans h.i.h1) h.i.e1 ((q 2 (by omega)).trans h.i.h2) h.i.e2 (by rw [q 3 (by omega)]; exact h.b3) (by rw [upd_s]; exact hx) (by rw [q 5 (by omega)]; exact h.b5)
    (h.ie.cg h.i.e0 (fun j _ _ => q j (by omega))) (h.is.cg h.i.e1 h.i.e2 (fun j _ _ => q j (by omega))) rfl (by rw [w 6 (by omega)]; exact h.n1) (by rw [w 21 (by omega)]; exact h.n2) (by rw [q 3 (by omega)]; rfl) (by rw [upd_s]; rfl) (by rw [q 5 (by omega)]; rfl)
    (h.ce.cg h.i.e0 (fun j _ _ => q j (by omega)) (w 1 (by omega)) (w 2 (by omega)) (w 3 (by omega)) (w 4 (by omega))) (h.ct.cg h.i.e1 (fun j hj => q j (by omega)) (w 7 (by omega)) (w 8 (by omega)) (w 9 (by omega)) (w 5 (by omega)) (fun m _ => w _ (by omega))) (h.ck.cg h.i.e2 (fun j hj => q j (by omega)) (w 22 (by omega)) (w 23 (by omega)) (w 24 (by omega)) (fun m _ => w _ (by omega)))
theorem Can.bury {v : Nat → Nat → Int32} {r : Nat → Int32} {ne nt nk : Nat} {p : Int32} (h : Can v r ne nt nk) (hn : ne < 10) (hp : 0 ≤ p.toInt ∧ p.toInt ≤ 1000) : Can (vset (vset v 1 (upd (v 1) ne p)) 0 (oV (nI (ne + 1)) (r 3) (r 4) (r 5))) (upd (upd (upd (upd (upd r (6 + 4 * ne) p) (6 + 4 * ne + 1) 0) (6 + 4 * ne + 2) 0) (6 + 4 * ne + 3) 0) 0 (nI (ne + 1))) (ne + 1) nt nk := by
  obtain ⟨r', hr⟩ : ∃ r', r' = upd (upd (upd (upd (upd r (6 + 4 * ne) p) (6 + 4 * ne + 1) 0) (6 + 4 * ne + 2) 0) (6 + 4 * ne + 3) 0) 0 (nI (ne + 1)) := ⟨_, rfl⟩
  obtain ⟨v', hv⟩ : ∃ v', v' = vset (vset v 1 (upd (v 1) ne p)) 0 (oV (nI (ne + 1)) (r 3) (r 4) (r 5)) := ⟨_, rfl⟩
  rw [← hr, ← hv]
  have q : ∀ j, j ≠ 0 → (j < 6 + 4 * ne ∨ 6 + 4 * ne + 4 ≤ j) → r' j = r j := fun j h0 h1 => by
    rw [hr, upd_n (by omega), upd_n (by omega), upd_n (by omega), upd_n (by omega), upd_n (by omega)]
  have q0 : r' 0 = nI (ne + 1) := by rw [hr, upd_s]
  have qa : r' (6 + 4 * ne + 0) = p := by rw [hr, upd_n (by omega), upd_n (by omega), upd_n (by omega), upd_n (by omega)]; exact upd_s
  have qb : r' (6 + 4 * ne + 1) = 0 := by rw [hr, upd_n (by omega), upd_n (by omega), upd_n (by omega), upd_s]
  have qc : r' (6 + 4 * ne + 2) = 0 := by rw [hr, upd_n (by omega), upd_n (by omega), upd_s]
  have qd : r' (6 + 4 * ne + 3) = 0 := by rw [hr, upd_n (by omega), upd_s]
  have w : ∀ j, j ≠ 0 → j ≠ 1 → v' j = v j := fun j h0 h1 => by rw [hv, vset_n h0, vset_n h1]
  have w1 : v' 1 = upd (v 1) ne p := by rw [hv, vset_n (by omega), vset_s]
  have w0 : v' 0 = oV (nI (ne + 1)) (r 3) (r 4) (r 5) := by rw [hv, vset_s]
  have z0 : (0 : Int32).toInt = 0 := by decide
  refine Can.mk q0 (by omega) ((q 1 (by omega) (by omega)).trans h.i.h1) h.i.e1 ((q 2 (by omega) (by omega)).trans h.i.h2) h.i.e2 (by rw [q 3 (by omega) (by omega)]; exact h.b3) (by rw [q 4 (by omega) (by omega)]; exact h.b4) (by rw [q 5 (by omega) (by omega)]; exact h.b5)
    ?_ (h.is.cg h.i.e1 h.i.e2 (fun j _ _ => q j (by omega) (by omega))) (by rw [w0]; rfl) (by rw [w 6 (by omega) (by omega)]; exact h.n1) (by rw [w 21 (by omega) (by omega)]; exact h.n2) (by rw [q 3 (by omega) (by omega), w0]; rfl) (by rw [q 4 (by omega) (by omega), w0]; rfl) (by rw [q 5 (by omega) (by omega), w0]; rfl)
    ⟨?_, ?_⟩ (h.ct.cg h.i.e1 (fun j hj => q j (by omega) (by omega)) (w 7 (by omega) (by omega)) (w 8 (by omega) (by omega)) (w 9 (by omega) (by omega)) (w 5 (by omega) (by omega)) (fun m _ => w _ (by omega) (by omega))) (h.ck.cg h.i.e2 (fun j hj => q j (by omega) (by omega)) (w 22 (by omega) (by omega)) (w 23 (by omega) (by omega)) (w 24 (by omega) (by omega)) (fun m _ => w _ (by omega) (by omega)))
  · intro e he
    by_cases x : e = ne
    · subst x
      rw [qa, qb, qc, qd, z0]
      exact ⟨hp, Or.inl rfl, by omega, by omega⟩
    · have := h.ie e (by omega)
      rw [q _ (by omega) (by omega), q _ (by omega) (by omega), q _ (by omega) (by omega), q _ (by omega) (by omega)]
      exact this
  · intro e he
    rw [w1, w 4 (by omega) (by omega), w 2 (by omega) (by omega), w 3 (by omega) (by omega)]
    by_cases x : e = ne
    · subst x
      obtain ⟨b1, b2, b3⟩ := h.bey (Nat.le_refl _) hn
      rw [qa, qb, qc, qd, upd_s]
      exact ⟨rfl, b3, b1, b2⟩
    · rw [q _ (by omega) (by omega), q _ (by omega) (by omega), q _ (by omega) (by omega), q _ (by omega) (by omega), upd_n x]
      exact h.ear (by omega)
  · intro e h1 h2
    rw [w 4 (by omega) (by omega), w 2 (by omega) (by omega), w 3 (by omega) (by omega)]
    exact h.bey (by omega) h2
theorem Can.clock {v : Nat → Nat → Int32} {r : Nat → Int32} {ne nt nk e0 : Nat} {x y : Int32} (h : Can v r ne nt nk) (hn : e0 < ne) (hx : -500 ≤ x.toInt ∧ x.toInt ≤ 500) (hy : -50 ≤ y.toInt ∧ y.toInt ≤ 50) : Can (vset (vset v 2 (upd (v 2) e0 x)) 3 (upd (v 3) e0 y)) (upd (upd r (6 + 4 * e0 + 2) x) (6 + 4 * e0 + 3) y) ne nt nk := by
  have hne := h.i.e0
  obtain ⟨r', hr⟩ : ∃ r', r' = upd (upd r (6 + 4 * e0 + 2) x) (6 + 4 * e0 + 3) y := ⟨_, rfl⟩
  obtain ⟨v', hv⟩ : ∃ v', v' = vset (vset v 2 (upd (v 2) e0 x)) 3 (upd (v 3) e0 y) := ⟨_, rfl⟩
  rw [← hr, ← hv]
  have q : ∀ j, (j ≠ 6 + 4 * e0 + 2 ∧ j ≠ 6 + 4 * e0 + 3) → r' j = r j := fun j h1 => by rw [hr, upd_n (by omega), upd_n (by omega)]
  have qc : r' (6 + 4 * e0 + 2) = x := by rw [hr, upd_n (by omega), upd_s]
  have qd : r' (6 + 4 * e0 + 3) = y := by rw [hr, upd_s]
  have w : ∀ j, j ≠ 2 → j ≠ 3 → v' j = v j := fun j h0 h1 => by rw [hv, vset_n h1, vset_n h0]
  have w2 : v' 2 = upd (v 2) e0 x := by rw [hv, vset_n (by omega), vset_s]
  have w3 : v' 3 = upd (v 3) e0 y := by rw [hv, vset_s]
  have w0 := w 0 (by omega) (by omega)
  refine Can.mk ((q 0 (by omega)).trans h.i.h0) h.i.e0 ((q 1 (by omega)).trans h.i.h1) h.i.e1 ((q 2 (by omega)).trans h.i.h2) h.i.e2 (by rw [q 3 (by omega)]; exact h.b3) (by rw [q 4 (by omega)]; exact h.b4) (by rw [q 5 (by omega)]; exact h.b5)
    ?_ (h.is.cg h.i.e1 h.i.e2 (fun j _ _ => q j (by omega))) (by rw [w0]; exact h.n0) (by rw [w 6 (by omega) (by omega)]; exact h.n1) (by rw [w 21 (by omega) (by omega)]; exact h.n2) (by rw [q 3 (by omega), w0]; exact h.r3) (by rw [q 4 (by omega), w0]; exact h.r4) (by rw [q 5 (by omega), w0]; exact h.r5)
    ⟨?_, ?_⟩ (h.ct.cg h.i.e1 (fun j hj => q j (by omega)) (w 7 (by omega) (by omega)) (w 8 (by omega) (by omega)) (w 9 (by omega) (by omega)) (w 5 (by omega) (by omega)) (fun m _ => w _ (by omega) (by omega))) (h.ck.cg h.i.e2 (fun j hj => q j (by omega)) (w 22 (by omega) (by omega)) (w 23 (by omega) (by omega)) (w 24 (by omega) (by omega)) (fun m _ => w _ (by omega) (by omega)))
  · intro e he
    have := h.ie e he
    rw [q (6 + 4 * e + 0) (by omega), q (6 + 4 * e + 1) (by omega)]
    by_cases z : e = e0
    · subst z
      rw [qc, qd]
      exact ⟨this.1, this.2.1, hx, hy⟩
    · rw [q _ (by omega), q _ (by omega)]
      exact this
  · intro e he
    have := h.ear he
    rw [w 1 (by omega) (by omega), w 4 (by omega) (by omega), w2, w3, q (6 + 4 * e + 0) (by omega), q (6 + 4 * e + 1) (by omega)]
    by_cases z : e = e0
    · subst z
      rw [qc, qd, upd_s, upd_s]
      exact ⟨this.1, this.2.1, rfl, rfl⟩
    · rw [q _ (by omega), q _ (by omega), upd_n z, upd_n z]
      exact this
  · intro e h1 h2
    rw [w 4 (by omega) (by omega), w2, w3, upd_n (by omega), upd_n (by omega)]
    exact h.bey h1 h2
theorem Can.mute {v : Nat → Nat → Int32} {r : Nat → Int32} {ne nt nk e0 : Nat} {x : Int32} (h : Can v r ne nt nk) (hn : e0 < ne) (hx : x = 0 ∨ x = 1) : Can (vset v 4 (upd (v 4) e0 x)) (upd r (6 + 4 * e0 + 1) x) ne nt nk := by
  have hne := h.i.e0
  have q : ∀ j, j ≠ 6 + 4 * e0 + 1 → upd r (6 + 4 * e0 + 1) x j = r j := fun j h1 => upd_n h1
  have w : ∀ j, j ≠ 4 → vset v 4 (upd (v 4) e0 x) j = v j := fun j h0 => vset_n h0
  have w4 : vset v 4 (upd (v 4) e0 x) 4 = upd (v 4) e0 x := vset_s
  have w0 := w 0 (by omega)
  refine Can.mk ((q 0 (by omega)).trans h.i.h0) h.i.e0 ((q 1 (by omega)).trans h.i.h1) h.i.e1 ((q 2 (by omega)).trans h.i.h2) h.i.e2 (by rw [q 3 (by omega)]; exact h.b3) (by rw [q 4 (by omega)]; exact h.b4) (by rw [q 5 (by omega)]; exact h.b5)
    ?_ (h.is.cg h.i.e1 h.i.e2 (fun j _ _ => q j (by omega))) (by rw [w0]; exact h.n0) (by rw [w 6 (by omega)]; exact h.n1) (by rw [w 21 (by omega)]; exact h.n2) (by rw [q 3 (by omega), w0]; exact h.r3) (by rw [q 4 (by omega), w0]; exact h.r4) (by rw [q 5 (by omega), w0]; exact h.r5)
    ⟨?_, ?_⟩ (h.ct.cg h.i.e1 (fun j hj => q j (by omega)) (w 7 (by omega)) (w 8 (by omega)) (w 9 (by omega)) (w 5 (by omega)) (fun m _ => w _ (by omega))) (h.ck.cg h.i.e2 (fun j hj => q j (by omega)) (w 22 (by omega)) (w 23 (by omega)) (w 24 (by omega)) (fun m _ => w _ (by omega)))
  · intro e he
    have := h.ie e he
    rw [q (6 + 4 * e + 0) (by omega), q (6 + 4 * e + 2) (by omega), q (6 + 4 * e + 3) (by omega)]
    by_cases z : e = e0
    · subst z
      rw [upd_s]
      exact ⟨this.1, hx, this.2.2.1, this.2.2.2⟩
    · rw [q _ (by omega)]
      exact this
  · intro e he
    have := h.ear he
    rw [w 1 (by omega), w 2 (by omega), w 3 (by omega), w4, q (6 + 4 * e + 0) (by omega), q (6 + 4 * e + 2) (by omega), q (6 + 4 * e + 3) (by omega)]
    by_cases z : e = e0
    · subst z
      rw [upd_s, upd_s]
      exact ⟨this.1, rfl, this.2.2.1, this.2.2.2⟩
    · rw [q _ (by omega), upd_n z]
      exact this
  · intro e h1 h2
    rw [w 2 (by omega), w 3 (by omega), w4, upd_n (by omega)]
    exact h.bey h1 h2
theorem Can.leave {v : Nat → Nat → Int32} {r : Nat → Int32} {ne nt nk t0 : Nat} {x : Int32} (h : Can v r ne nt nk) (hn : t0 < nt) (hx : x = 0 ∨ x = 1) : Can (vset v 5 (upd (v 5) t0 x)) (upd r (46 + 5 * t0 + 4) x) ne nt nk := by
  have hnt := h.i.e1
  have q : ∀ j, j ≠ 46 + 5 * t0 + 4 → upd r (46 + 5 * t0 + 4) x j = r j := fun j h1 => upd_n h1
  have qs : ∀ m, m = t0 → upd r (46 + 5 * t0 + 4) x (46 + 50 * 0 + 5 * m + 4) = x := fun m hm => by
    rw [show 46 + 50 * 0 + 5 * m + 4 = 46 + 5 * t0 + 4 by omega, upd_s]
  have w : ∀ j, j ≠ 5 → vset v 5 (upd (v 5) t0 x) j = v j := fun j h0 => vset_n h0
  have w5 : vset v 5 (upd (v 5) t0 x) 5 = upd (v 5) t0 x := vset_s
  have w0 := w 0 (by omega)
  refine Can.mk ((q 0 (by omega)).trans h.i.h0) h.i.e0 ((q 1 (by omega)).trans h.i.h1) h.i.e1 ((q 2 (by omega)).trans h.i.h2) h.i.e2 (by rw [q 3 (by omega)]; exact h.b3) (by rw [q 4 (by omega)]; exact h.b4) (by rw [q 5 (by omega)]; exact h.b5)
    (h.ie.cg h.i.e0 (fun j _ _ => q j (by omega))) ?_ (by rw [w0]; exact h.n0) (by rw [w 6 (by omega)]; exact h.n1) (by rw [w 21 (by omega)]; exact h.n2) (by rw [q 3 (by omega), w0]; exact h.r3) (by rw [q 4 (by omega), w0]; exact h.r4) (by rw [q 5 (by omega), w0]; exact h.r5)
    (h.ce.cg h.i.e0 (fun j _ _ => q j (by omega)) (w 1 (by omega)) (w 2 (by omega)) (w 3 (by omega)) (w 4 (by omega))) ⟨?_, ?_⟩ (h.ck.cg h.i.e2 (fun j hj => q j (by omega)) (w 22 (by omega)) (w 23 (by omega)) (w 24 (by omega)) (fun m _ => w _ (by omega)))
  · intro k m hk hm
    have := h.is k m hk hm
    have hm10 : m < 10 := by have := h.i.e2; split at hm <;> omega
    rw [q (46 + 50 * k + 5 * m + 0) (by omega), q (46 + 50 * k + 5 * m + 1) (by omega), q (46 + 50 * k + 5 * m + 3) (by omega)]
    refine ⟨this.1, this.2.1, this.2.2.1, ?_, fun e he => by rw [q _ (by omega)]; exact this.2.2.2.2 e he⟩
    by_cases z : k = 0 ∧ m = t0
    · obtain ⟨rfl, z⟩ := z
      rw [qs m z]; exact hx
    · rw [q _ (by omega)]; exact this.2.2.2.1
  · intro m hm
    have := h.th hm
    rw [w 7 (by omega), w 8 (by omega), w 9 (by omega), w5, q (46 + 50 * 0 + 5 * m + 0) (by omega), q (46 + 50 * 0 + 5 * m + 1) (by omega), q (46 + 50 * 0 + 5 * m + 3) (by omega)]
    refine ⟨this.1, this.2.1, this.2.2.1, ?_, fun e he => by rw [q _ (by omega), w _ (by omega)]; exact this.2.2.2.2 e he⟩
    by_cases z : m = t0
    · rw [qs m z]; subst z; rw [upd_s]
    · rw [q _ (by omega), upd_n z]; exact this.2.2.2.1
  · intro m h1 h2
    rw [w5, upd_n (by omega)]
    exact h.beyT h1 h2
