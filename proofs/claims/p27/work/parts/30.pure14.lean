/-- a State out of its cells -/
theorem StA.of {cA : Nat → ClassId} {ad : Nat → Nat} {E : Nat → va_E} {b : Nat} {v : Nat → Nat → Int32}
    (h0 : E b = .inr (5, [.ref (ad (b + 1)), .ref (ad (b + 2)), .ref (ad (b + 3)), .ref (ad (b + 4)), .ref (ad (b + 5)), .ref (ad (b + 6)), .ref (ad (b + 21)), .int (v 0 0), .int (v 0 1), .int (v 0 2), .int (v 0 3)]))
    (h6 : E (b + 6) = .inr (3, [.ref (ad (b + 7)), .ref (ad (b + 8)), .ref (ad (b + 9)), .ref (ad (b + 10)), .int (v 6 0)]))
    (h21 : E (b + 21) = .inr (3, [.ref (ad (b + 22)), .ref (ad (b + 23)), .ref (ad (b + 24)), .ref (ad (b + 25)), .int (v 21 0)]))
    (h10 : E (b + 10) = .inl (cA 5, 10, .inr (.inr (.inr (.inr (fun i => some (ad (b + 11 + i))))))))
    (h25 : E (b + 25) = .inl (cA 5, 10, .inr (.inr (.inr (.inr (fun i => some (ad (b + 26 + i))))))))
    (a1 : E (b + 1) = .inl (cA 0, 10, .inl (v 1))) (a2 : E (b + 2) = .inl (cA 0, 10, .inl (v 2))) (a3 : E (b + 3) = .inl (cA 0, 10, .inl (v 3))) (a4 : E (b + 4) = .inl (cA 2, 10, .inl (v 4))) (a5 : E (b + 5) = .inl (cA 2, 10, .inl (v 5)))
    (a7 : E (b + 7) = .inl (cA 0, 10, .inl (v 7))) (a8 : E (b + 8) = .inl (cA 0, 10, .inl (v 8))) (a9 : E (b + 9) = .inl (cA 0, 10, .inl (v 9))) (rT : ∀ i, i < 10 → E (b + 11 + i) = .inl (cA 0, 10, .inl (v (11 + i))))
    (a22 : E (b + 22) = .inl (cA 0, 10, .inl (v 22))) (a23 : E (b + 23) = .inl (cA 0, 10, .inl (v 23))) (a24 : E (b + 24) = .inl (cA 0, 10, .inl (v 24))) (rK : ∀ i, i < 10 → E (b + 26 + i) = .inl (cA 0, 10, .inl (v (26 + i)))) : StA cA ad E b v := by
  refine ⟨h0, h6, h21, h10, h25, fun j hj => ?_⟩
  obtain ⟨h1, h2, h3, h4, h5, h7⟩ := hj
  by_cases q1 : 11 ≤ j ∧ j < 21
  · have := rT (j - 11) (by omega)
    rw [show b + 11 + (j - 11) = b + j by omega, show 11 + (j - 11) = j by omega] at this
    rw [this, show tgA j = 0 from if_neg (by omega)]
  · by_cases q2 : 26 ≤ j
    · have := rK (j - 26) (by omega)
      rw [show b + 26 + (j - 26) = b + j by omega, show 26 + (j - 26) = j by omega] at this
      rw [this, show tgA j = 0 from if_neg (by omega)]
    · rcases (show j = 1 ∨ j = 2 ∨ j = 3 ∨ j = 4 ∨ j = 5 ∨ j = 7 ∨ j = 8 ∨ j = 9 ∨ j = 22 ∨ j = 23 ∨ j = 24 by omega) with rfl | rfl | rfl | rfl | rfl | rfl | rfl | rfl | rfl | rfl | rfl
      all_goals first | exact a1 | exact a2 | exact a3 | exact a4 | exact a5 | exact a7 | exact a8 | exact a9 | exact a22 | exact a23 | exact a24
/-- the numbers of a State copied from another's -/
def cpV (vo : Nat → Nat → Int32) (g1 g2 g3 g4 g5 a1 a2 a3 b1 b2 b3 : Nat → Int32) (R S : Nat → Nat → Int32) : Nat → Nat → Int32 := fun j =>
  if j = 1 then g1 else if j = 2 then g2 else if j = 3 then g3 else if j = 4 then g4 else if j = 5 then g5 else if j = 7 then a1 else if j = 8 then a2 else if j = 9 then a3 else if j = 22 then b1 else if j = 23 then b2 else if j = 24 then b3
  else if 11 ≤ j ∧ j < 21 then R (j - 11) else if 26 ≤ j ∧ j < 36 then S (j - 26) else vo j
theorem cpV_r {vo : Nat → Nat → Int32} {g1 g2 g3 g4 g5 a1 a2 a3 b1 b2 b3 : Nat → Int32} {R S : Nat → Nat → Int32} {i : Nat} (hi : i < 10) : cpV vo g1 g2 g3 g4 g5 a1 a2 a3 b1 b2 b3 R S (11 + i) = R i ∧ cpV vo g1 g2 g3 g4 g5 a1 a2 a3 b1 b2 b3 R S (26 + i) = S i := by
  constructor
  · unfold cpV
    repeat rw [if_neg (by omega)]
    rw [if_pos (by omega), show 11 + i - 11 = i by omega]
  · unfold cpV
    repeat rw [if_neg (by omega)]
    rw [if_pos (by omega), show 26 + i - 26 = i by omega]
theorem cpV_eq {vo : Nat → Nat → Int32} {g1 g2 g3 g4 g5 a1 a2 a3 b1 b2 b3 : Nat → Int32} {R S : Nat → Nat → Int32} (h1 : ∀ x, x < 10 → g1 x = vo 1 x) (h2 : ∀ x, x < 10 → g2 x = vo 2 x) (h3 : ∀ x, x < 10 → g3 x = vo 3 x) (h4 : ∀ x, x < 10 → g4 x = vo 4 x) (h5 : ∀ x, x < 10 → g5 x = vo 5 x)
    (k1 : ∀ x, x < 10 → a1 x = vo 7 x) (k2 : ∀ x, x < 10 → a2 x = vo 8 x) (k3 : ∀ x, x < 10 → a3 x = vo 9 x) (l1 : ∀ x, x < 10 → b1 x = vo 22 x) (l2 : ∀ x, x < 10 → b2 x = vo 23 x) (l3 : ∀ x, x < 10 → b3 x = vo 24 x)
    (hR : ∀ j, j < 10 → ∀ x, x < 10 → R j x = vo (11 + j) x) (hS : ∀ j, j < 10 → ∀ x, x < 10 → S j x = vo (26 + j) x) : vEq (cpV vo g1 g2 g3 g4 g5 a1 a2 a3 b1 b2 b3 R S) vo := by
  intro j x hx
  by_cases q1 : 11 ≤ j ∧ j < 21
  · have h := hR (j - 11) (by omega) x hx
    have e : j = 11 + (j - 11) := by omega
    rw [← e] at h
    rw [e, (cpV_r (by omega)).1, ← e]
    exact h
  by_cases q2 : 26 ≤ j ∧ j < 36
  · have h := hS (j - 26) (by omega) x hx
    have e : j = 26 + (j - 26) := by omega
    rw [← e] at h
    rw [e, (cpV_r (by omega)).2, ← e]
    exact h
  by_cases q : j = 1 ∨ j = 2 ∨ j = 3 ∨ j = 4 ∨ j = 5 ∨ j = 7 ∨ j = 8 ∨ j = 9 ∨ j = 22 ∨ j = 23 ∨ j = 24
  · rcases q with rfl | rfl | rfl | rfl | rfl | rfl | rfl | rfl | rfl | rfl | rfl
    · exact h1 x hx
    · exact h2 x hx
    · exact h3 x hx
    · exact h4 x hx
    · exact h5 x hx
    · exact k1 x hx
    · exact k2 x hx
    · exact k3 x hx
    · exact l1 x hx
    · exact l2 x hx
    · exact l3 x hx
  · unfold cpV
    repeat rw [if_neg (by omega)]
theorem StA.row {cA : Nat → ClassId} {ad : Nat → Nat} {E : Nat → va_E} {b : Nat} {v : Nat → Nat → Int32} (h : StA cA ad E b v) (n i : Nat) (hn : n = 11 ∨ n = 26) (hi : i < 10) : E (b + n + i) = .inl (cA 0, 10, .inl (v (n + i))) := by
  rw [Nat.add_assoc]
  exact h.a (n + i) (by omega)
