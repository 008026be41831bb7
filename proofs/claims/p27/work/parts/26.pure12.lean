/-! ===== the class's side: what its cells hold ===== -/
def SIL : Int32 := -1000000
def fdi (x y : Int32) : Int32 := if x ^^^ y < 0 ∧ ¬ x / y * y = x then x / y - 1 else x / y
def fdl (x y : Int64) : Int64 := if x ^^^ y < 0 ∧ ¬ x / y * y = x then x / y - 1 else x / y
/-- which offsets of a State's cells are arrays of numbers, and of which class -/
def isA (j : Nat) : Prop := 1 ≤ j ∧ j < 36 ∧ j ≠ 6 ∧ j ≠ 10 ∧ j ≠ 21 ∧ j ≠ 25
def tgA (j : Nat) : Nat := if j = 4 ∨ j = 5 then 2 else 0
/-- the cells b .. b+35 are a State; v j x is the number x of its cell j -/
def StA (cA : Nat → ClassId) (ad : Nat → Nat) (E : Nat → va_E) (b : Nat) (v : Nat → Nat → Int32) : Prop :=
  E b = .inr (5, [.ref (ad (b + 1)), .ref (ad (b + 2)), .ref (ad (b + 3)), .ref (ad (b + 4)), .ref (ad (b + 5)), .ref (ad (b + 6)), .ref (ad (b + 21)), .int (v 0 0), .int (v 0 1), .int (v 0 2), .int (v 0 3)]) ∧
  E (b + 6) = .inr (3, [.ref (ad (b + 7)), .ref (ad (b + 8)), .ref (ad (b + 9)), .ref (ad (b + 10)), .int (v 6 0)]) ∧
  E (b + 21) = .inr (3, [.ref (ad (b + 22)), .ref (ad (b + 23)), .ref (ad (b + 24)), .ref (ad (b + 25)), .int (v 21 0)]) ∧
  E (b + 10) = .inl (cA 5, 10, .inr (.inr (.inr (.inr (fun i => some (ad (b + 11 + i))))))) ∧
  E (b + 25) = .inl (cA 5, 10, .inr (.inr (.inr (.inr (fun i => some (ad (b + 26 + i))))))) ∧
  ∀ j, isA j → E (b + j) = .inl (cA (tgA j), 10, .inl (v j))
theorem StA.o {cA : Nat → ClassId} {ad : Nat → Nat} {E : Nat → va_E} {b : Nat} {v : Nat → Nat → Int32} (h : StA cA ad E b v) : E b = .inr (5, [.ref (ad (b + 1)), .ref (ad (b + 2)), .ref (ad (b + 3)), .ref (ad (b + 4)), .ref (ad (b + 5)), .ref (ad (b + 6)), .ref (ad (b + 21)), .int (v 0 0), .int (v 0 1), .int (v 0 2), .int (v 0 3)]) := h.1
theorem StA.t {cA : Nat → ClassId} {ad : Nat → Nat} {E : Nat → va_E} {b : Nat} {v : Nat → Nat → Int32} (h : StA cA ad E b v) : E (b + 6) = .inr (3, [.ref (ad (b + 7)), .ref (ad (b + 8)), .ref (ad (b + 9)), .ref (ad (b + 10)), .int (v 6 0)]) := h.2.1
theorem StA.k {cA : Nat → ClassId} {ad : Nat → Nat} {E : Nat → va_E} {b : Nat} {v : Nat → Nat → Int32} (h : StA cA ad E b v) : E (b + 21) = .inr (3, [.ref (ad (b + 22)), .ref (ad (b + 23)), .ref (ad (b + 24)), .ref (ad (b + 25)), .int (v 21 0)]) := h.2.2.1
theorem StA.rt {cA : Nat → ClassId} {ad : Nat → Nat} {E : Nat → va_E} {b : Nat} {v : Nat → Nat → Int32} (h : StA cA ad E b v) : E (b + 10) = .inl (cA 5, 10, .inr (.inr (.inr (.inr (fun i => some (ad (b + 11 + i))))))) := h.2.2.2.1
theorem StA.rk {cA : Nat → ClassId} {ad : Nat → Nat} {E : Nat → va_E} {b : Nat} {v : Nat → Nat → Int32} (h : StA cA ad E b v) : E (b + 25) = .inl (cA 5, 10, .inr (.inr (.inr (.inr (fun i => some (ad (b + 26 + i))))))) := h.2.2.2.2.1
theorem StA.a {cA : Nat → ClassId} {ad : Nat → Nat} {E : Nat → va_E} {b : Nat} {v : Nat → Nat → Int32} (h : StA cA ad E b v) (j : Nat) (hj : 1 ≤ j ∧ j < 36 ∧ j ≠ 6 ∧ j ≠ 10 ∧ j ≠ 21 ∧ j ≠ 25 ∧ j ≠ 4 ∧ j ≠ 5) : E (b + j) = .inl (cA 0, 10, .inl (v j)) := by
  have h1 := h.2.2.2.2.2 j ⟨by omega, by omega, by omega, by omega, by omega, by omega⟩
  rw [show tgA j = 0 from if_neg (by omega)] at h1
  exact h1
theorem StA.z {cA : Nat → ClassId} {ad : Nat → Nat} {E : Nat → va_E} {b : Nat} {v : Nat → Nat → Int32} (h : StA cA ad E b v) (j : Nat) (hj : j = 4 ∨ j = 5) : E (b + j) = .inl (cA 2, 10, .inl (v j)) := by
  have h1 := h.2.2.2.2.2 j ⟨by omega, by omega, by omega, by omega, by omega, by omega⟩
  rw [show tgA j = 2 from if_pos hj] at h1
  exact h1
theorem StA.fr {cA : Nat → ClassId} {ad : Nat → Nat} {E E' : Nat → va_E} {b : Nat} {v : Nat → Nat → Int32} (h : StA cA ad E b v) (hO : ∀ j, b ≤ j → j < b + 36 → E' j = E j) : StA cA ad E' b v := by
  obtain ⟨h1, h2, h3, h4, h5, h6⟩ := h
  exact ⟨(hO _ (by omega) (by omega)).trans h1, (hO _ (by omega) (by omega)).trans h2, (hO _ (by omega) (by omega)).trans h3, (hO _ (by omega) (by omega)).trans h4, (hO _ (by omega) (by omega)).trans h5, fun j hj => (hO _ (by omega) (by have := hj.2.1; omega)).trans (h6 j hj)⟩
/-- v with another row in the cell j -/
def vset (v : Nat → Nat → Int32) (j : Nat) (f : Nat → Int32) : Nat → Nat → Int32 := fun i => if i = j then f else v i
theorem vset_s {v : Nat → Nat → Int32} {j : Nat} {f : Nat → Int32} : vset v j f j = f := if_pos rfl
theorem vset_n {v : Nat → Nat → Int32} {j i : Nat} {f : Nat → Int32} (h : i ≠ j) : vset v j f i = v i := if_neg h
theorem StA.put {cA : Nat → ClassId} {ad : Nat → Nat} {E E' : Nat → va_E} {b : Nat} {v : Nat → Nat → Int32} (h : StA cA ad E b v) (j : Nat) {f : Nat → Int32} (hj : isA j) (hE : E' (b + j) = .inl (cA (tgA j), 10, .inl f)) (hO : ∀ i, i ≠ b + j → E' i = E i) : StA cA ad E' b (vset v j f) := by
  obtain ⟨h1, h2, h3, h4, h5, h6⟩ := h
  have q := hj
  unfold isA at q
  have e0 : vset v j f 0 = v 0 := vset_n (by omega)
  have e6 : vset v j f 6 = v 6 := vset_n (by omega)
  have e21 : vset v j f 21 = v 21 := vset_n (by omega)
  refine ⟨?_, ?_, ?_, (hO _ (by omega)).trans h4, (hO _ (by omega)).trans h5, fun i hi => ?_⟩
  · rw [e0]; exact (hO _ (by omega)).trans h1
  · rw [e6]; exact (hO _ (by omega)).trans h2
  · rw [e21]; exact (hO _ (by omega)).trans h3
  · by_cases e : i = j
    · subst e; rw [vset_s]; exact hE
    · rw [vset_n e]; exact (hO _ (by omega)).trans (h6 i hi)
/-- the numbers of the State itself put anew -/
theorem StA.puts {cA : Nat → ClassId} {ad : Nat → Nat} {E E' : Nat → va_E} {b : Nat} {v : Nat → Nat → Int32} (h : StA cA ad E b v) {f : Nat → Int32} (hE : E' b = .inr (5, [.ref (ad (b + 1)), .ref (ad (b + 2)), .ref (ad (b + 3)), .ref (ad (b + 4)), .ref (ad (b + 5)), .ref (ad (b + 6)), .ref (ad (b + 21)), .int (f 0), .int (f 1), .int (f 2), .int (f 3)])) (hO : ∀ i, i ≠ b → E' i = E i) : StA cA ad E' b (vset v 0 f) := by
  obtain ⟨h1, h2, h3, h4, h5, h6⟩ := h
  refine ⟨hE, ?_, ?_, (hO _ (by omega)).trans h4, (hO _ (by omega)).trans h5, fun i hi => ?_⟩
  · rw [vset_n (by omega)]; exact (hO _ (by omega)).trans h2
  · rw [vset_n (by omega)]; exact (hO _ (by omega)).trans h3
  · have := hi.1; rw [vset_n (by omega)]; exact (hO _ (by omega)).trans (h6 i hi)
/-- same numbers in the places that count -/
def vEq (v w : Nat → Nat → Int32) : Prop := ∀ j x, x < 10 → v j x = w j x
/-- the bounds of 0 and 1 that a boolean array keeps -/
def Bz (f : Nat → Int32) : Prop := ∀ x, x < 10 → f x = 0 ∨ f x = 1
theorem Bz.fits {f : Nat → Int32} (h : Bz f) : ∀ i, i < 10 → fits .boolean (.int (f i)) = true := fun i hi => fz01 (h i hi)
