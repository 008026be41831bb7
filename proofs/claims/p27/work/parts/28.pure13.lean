def wy (p q : Int32) : Int32 := if 0 ≤ p - q then p - q else 0 - (p - q)
def hvC (ne : Nat) (pl ofs dr mu : Nat → Int32) (pace p t c : Int32) (e : Nat) : Int32 := if e < ne ∧ mu e = 0 ∧ (if 0 ≤ p - pl e then p - pl e else 0 - (p - pl e)) ≤ c then (t + pace * (if 0 ≤ p - pl e then p - pl e else 0 - (p - pl e))) + ofs e + fdi (dr e * (t + pace * (if 0 ≤ p - pl e then p - pl e else 0 - (p - pl e)))) 10000 else SIL
def hcC (ne : Nat) (pl mu : Nat → Int32) (p c : Int32) : Nat → Int32
  | 0 => 0
  | e + 1 => hcC ne pl mu p c e + (if e < ne ∧ mu e = 0 ∧ (if 0 ≤ p - pl e then p - pl e else 0 - (p - pl e)) ≤ c then 1 else 0)
theorem hcC_t {ne e : Nat} {pl mu : Nat → Int32} {p c : Int32} (h : e < ne ∧ mu e = 0 ∧ (if 0 ≤ p - pl e then p - pl e else 0 - (p - pl e)) ≤ c) : hcC ne pl mu p c (e + 1) = hcC ne pl mu p c e + 1 := by
  conv => lhs; unfold hcC
  rw [if_pos h]
theorem hcC_f {ne e : Nat} {pl mu : Nat → Int32} {p c : Int32} (h : ¬ (e < ne ∧ mu e = 0 ∧ (if 0 ≤ p - pl e then p - pl e else 0 - (p - pl e)) ≤ c)) : hcC ne pl mu p c (e + 1) = hcC ne pl mu p c e := by
  conv => lhs; unfold hcC
  rw [if_neg h]; simp
theorem rowS {w g : Nat → Int32} {i : Nat} {x : Int32} (h : ∀ e, e < i → w e = g e) (hx : x = g i) : ∀ e, e < i + 1 → upd w i x e = g e := by
  intro e he
  by_cases q : e = i
  · subst q; rw [upd_s]; exact hx
  · rw [upd_n q]; exact h e (by omega)
/-- knocks that an ear heard, by the class's rows -/
def kcC (R : Nat → Nat → Int32) (e : Nat) : Nat → Nat
  | 0 => 0
  | k + 1 => if R k e = SIL then kcC R e k else kcC R e k + 1
theorem rowsPut {cA : Nat → ClassId} {E E' : Nat → va_E} {b i : Nat} {R : Nat → Nat → Int32} {g : Nat → Int32} (hi : i < 10) (hR : ∀ j, j < 10 → E (b + j) = .inl (cA 0, 10, .inl (R j))) (hE : E' (b + i) = .inl (cA 0, 10, .inl g)) (hO : ∀ j, j ≠ b + i → E' j = E j) : ∀ j, j < 10 → E' (b + j) = .inl (cA 0, 10, .inl (vset R i g j)) := by
  intro j hj
  by_cases e : j = i
  · subst e; rw [vset_s]; exact hE
  · rw [vset_n e]; exact (hO _ (by omega)).trans (hR j hj)
theorem rowsEq {i : Nat} {R S : Nat → Nat → Int32} {g : Nat → Int32} (h : ∀ j, j < i → ∀ x, x < 10 → R j x = S j x) (hg : ∀ x, x < 10 → g x = S i x) : ∀ j, j < i + 1 → ∀ x, x < 10 → vset R i g j x = S j x := by
  intro j hj x hx
  by_cases e : j = i
  · subst e; rw [vset_s]; exact hg x hx
  · rw [vset_n e]; exact h j (by omega) x hx
