/-! ===== the class's history ===== -/
def rot {α : Type} (f : Nat → α) : Nat → α := fun i => if i = 3 then f 0 else if i < 3 then f (i + 1) else f i
theorem rot_eq {tg : Nat → Nat} {ad : Nat → Nat} : (fun i => some (ad (rot tg i))) = va_up (va_up (va_up (va_up (fun i => some (ad (tg i))) 0 (some (ad (tg 1)))) 1 (some (ad (tg 2)))) 2 (some (ad (tg 3)))) 3 (some (ad (tg 0))) := by
  funext i
  unfold va_up rot
  by_cases e3 : i = 3
  · subst e3; rfl
  · by_cases e2 : i = 2
    · subst e2; rfl
    · by_cases e1 : i = 1
      · subst e1; rfl
      · by_cases e0 : i = 0
        · subst e0; rfl
        · rw [if_neg e3, if_neg e3, if_neg e2, if_neg e1, if_neg e0, if_neg (by omega)]
/-- the cells of the four States of the history: apart from each other, within the history's cells -/
def Tg (tg : Nat → Nat) : Prop := ∀ i, i < 4 → (75 ≤ tg i ∧ tg i + 36 ≤ 219) ∧ ∀ j, j < 4 → i ≠ j → tg i + 36 ≤ tg j ∨ tg j + 36 ≤ tg i
theorem rot_lt {i : Nat} (hi : i < 4) : ∃ k, k < 4 ∧ (k = if i = 3 then 0 else i + 1) ∧ ∀ (α : Type) (f : Nat → α), rot f i = f k := by
  by_cases e : i = 3
  · subst e; exact ⟨0, by omega, rfl, fun _ _ => rfl⟩
  · refine ⟨i + 1, by omega, by rw [if_neg e], fun α f => ?_⟩
    unfold rot
    rw [if_neg e, if_pos (by omega)]
theorem Tg.rot {tg : Nat → Nat} (h : Tg tg) : Tg (rot tg) := by
  intro i hi
  obtain ⟨k, hk, ek, hr⟩ := rot_lt hi
  rw [hr]
  refine ⟨(h k hk).1, fun j hj hij => ?_⟩
  obtain ⟨m, hm, em, hs⟩ := rot_lt hj
  rw [hs]
  refine (h k hk).2 m hm ?_
  rw [ek, em]
  split <;> split <;> omega
/-- where a push writes, and what the slots are then -/
def pAt (nh : Nat) : Nat := if nh = 4 then 3 else nh
def pRot {α : Type} (nh : Nat) (f : Nat → α) : Nat → α := if nh = 4 then rot f else f
theorem Tg.p {tg : Nat → Nat} {nh : Nat} (h : Tg tg) : Tg (pRot nh tg) := by
  unfold pRot
  split
  · exact h.rot
  · exact h
theorem hs_put {cA : Nat → ClassId} {ad : Nat → Nat} {E E' : Nat → va_E} {tg : Nat → Nat} {vh : Nat → Nat → Nat → Int32} {m : Nat} {w : Nat → Nat → Int32} (hT : Tg tg) (hm : m < 4) (h : ∀ i, i < 4 → StA cA ad E (tg i) (vh i)) (hw : StA cA ad E' (tg m) w) (hO : ∀ j, (j < tg m ∨ tg m + 36 ≤ j) → E' j = E j) : ∀ i, i < 4 → StA cA ad E' (tg i) ((va_up vh m w) i) := by
  intro i hi
  unfold va_up
  by_cases e : i = m
  · subst e; rw [if_pos rfl]; exact hw
  · rw [if_neg e]
    refine (h i hi).fr (fun j h1 h2 => hO j ?_)
    have := (hT i hi).2 m hm e
    omega
theorem hs_rot {cA : Nat → ClassId} {ad : Nat → Nat} {E : Nat → va_E} {tg : Nat → Nat} {vh : Nat → Nat → Nat → Int32} (h : ∀ i, i < 4 → StA cA ad E (tg i) (vh i)) : ∀ i, i < 4 → StA cA ad E (rot tg i) (rot vh i) := by
  intro i hi
  obtain ⟨k, hk, ek, hr⟩ := rot_lt hi
  rw [hr, hr]
  exact h k hk
