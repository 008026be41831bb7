/-! ===== the class's texts of orders ===== -/
theorem asub {a b c : Int32} : a + (b - c) = a + b - c := by
  rw [Int32.sub_eq_add_neg, Int32.sub_eq_add_neg, Int32.add_assoc]
/-- the orders os stand in the arrays -/
def oH (os : List Ord) (ar pla ti re : Nat → Int32) : Prop := ∀ i o, os[i]? = some o → ar i = (if o.1 = 0 then 1 else 0) ∧ pla i = o.2.1 ∧ ti i = o.2.2.1 ∧ re i = o.2.2.2
theorem oH_0 {ar pla ti re : Nat → Int32} : oH [] ar pla ti re := fun i o h => by simp at h
theorem oH_t {os : List Ord} {ar pla ti re : Nat → Int32} {n k : Nat} {p t c f : Int32} (h : oH os ar pla ti re) (hn : os.length = n) (hf : f = (if k = 0 then 1 else 0)) : oH (os ++ [(k, p, t, c)]) (upd ar n f) (upd pla n p) (upd ti n t) (upd re n c) := by
  subst hn
  intro i o ho
  by_cases q : i = os.length
  · subst q
    rw [List.getElem?_append_right (Nat.le_refl _), Nat.sub_self] at ho
    simp at ho
    subst ho
    rw [upd_s, upd_s, upd_s, upd_s]
    exact ⟨hf, rfl, rfl, rfl⟩
  · have hi : i < os.length := by
      have h2 : i < (os ++ [(k, p, t, c)]).length := (List.getElem?_eq_some_iff.mp ho).1
      simp at h2
      omega
    rw [List.getElem?_append_left hi] at ho
    rw [upd_n q, upd_n q, upd_n q, upd_n q]
    exact h i o ho
