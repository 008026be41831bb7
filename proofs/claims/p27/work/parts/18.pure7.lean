def rgO (r : Nat → Int32) (nt kn e : Nat) : Int64 := if r (146 + 100 * 1 + 10 * kn + e) = MISS then 0 else rgt r nt kn e
theorem frS {rt g : Nat → Int64} {i : Nat} {x : Int64} (h : ∀ e, e < i → rt e = g e) (hx : x = g i) : ∀ e, e < i + 1 → (vp_updL rt i x) e = g e := by
  intro e he
  unfold vp_updL
  by_cases q : e = i
  · subst q; rw [if_pos rfl]; exact hx
  · rw [if_neg q]; exact h e (by omega)
/-- the ear that fits least, of the ears below e -/
def wsA (r : Nat → Int32) (nt kn : Nat) (x : Int32) (t : Int64) (e : Nat) : Nat × Int64 := wsF (fun i => ab64 (bg r nt kn x (hI r kn e i) - t)) (hC r kn e - 1)
theorem wsA_f {r : Nat → Int32} {nt kn e : Nat} {x : Int32} {t : Int64} (h : r (146 + 100 * 1 + 10 * kn + e) = MISS) : wsA r nt kn x t (e + 1) = wsA r nt kn x t e := by
  unfold wsA
  rw [(hF_f h).1, (hF_f h).2]
theorem wsA_0 {r : Nat → Int32} {nt kn e : Nat} {x : Int32} {t : Int64} (h : ¬ r (146 + 100 * 1 + 10 * kn + e) = MISS) (h0 : hC r kn e = 0) : wsA r nt kn x t (e + 1) = (0, ab64 (bg r nt kn x e - t)) ∧ hI r kn (e + 1) 0 = e := by
  unfold wsA
  rw [(hF_t h).1, (hF_t h).2, h0]
  exact ⟨rfl, rfl⟩
theorem wsA_t {r : Nat → Int32} {nt kn e : Nat} {x : Int32} {t : Int64} (h : ¬ r (146 + 100 * 1 + 10 * kn + e) = MISS) (h0 : 0 < hC r kn e) : wsA r nt kn x t (e + 1) = (if (wsA r nt kn x t e).2 < ab64 (bg r nt kn x e - t) then (hC r kn e, ab64 (bg r nt kn x e - t)) else wsA r nt kn x t e) ∧ hI r kn (e + 1) (hC r kn e) = e ∧ hI r kn (e + 1) (wsA r nt kn x t e).1 = hI r kn e (wsA r nt kn x t e).1 := by
  obtain ⟨c, hc⟩ : ∃ c, hC r kn e = c + 1 := ⟨hC r kn e - 1, by omega⟩
  have e1 : ∀ j, j ≤ c → ab64 (bg r nt kn x (if j = hC r kn e then e else hI r kn e j) - t) = ab64 (bg r nt kn x (hI r kn e j) - t) := fun j hj => by rw [if_neg (by omega)]
  have e2 : (if c + 1 = hC r kn e then e else hI r kn e (c + 1)) = e := if_pos (by omega)
  have hle : (wsA r nt kn x t e).1 ≤ c := by
    have := wsF_le (a := fun i => ab64 (bg r nt kn x (hI r kn e i) - t)) (hC r kn e - 1)
    unfold wsA
    omega
  refine ⟨?_, ?_, ?_⟩
  · unfold wsA
    rw [(hF_t h).1, (hF_t h).2, show hC r kn e + 1 - 1 = c + 1 by omega, show hC r kn e - 1 = c by omega]
    conv => lhs; unfold wsF
    rw [wsF_cg c e1]
    simp only [e2]
    rw [hc]
  · rw [(hF_t h).2]
    exact if_pos rfl
  · rw [(hF_t h).2]
    exact if_neg (by omega)
/-- the time of a knock, by the place x -/
def tmK (r : Nat → Int32) (ne nt kn : Nat) (x : Int32) : Int64 := dn (lsB r nt kn x ne + msB r nt kn x ne) 2
def wrE (r : Nat → Int32) (ne nt kn : Nat) (x : Int32) (t : Int64) : Nat := hI r kn ne (wsA r nt kn x t ne).1
def sFound (r : Nat → Int32) (ne nt nk : Nat) (kn what : Int32) : Int64 :=
  if kn < 0 ∨ nk ≤ kn.toNatClampNeg then toldAs (-1) else if ¬ (0 ≤ what ∧ what ≤ 5) then toldAs (-2)
  else if what = 3 then (nI (hC r kn.toNatClampNeg ne)).toInt64 else if hC r kn.toNatClampNeg ne < 2 then toldAs (-4)
  else if what = 0 then (nI (plc r ne nt kn.toNatClampNeg)).toInt64 else if what = 1 then tmK r ne nt kn.toNatClampNeg (nI (plc r ne nt kn.toNatClampNeg))
  else if what = 2 then spW r ne nt kn.toNatClampNeg (nI (plc r ne nt kn.toNatClampNeg))
  else if what = 4 then (if spW r ne nt kn.toNatClampNeg (nI (plc r ne nt kn.toNatClampNeg)) ≤ 1000 * (r 4).toInt64 then 1 else 0)
  else (nI (wrE r ne nt kn.toNatClampNeg (nI (plc r ne nt kn.toNatClampNeg)) (tmK r ne nt kn.toNatClampNeg (nI (plc r ne nt kn.toNatClampNeg))))).toInt64
def sSpread (r : Nat → Int32) (ne nt nk : Nat) (kn x : Int32) : Int64 :=
  if kn < 0 ∨ nk ≤ kn.toNatClampNeg then toldAs (-1) else if ¬ (0 ≤ x ∧ x ≤ 1000) then toldAs (-2) else if hC r kn.toNatClampNeg ne < 2 then toldAs (-4) else spW r ne nt kn.toNatClampNeg x
def sTruth (r : Nat → Int32) (ne nt nk : Nat) (kn what : Int32) : Int32 :=
  if kn < 0 ∨ nk ≤ kn.toNatClampNeg then -1 else if ¬ (0 ≤ what ∧ what ≤ 2) then -2
  else if what = 0 then r (46 + 50 * 1 + 5 * kn.toNatClampNeg + 0) else if what = 1 then r (46 + 50 * 1 + 5 * kn.toNatClampNeg + 1)
  else if hC r kn.toNatClampNeg ne < 2 then -4 else far (nI (plc r ne nt kn.toNatClampNeg)) (r (46 + 50 * 1 + 5 * kn.toNatClampNeg + 0))
def fitQ (r : Nat → Int32) (ne nt kn : Nat) : Prop := ¬ hC r kn ne < 2 ∧ spW r ne nt kn (nI (plc r ne nt kn)) ≤ 1000 * (r 4).toInt64
def fitN (r : Nat → Int32) (ne nt : Nat) : Nat → Nat
  | 0 => 0
  | k + 1 => fitN r ne nt k + (if ¬ hC r k ne < 2 ∧ spW r ne nt k (nI (plc r ne nt k)) ≤ 1000 * (r 4).toInt64 then 1 else 0)
def sCount (r : Nat → Int32) (ne nt nk nh ln : Nat) (what : Int32) : Int32 :=
  if what = 0 then r 0 else if what = 1 then r 1 else if what = 2 then r 2 else if what = 3 then r 3 else if what = 4 then r 4 else if what = 5 then r 5
  else if what = 6 then sumN (fun ee => r (6 + 4 * ee + 1)) ne else if what = 7 then sumN (fun ee => r (46 + 5 * ee + 4)) nt else if what = 8 then nI (fitN r ne nt nk) else if what = 9 then nI nh else if what = 10 then nI ln else -2
