def sCk (r : Nat → Int32) (ne : Nat) (ear t : Int32) : Int32 := if ear < 0 ∨ ne ≤ ear.toNatClampNeg then -1 else if 0 ≤ t ∧ t ≤ 200000 then rdc r ear.toNatClampNeg t + 10000 else -2
def sMark (r : Nat → Int32) (ne nt : Nat) (ear mk what : Int32) : Int32 :=
  if ear < 0 ∨ ne ≤ ear.toNatClampNeg then -1 else if mk < 0 ∨ ¬ (0 ≤ what ∧ what ≤ 2) then -2 else if mC r ear.toNatClampNeg nt ≤ mk.toNatClampNeg then -5
  else if what = 0 then mRd r ear.toNatClampNeg nt mk.toNatClampNeg + 10000 else if what = 1 then mEr r ear.toNatClampNeg nt mk.toNatClampNeg + 10000 else mTh r ear.toNatClampNeg nt mk.toNatClampNeg
def sErr (r : Nat → Int32) (ne nt : Nat) (ear c : Int32) : Int64 := if ear < 0 ∨ ne ≤ ear.toNatClampNeg then toldAs (-1) else if -10000 ≤ c ∧ c ≤ 300000 then errR r ear.toNatClampNeg nt c else toldAs (-2)
def lth (r : Nat → Int32) (nt e : Nat) : Int32 := if mC r e nt = 0 then -1 else mTh r e nt (mC r e nt - 1)
def stF (r : Nat → Int32) (nt : Nat) : Nat → Int32 × Int32
  | 0 => (-5, 10)
  | e + 1 => if lth r nt e < (stF r nt e).2 then (nI e, lth r nt e) else stF r nt e
theorem stF_t {r : Nat → Int32} {nt e : Nat} (h : lth r nt e < (stF r nt e).2) : stF r nt (e + 1) = (nI e, lth r nt e) := by
  conv => lhs; unfold stF
  exact if_pos h
theorem stF_f {r : Nat → Int32} {nt e : Nat} (h : ¬ lth r nt e < (stF r nt e).2) : stF r nt (e + 1) = stF r nt e := by
  conv => lhs; unfold stF
  exact if_neg h
def sHeard (r : Nat → Int32) (ne nt nk : Nat) (kb num ear : Int32) : Int32 :=
  if (num < 0 ∨ (if kb = 0 then nt else nk) ≤ num.toNatClampNeg) ∨ (ear < 0 ∨ ne ≤ ear.toNatClampNeg) then -1
  else if r (146 + 100 * (if kb = 0 then 0 else 1) + 10 * num.toNatClampNeg + ear.toNatClampNeg) = MISS then -5 else r (146 + 100 * (if kb = 0 then 0 else 1) + 10 * num.toNatClampNeg + ear.toNatClampNeg) + 10000
def sPut (r : Nat → Int32) (ne nt nk : Nat) (kn ear : Int32) : Int64 :=
  if (kn < 0 ∨ nk ≤ kn.toNatClampNeg) ∨ (ear < 0 ∨ ne ≤ ear.toNatClampNeg) then toldAs (-1)
  else if r (146 + 100 * 1 + 10 * kn.toNatClampNeg + ear.toNatClampNeg) = MISS then toldAs (-5) else rgt r nt kn.toNatClampNeg ear.toNatClampNeg
/-- the answers of ear -/
def sEar (r : Nat → Int32) (ne nt nk : Nat) (ear what : Int32) : Int32 :=
  if ear < 0 ∨ ne ≤ ear.toNatClampNeg then -1
  else if what = 0 then r (6 + 4 * ear.toNatClampNeg + 0) else if what = 1 then r (6 + 4 * ear.toNatClampNeg + 1) else if what = 2 then r (6 + 4 * ear.toNatClampNeg + 2) + 1000 else if what = 3 then r (6 + 4 * ear.toNatClampNeg + 3) + 1000
  else if what = 4 then nI (mC r ear.toNatClampNeg nt) else if what = 5 then (if mC r ear.toNatClampNeg nt = 0 then -5 else mRd r ear.toNatClampNeg nt (mC r ear.toNatClampNeg nt - 1) + 10000)
  else if what = 6 then nI (kC r ear.toNatClampNeg nk) else -2
theorem ne_lit {x : Int32} {n : Nat} {y : Int32} (hx : x = nI n) (hy : ¬ nI n = y) : ¬ x = y := by rw [hx]; exact hy
